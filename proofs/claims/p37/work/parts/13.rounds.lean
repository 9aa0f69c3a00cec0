set_option maxHeartbeats 4000000 in
set_option maxRecDepth 100000 in
theorem sX4_isByCall (l : Launch) (G : va_G) (y : Nat → ClassId) (sz : Nat) (o1 : Nat) (a2 : Int32) (a3 : Int32) (o1_town : Nat) (o1_code : Nat) (o1_debts : Nat) (o1_deeds : Nat) (o1_knows : Nat) (o1_day : Int32) (o1_paid : Int32) (o1_follows : Nat) (o1_debts_size : Int32) (o1_debts_debtor : Nat) (o1_debts_creditor : Nat) (o1_debts_kind : Nat) (o1_debts_due : Nat) (o1_debts_came : Nat) (o1_debts_open : Nat) (o1_debts_kinds : Nat) (fo1_debts_kinds : Nat → Int32) (p_o1_debts_size : (0 : Int) ≤ o1_debts_size.toInt ∧ o1_debts_size.toInt ≤ 600) (p_o1_day : (0 : Int) ≤ o1_day.toInt ∧ o1_day.toInt ≤ 399) (p_a2 : (0 : Int) ≤ a2.toInt ∧ a2.toInt ≤ 15) (p_a3 : (0 : Int) ≤ a3.toInt ∧ a3.toInt ≤ 15) : Met l yX4_isByCall (Cond.code yX4_isByCall cX4_isByCall 3 (some .boolean) :: wAll) ({ frames := 1, cells := 0, slots := 0, locals := 22 }) (va_Pc [.ref o1, .int a2, .int a3] (kp G y sz [(ce_X6 o1 o1_town o1_code o1_debts o1_deeds o1_knows o1_day o1_paid o1_follows), (ce_X1 o1_debts o1_debts_size o1_debts_debtor o1_debts_creditor o1_debts_kind o1_debts_due o1_debts_came o1_debts_open o1_debts_kinds), (ce_i256 y o1_debts_kinds fo1_debts_kinds)])) (va_Qi (fun (r : Int32) (w : va_W) => (r = 0 ∧ w = [(ce_X6 o1 o1_town o1_code o1_debts o1_deeds o1_knows o1_day o1_paid o1_follows), (ce_X1 o1_debts o1_debts_size o1_debts_debtor o1_debts_creditor o1_debts_kind o1_debts_due o1_debts_came o1_debts_open o1_debts_kinds), (ce_i256 y o1_debts_kinds fo1_debts_kinds)]) ∨ (r = 1 ∧ w = [(ce_X6 o1 o1_town o1_code o1_debts o1_deeds o1_knows o1_day o1_paid o1_follows), (ce_X1 o1_debts o1_debts_size o1_debts_debtor o1_debts_creditor o1_debts_kind o1_debts_due o1_debts_came o1_debts_open o1_debts_kinds), (ce_i256 y o1_debts_kinds fo1_debts_kinds)])) (kq G (va_A [(ce_X6 o1 o1_town o1_code o1_debts o1_deeds o1_knows o1_day o1_paid o1_follows), (ce_X1 o1_debts o1_debts_size o1_debts_debtor o1_debts_creditor o1_debts_kind o1_debts_due o1_debts_came o1_debts_open o1_debts_kinds), (ce_i256 y o1_debts_kinds fo1_debts_kinds)] sz)) (va_A [(ce_X6 o1 o1_town o1_code o1_debts o1_deeds o1_knows o1_day o1_paid o1_follows), (ce_X1 o1_debts o1_debts_size o1_debts_debtor o1_debts_creditor o1_debts_kind o1_debts_due o1_debts_came o1_debts_open o1_debts_kinds), (ce_i256 y o1_debts_kinds fo1_debts_kinds)] sz)) 0 0 (va_A [(ce_X6 o1 o1_town o1_code o1_debts o1_deeds o1_knows o1_day o1_paid o1_follows), (ce_X1 o1_debts o1_debts_size o1_debts_debtor o1_debts_creditor o1_debts_kind o1_debts_due o1_debts_came o1_debts_open o1_debts_kinds), (ce_i256 y o1_debts_kinds fo1_debts_kinds)] sz) := by
  refine Met.ofW (cc := cX4_isByCall) (maxL := 3) (ret := (some .boolean)) (by decide) rfl ?_
  intro p e s m args below meth c s₁ B hml hv
  obtain ⟨rfl, hsz, hP, hK, hD0⟩ := hv
  have hx := B.exec
  have hb := B.bytes
  have hr := B.returns
  have hw0 : ∀ w ∈ wAll, w.before _ s = true := fun w h => atoms_spec (ws := Cond.code yX4_isByCall cX4_isByCall 3 (some .boolean) :: wAll) B.pre w (List.mem_cons_of_mem _ h)
  have hown : s.vm.findClass RX4 = some m.cls := findClass_of_methodNamed B.named
  subst hsz
  have hD := hD0.self (sz := s.heap.size)
  generalize hAe : va_A [(ce_X6 o1 o1_town o1_code o1_debts o1_deeds o1_knows o1_day o1_paid o1_follows), (ce_X1 o1_debts o1_debts_size o1_debts_debtor o1_debts_creditor o1_debts_kind o1_debts_due o1_debts_came o1_debts_open o1_debts_kinds), (ce_i256 y o1_debts_kinds fo1_debts_kinds)] s.heap.size = A at hD ⊢
  have hA : ∀ q : Nat, s.heap.size ≤ q → A q := fun q h => by rw [← hAe]; exact Or.inr h
  have hS : va_S A s.heap s.heap [] := va_S.rf
  have hP : va_P G vwCl [(ce_X6 o1 o1_town o1_code o1_debts o1_deeds o1_knows o1_day o1_paid o1_follows), (ce_X1 o1_debts o1_debts_size o1_debts_debtor o1_debts_creditor o1_debts_kind o1_debts_due o1_debts_came o1_debts_open o1_debts_kinds), (ce_i256 y o1_debts_kinds fo1_debts_kinds)] s.heap := hP
  have hl := lv_entry ([.ref o1, .int a2, .int a3]) (n := 3) (Nat.le_of_ble_eq_true rfl)
  rw [lg_entry_eq]
  generalize (lg_sl ([.ref o1, .int a2, .int a3]) ++ List.replicate (3 - (lg_sl ([.ref o1, .int a2, .int a3])).length) Slot.unset).toArray = ls at hl ⊢
  have hl : lv_has ls 3 [(0, .ref o1), (1, .int a2), (2, .int a3)] := hl
  refine lv_aload_n hx hb dX4_isByCall_0 rfl (lv_at hl 0 rfl) ?_
  refine va_get (D := G) (ci := 6) (v := .ref o1_debts) (C := RX6) (T := TX6) (N := 8) hx hb hw0 inA_wsX60 hown hK.1 hP 0 rfl rfl 2 (by decide) (hw0 _ m_836) (fun _ h9 => h9) rfl dX4_isByCall_1 ?_
  refine lv_iload_n hx hb dX4_isByCall_4 rfl (lv_at hl 1 rfl) ?_
  refine lv_iload_n hx hb dX4_isByCall_5 rfl (lv_at hl 2 rfl) ?_
  refine cVim (As := [.int a2, .int a3]) (rest := []) ⟨hx, hb, hml, hown, hw0⟩ hA hK hP hD hS [false, true, true] (sX1_kindsOf l G y _ o1_debts a2 a3 o1_debts_size o1_debts_debtor o1_debts_creditor o1_debts_kind o1_debts_due o1_debts_came o1_debts_open o1_debts_kinds fo1_debts_kinds p_o1_debts_size p_a2 p_a3) rfl ⟨(callB_of 2 hw0 (gA m_323) rfl rfl rfl (hw0 _ m_330) (hw0 _ m_837) cb_X1_kindsOf ⟨Nat.le_of_ble_eq_true rfl, Nat.le_of_ble_eq_true rfl⟩), (hw0 _ m_331), (hw0 _ m_332)⟩ (ci := 1) (q := (RX1, TX1, 8)) rfl rfl rfl hl.1 (Nat.le_of_ble_eq_true rfl) dX4_isByCall_6 ⟨Nat.le_of_ble_eq_true rfl, Nat.le_of_ble_eq_true rfl⟩ (fun r_1001 w_1001 H locs hw_1001 hP hD hS => ?_)
  obtain ⟨v_1002, er_1001, rfl⟩ := hw_1001
  subst r_1001
  obtain ⟨hP, hD⟩ : vPD G A H [(ce_X6 o1 o1_town o1_code o1_debts o1_deeds o1_knows o1_day o1_paid o1_follows), (ce_X1 o1_debts o1_debts_size o1_debts_debtor o1_debts_creditor o1_debts_kind o1_debts_due o1_debts_came o1_debts_open o1_debts_kinds), (ce_i256 y o1_debts_kinds fo1_debts_kinds)] := ⟨hP, hD⟩
  refine lv_iconst (v := 2) hx hb dX4_isByCall_9 (by decide) ?_
  refine lv_ishr hx hb dX4_isByCall_10 ?_
  refine lv_topi (fun v_1003 ev_1003 => ?_)
  refine lv_if_eq (tgt := 18) hx hb dX4_isByCall_11 (by decide) (fun c_1004 => ?_) (fun c_1004 => ?_)
  · skip
    have nc_1004 := nb_eq (0) (0) c_1004 (btop v_1003) (bkc (x := 0) (c := 0) (by decide)) (by decide)
    refine lv_iconst (v := 0) hx hb dX4_isByCall_18 (by decide) ?_
    exact W.zret (v := 0) hx hb hr rfl (fun t ht hW => ⟨⟨0, _, rfl, Or.inl (⟨rfl, rfl⟩), by rw [ht]; exact hP, hD⟩, hS.F ht⟩) hS.2.2 dX4_isByCall_19
  · skip
    have nc_1004 := nb_ne (-2147483648) (2147483647) c_1004 (btop v_1003) (k := 0) (by decide) (by decide)
    refine lv_iconst (v := 1) hx hb dX4_isByCall_14 (by decide) ?_
    refine lv_goto (tgt := 19) hx hb dX4_isByCall_15 (by decide) ?_
    exact W.zret (v := 1) hx hb hr rfl (fun t ht hW => ⟨⟨1, _, rfl, Or.inr (⟨rfl, rfl⟩), by rw [ht]; exact hP, hD⟩, hS.F ht⟩) hS.2.2 dX4_isByCall_19

set_option maxHeartbeats 4000000 in
set_option maxRecDepth 100000 in
theorem sX4_isAtHome (l : Launch) (G : va_G) (y : Nat → ClassId) (sz : Nat) (o1 : Nat) (a2 : Int32) (a3 : Int32) (a4 : Int32) (o1_town : Nat) (o1_code : Nat) (o1_debts : Nat) (o1_deeds : Nat) (o1_knows : Nat) (o1_day : Int32) (o1_paid : Int32) (o1_follows : Nat) (o1_town_houses : Int32) (o1_town_fresh : Int32) (o1_town_introducers : Int32) (o1_town_x : Nat) (o1_town_y : Nat) (o1_town_rank : Nat) (o1_town_weekday : Nat) (o1_town_from : Nat) (o1_town_to : Nat) (o1_town_came : Nat) (o1_town_bride : Nat) (o1_town_told : Nat) (fo1_town_weekday : Nat → Int32) (o1_debts_size : Int32) (o1_debts_debtor : Nat) (o1_debts_creditor : Nat) (o1_debts_kind : Nat) (o1_debts_due : Nat) (o1_debts_came : Nat) (o1_debts_open : Nat) (o1_debts_kinds : Nat) (fo1_debts_kinds : Nat → Int32) (p_o1_town_houses : (0 : Int) ≤ o1_town_houses.toInt ∧ o1_town_houses.toInt ≤ 16) (p_o1_debts_size : (0 : Int) ≤ o1_debts_size.toInt ∧ o1_debts_size.toInt ≤ 600) (p_o1_day : (0 : Int) ≤ o1_day.toInt ∧ o1_day.toInt ≤ 399) (p_a2 : (0 : Int) ≤ a2.toInt ∧ a2.toInt ≤ 15) (p_a3 : (0 : Int) ≤ a3.toInt ∧ a3.toInt ≤ 15) (p_a4 : (0 : Int) ≤ a4.toInt ∧ a4.toInt ≤ 405) : Met l yX4_isAtHome (Cond.code yX4_isAtHome cX4_isAtHome 4 (some .boolean) :: wAll) ({ frames := 2, cells := 0, slots := 0, locals := 44 }) (va_Pc [.ref o1, .int a2, .int a3, .int a4] (kp G y sz [(ce_X6 o1 o1_town o1_code o1_debts o1_deeds o1_knows o1_day o1_paid o1_follows), (ce_X7 o1_town o1_town_houses o1_town_fresh o1_town_introducers o1_town_x o1_town_y o1_town_rank o1_town_weekday o1_town_from o1_town_to o1_town_came o1_town_bride o1_town_told), (ce_i16 y o1_town_weekday fo1_town_weekday), (ce_X1 o1_debts o1_debts_size o1_debts_debtor o1_debts_creditor o1_debts_kind o1_debts_due o1_debts_came o1_debts_open o1_debts_kinds), (ce_i256 y o1_debts_kinds fo1_debts_kinds)])) (va_Qi (fun (r : Int32) (w : va_W) => (r = 0 ∧ w = [(ce_X6 o1 o1_town o1_code o1_debts o1_deeds o1_knows o1_day o1_paid o1_follows), (ce_X7 o1_town o1_town_houses o1_town_fresh o1_town_introducers o1_town_x o1_town_y o1_town_rank o1_town_weekday o1_town_from o1_town_to o1_town_came o1_town_bride o1_town_told), (ce_i16 y o1_town_weekday fo1_town_weekday), (ce_X1 o1_debts o1_debts_size o1_debts_debtor o1_debts_creditor o1_debts_kind o1_debts_due o1_debts_came o1_debts_open o1_debts_kinds), (ce_i256 y o1_debts_kinds fo1_debts_kinds)]) ∨ (r = 1 ∧ w = [(ce_X6 o1 o1_town o1_code o1_debts o1_deeds o1_knows o1_day o1_paid o1_follows), (ce_X7 o1_town o1_town_houses o1_town_fresh o1_town_introducers o1_town_x o1_town_y o1_town_rank o1_town_weekday o1_town_from o1_town_to o1_town_came o1_town_bride o1_town_told), (ce_i16 y o1_town_weekday fo1_town_weekday), (ce_X1 o1_debts o1_debts_size o1_debts_debtor o1_debts_creditor o1_debts_kind o1_debts_due o1_debts_came o1_debts_open o1_debts_kinds), (ce_i256 y o1_debts_kinds fo1_debts_kinds)])) (kq G (va_A [(ce_X6 o1 o1_town o1_code o1_debts o1_deeds o1_knows o1_day o1_paid o1_follows), (ce_X7 o1_town o1_town_houses o1_town_fresh o1_town_introducers o1_town_x o1_town_y o1_town_rank o1_town_weekday o1_town_from o1_town_to o1_town_came o1_town_bride o1_town_told), (ce_i16 y o1_town_weekday fo1_town_weekday), (ce_X1 o1_debts o1_debts_size o1_debts_debtor o1_debts_creditor o1_debts_kind o1_debts_due o1_debts_came o1_debts_open o1_debts_kinds), (ce_i256 y o1_debts_kinds fo1_debts_kinds)] sz)) (va_A [(ce_X6 o1 o1_town o1_code o1_debts o1_deeds o1_knows o1_day o1_paid o1_follows), (ce_X7 o1_town o1_town_houses o1_town_fresh o1_town_introducers o1_town_x o1_town_y o1_town_rank o1_town_weekday o1_town_from o1_town_to o1_town_came o1_town_bride o1_town_told), (ce_i16 y o1_town_weekday fo1_town_weekday), (ce_X1 o1_debts o1_debts_size o1_debts_debtor o1_debts_creditor o1_debts_kind o1_debts_due o1_debts_came o1_debts_open o1_debts_kinds), (ce_i256 y o1_debts_kinds fo1_debts_kinds)] sz)) 0 0 (va_A [(ce_X6 o1 o1_town o1_code o1_debts o1_deeds o1_knows o1_day o1_paid o1_follows), (ce_X7 o1_town o1_town_houses o1_town_fresh o1_town_introducers o1_town_x o1_town_y o1_town_rank o1_town_weekday o1_town_from o1_town_to o1_town_came o1_town_bride o1_town_told), (ce_i16 y o1_town_weekday fo1_town_weekday), (ce_X1 o1_debts o1_debts_size o1_debts_debtor o1_debts_creditor o1_debts_kind o1_debts_due o1_debts_came o1_debts_open o1_debts_kinds), (ce_i256 y o1_debts_kinds fo1_debts_kinds)] sz) := by
  refine Met.ofW (cc := cX4_isAtHome) (maxL := 4) (ret := (some .boolean)) (by decide) rfl ?_
  intro p e s m args below meth c s₁ B hml hv
  obtain ⟨rfl, hsz, hP, hK, hD0⟩ := hv
  have hx := B.exec
  have hb := B.bytes
  have hr := B.returns
  have hw0 : ∀ w ∈ wAll, w.before _ s = true := fun w h => atoms_spec (ws := Cond.code yX4_isAtHome cX4_isAtHome 4 (some .boolean) :: wAll) B.pre w (List.mem_cons_of_mem _ h)
  have hown : s.vm.findClass RX4 = some m.cls := findClass_of_methodNamed B.named
  subst hsz
  have hD := hD0.self (sz := s.heap.size)
  generalize hAe : va_A [(ce_X6 o1 o1_town o1_code o1_debts o1_deeds o1_knows o1_day o1_paid o1_follows), (ce_X7 o1_town o1_town_houses o1_town_fresh o1_town_introducers o1_town_x o1_town_y o1_town_rank o1_town_weekday o1_town_from o1_town_to o1_town_came o1_town_bride o1_town_told), (ce_i16 y o1_town_weekday fo1_town_weekday), (ce_X1 o1_debts o1_debts_size o1_debts_debtor o1_debts_creditor o1_debts_kind o1_debts_due o1_debts_came o1_debts_open o1_debts_kinds), (ce_i256 y o1_debts_kinds fo1_debts_kinds)] s.heap.size = A at hD ⊢
  have hA : ∀ q : Nat, s.heap.size ≤ q → A q := fun q h => by rw [← hAe]; exact Or.inr h
  have hS : va_S A s.heap s.heap [] := va_S.rf
  have hP : va_P G vwCl [(ce_X6 o1 o1_town o1_code o1_debts o1_deeds o1_knows o1_day o1_paid o1_follows), (ce_X7 o1_town o1_town_houses o1_town_fresh o1_town_introducers o1_town_x o1_town_y o1_town_rank o1_town_weekday o1_town_from o1_town_to o1_town_came o1_town_bride o1_town_told), (ce_i16 y o1_town_weekday fo1_town_weekday), (ce_X1 o1_debts o1_debts_size o1_debts_debtor o1_debts_creditor o1_debts_kind o1_debts_due o1_debts_came o1_debts_open o1_debts_kinds), (ce_i256 y o1_debts_kinds fo1_debts_kinds)] s.heap := hP
  have hl := lv_entry ([.ref o1, .int a2, .int a3, .int a4]) (n := 4) (Nat.le_of_ble_eq_true rfl)
  rw [lg_entry_eq]
  generalize (lg_sl ([.ref o1, .int a2, .int a3, .int a4]) ++ List.replicate (4 - (lg_sl ([.ref o1, .int a2, .int a3, .int a4])).length) Slot.unset).toArray = ls at hl ⊢
  have hl : lv_has ls 4 [(0, .ref o1), (1, .int a2), (2, .int a3), (3, .int a4)] := hl
  refine lv_aload_n hx hb dX4_isAtHome_0 rfl (lv_at hl 0 rfl) ?_
  refine lv_iload_n hx hb dX4_isAtHome_1 rfl (lv_at hl 1 rfl) ?_
  refine lv_iload_n hx hb dX4_isAtHome_2 rfl (lv_at hl 2 rfl) ?_
  refine cutW 25 (fun H locs ls st => st = [] ∧ vPD G A H [(ce_X6 o1 o1_town o1_code o1_debts o1_deeds o1_knows o1_day o1_paid o1_follows), (ce_X7 o1_town o1_town_houses o1_town_fresh o1_town_introducers o1_town_x o1_town_y o1_town_rank o1_town_weekday o1_town_from o1_town_to o1_town_came o1_town_bride o1_town_told), (ce_i16 y o1_town_weekday fo1_town_weekday), (ce_X1 o1_debts o1_debts_size o1_debts_debtor o1_debts_creditor o1_debts_kind o1_debts_due o1_debts_came o1_debts_open o1_debts_kinds), (ce_i256 y o1_debts_kinds fo1_debts_kinds)] ∧ va_S A s.heap H locs ∧ lv_has ls 4 []) ?_ (fun J_25_1004 => ?_)
  · rintro H locs ls st ⟨rfl, ⟨hP, hD⟩, hS, hl⟩
    refine lv_iconst (v := 1) hx hb dX4_isAtHome_25 (by decide) ?_
    refine lv_goto (tgt := 30) hx hb dX4_isAtHome_26 (by decide) ?_
    exact W.zret (v := 1) hx hb hr rfl (fun t ht hW => ⟨⟨1, _, rfl, Or.inr (⟨rfl, rfl⟩), by rw [ht]; exact hP, hD⟩, hS.F ht⟩) hS.2.2 dX4_isAtHome_30
  · skip
    refine cSim (As := [.ref o1, .int a2, .int a3]) (rest := []) ⟨hx, hb, hml, hown, hw0⟩ hA hK hP hD hS [true, false, false, true, true] (sX4_isByCall l G y _ o1 a2 a3 o1_town o1_code o1_debts o1_deeds o1_knows o1_day o1_paid o1_follows o1_debts_size o1_debts_debtor o1_debts_creditor o1_debts_kind o1_debts_due o1_debts_came o1_debts_open o1_debts_kinds fo1_debts_kinds p_o1_debts_size p_o1_day p_a2 p_a3) rfl ⟨(callB_of 3 hw0 (gA m_904) rfl rfl rfl (hw0 _ m_839) (hw0 _ m_901) cb_X4_isByCall ⟨Nat.le_of_ble_eq_true rfl, Nat.le_of_ble_eq_true rfl⟩), (hw0 _ m_902)⟩ rfl hl.1 (Nat.le_of_ble_eq_true rfl) dX4_isAtHome_3 ⟨Nat.le_of_ble_eq_true rfl, Nat.le_of_ble_eq_true rfl⟩ (fun r_1005 w_1005 H locs hw_1005 hP hD hS => ?_)
    rcases hw_1005 with ⟨rfl, rfl⟩ | ⟨rfl, rfl⟩
    · skip
      obtain ⟨hP, hD⟩ : vPD G A H [(ce_X6 o1 o1_town o1_code o1_debts o1_deeds o1_knows o1_day o1_paid o1_follows), (ce_X7 o1_town o1_town_houses o1_town_fresh o1_town_introducers o1_town_x o1_town_y o1_town_rank o1_town_weekday o1_town_from o1_town_to o1_town_came o1_town_bride o1_town_told), (ce_i16 y o1_town_weekday fo1_town_weekday), (ce_X1 o1_debts o1_debts_size o1_debts_debtor o1_debts_creditor o1_debts_kind o1_debts_due o1_debts_came o1_debts_open o1_debts_kinds), (ce_i256 y o1_debts_kinds fo1_debts_kinds)] := ⟨hP, hD⟩
      refine lv_if_eq (tgt := 25) hx hb dX4_isAtHome_6 (by decide) (fun _ => ?_) (fun c9 => absurd (by decide) c9)
      exact J_25_1004 _ _ _ _ ⟨rfl, ⟨hP, hD⟩, hS, lv_sub hl [] rfl⟩
    · skip
      obtain ⟨hP, hD⟩ : vPD G A H [(ce_X6 o1 o1_town o1_code o1_debts o1_deeds o1_knows o1_day o1_paid o1_follows), (ce_X7 o1_town o1_town_houses o1_town_fresh o1_town_introducers o1_town_x o1_town_y o1_town_rank o1_town_weekday o1_town_from o1_town_to o1_town_came o1_town_bride o1_town_told), (ce_i16 y o1_town_weekday fo1_town_weekday), (ce_X1 o1_debts o1_debts_size o1_debts_debtor o1_debts_creditor o1_debts_kind o1_debts_due o1_debts_came o1_debts_open o1_debts_kinds), (ce_i256 y o1_debts_kinds fo1_debts_kinds)] := ⟨hP, hD⟩
      refine lv_if_eq (tgt := 25) hx hb dX4_isAtHome_6 (by decide) (fun c9 => absurd c9 (by decide)) (fun _ => ?_)
      refine lv_aload_n hx hb dX4_isAtHome_9 rfl (lv_at hl 0 rfl) ?_
      refine va_get (D := G) (ci := 6) (v := .ref o1_town) (C := RX6) (T := TX6) (N := 8) hx hb hw0 inA_wsX60 hown hK.1 hP 0 rfl rfl 0 (by decide) (hw0 _ m_845) (fun _ h9 => h9) rfl dX4_isAtHome_10 ?_
      refine va_get (D := G) (ci := 7) (v := .ref o1_town_weekday) (C := RX7) (T := TX7) (N := 12) hx hb hw0 inA_wsX70 hown hK.1 hP 1 rfl rfl 6 (by decide) (hw0 _ m_903) (fun _ h9 => h9) rfl dX4_isAtHome_13 ?_
      refine lv_iload_n hx hb dX4_isAtHome_16 rfl (lv_at hl 2 rfl) ?_
      refine va_iald hx hb hK.1 hP 2 1 rfl rfl (vi p_a3 (by decide)) dX4_isAtHome_17 ?_
      refine lv_topi (fun v_1006 ev_1006 => ?_)
      refine lv_iload_n hx hb dX4_isAtHome_18 rfl (lv_at hl 3 rfl) ?_
      refine lv_bipush (v := 7) hx hb dX4_isAtHome_19 (by decide) ?_
      refine lv_irem hx hb dX4_isAtHome_21 (by decide) ?_
      refine lv_topi (fun v_1007 ev_1007 => ?_)
      have bv_1007 : (0 : Int) ≤ v_1007.toInt ∧ v_1007.toInt ≤ 6 := ba_rem 7 ev_1007 p_a4 (by decide) (by decide) (by decide)
      refine lv_icmp_ne (tgt := 29) hx hb dX4_isAtHome_22 (by decide) (fun c_1008 => ?_) (fun c_1008 => ?_)
      · skip
        refine lv_iconst (v := 0) hx hb dX4_isAtHome_29 (by decide) ?_
        exact W.zret (v := 0) hx hb hr rfl (fun t ht hW => ⟨⟨0, _, rfl, Or.inl (⟨rfl, rfl⟩), by rw [ht]; exact hP, hD⟩, hS.F ht⟩) hS.2.2 dX4_isAtHome_30
      · skip
        have nc_1008 := nb_eq (0) (6) c_1008 (btop v_1006) bv_1007 (by decide)
        exact J_25_1004 _ _ _ _ ⟨rfl, ⟨hP, hD⟩, hS, lv_sub hl [] rfl⟩

set_option maxHeartbeats 4000000 in
set_option maxRecDepth 100000 in
theorem sX4_lookAt (l : Launch) (G : va_G) (y : Nat → ClassId) (sz : Nat) (ob : Nat) (o1 : Nat) (a2 : Int32) (a3 : Int32) (ob_planned : Int32) (ob_bestWorth : Int32) (ob_bestOver : Int32) (ob_length : Int32) (ob_order : Nat) (ob_owner : Int32) (ob_weekday : Int32) (ob_spots : Int32) (ob_spot : Nat) (ob_deadline : Nat) (ob_opens : Nat) (ob_closes : Nat) (ob_stays : Nat) (ob_apart : Nat) (ob_minute : Nat) (ob_soonest : Nat) (ob_sums : Nat) (fob_opens : Nat → Int32) (fob_closes : Nat → Int32) (fob_stays : Nat → Int32) (o1_town : Nat) (o1_code : Nat) (o1_debts : Nat) (o1_deeds : Nat) (o1_knows : Nat) (o1_day : Int32) (o1_paid : Int32) (o1_follows : Nat) (o1_town_houses : Int32) (o1_town_fresh : Int32) (o1_town_introducers : Int32) (o1_town_x : Nat) (o1_town_y : Nat) (o1_town_rank : Nat) (o1_town_weekday : Nat) (o1_town_from : Nat) (o1_town_to : Nat) (o1_town_came : Nat) (o1_town_bride : Nat) (o1_town_told : Nat) (fo1_town_from : Nat → Int32) (fo1_town_to : Nat → Int32) (o1_debts_size : Int32) (o1_debts_debtor : Nat) (o1_debts_creditor : Nat) (o1_debts_kind : Nat) (o1_debts_due : Nat) (o1_debts_came : Nat) (o1_debts_open : Nat) (o1_debts_kinds : Nat) (fo1_debts_kinds : Nat → Int32) (p_ob_planned : (0 : Int) ≤ ob_planned.toInt ∧ ob_planned.toInt ≤ 1) (p_ob_length : (0 : Int) ≤ ob_length.toInt ∧ ob_length.toInt ≤ 10) (p_ob_spots : (0 : Int) ≤ ob_spots.toInt ∧ ob_spots.toInt ≤ 10) (p_o1_town_houses : (0 : Int) ≤ o1_town_houses.toInt ∧ o1_town_houses.toInt ≤ 16) (p_o1_debts_size : (0 : Int) ≤ o1_debts_size.toInt ∧ o1_debts_size.toInt ≤ 600) (p_o1_day : (0 : Int) ≤ o1_day.toInt ∧ o1_day.toInt ≤ 399) (p_a2 : (0 : Int) ≤ a2.toInt ∧ a2.toInt ≤ 15) (p_a3 : (0 : Int) ≤ a3.toInt ∧ a3.toInt ≤ 15) : Met l yX4_lookAt (Cond.code yX4_lookAt cX4_lookAt 5 none :: wAll) ({ frames := 2, cells := 0, slots := 0, locals := 44 }) (va_Pc [.ref ob, .ref o1, .int a2, .int a3] (kp G y sz [(ce_X4 ob ob_planned ob_bestWorth ob_bestOver ob_length ob_order ob_owner ob_weekday ob_spots ob_spot ob_deadline ob_opens ob_closes ob_stays ob_apart ob_minute ob_soonest ob_sums), (ce_i16 y ob_opens fob_opens), (ce_i16 y ob_closes fob_closes), (ce_i16 y ob_stays fob_stays), (ce_X6 o1 o1_town o1_code o1_debts o1_deeds o1_knows o1_day o1_paid o1_follows), (ce_X7 o1_town o1_town_houses o1_town_fresh o1_town_introducers o1_town_x o1_town_y o1_town_rank o1_town_weekday o1_town_from o1_town_to o1_town_came o1_town_bride o1_town_told), (ce_i16 y o1_town_from fo1_town_from), (ce_i16 y o1_town_to fo1_town_to), (ce_X1 o1_debts o1_debts_size o1_debts_debtor o1_debts_creditor o1_debts_kind o1_debts_due o1_debts_came o1_debts_open o1_debts_kinds), (ce_i256 y o1_debts_kinds fo1_debts_kinds)])) (va_Qv (fun (w : va_W) => (∃ (f_35 : Nat → Int32) (f_36 : Nat → Int32) (f_37 : Nat → Int32), w = [(ce_X4 ob ob_planned ob_bestWorth ob_bestOver ob_length ob_order ob_owner ob_weekday ob_spots ob_spot ob_deadline ob_opens ob_closes ob_stays ob_apart ob_minute ob_soonest ob_sums), (ce_i16 y ob_opens f_35), (ce_i16 y ob_closes f_36), (ce_i16 y ob_stays f_37), (ce_X6 o1 o1_town o1_code o1_debts o1_deeds o1_knows o1_day o1_paid o1_follows), (ce_X7 o1_town o1_town_houses o1_town_fresh o1_town_introducers o1_town_x o1_town_y o1_town_rank o1_town_weekday o1_town_from o1_town_to o1_town_came o1_town_bride o1_town_told), (ce_i16 y o1_town_from fo1_town_from), (ce_i16 y o1_town_to fo1_town_to), (ce_X1 o1_debts o1_debts_size o1_debts_debtor o1_debts_creditor o1_debts_kind o1_debts_due o1_debts_came o1_debts_open o1_debts_kinds), (ce_i256 y o1_debts_kinds fo1_debts_kinds)])) (kq G (va_A [(ce_X4 ob ob_planned ob_bestWorth ob_bestOver ob_length ob_order ob_owner ob_weekday ob_spots ob_spot ob_deadline ob_opens ob_closes ob_stays ob_apart ob_minute ob_soonest ob_sums), (ce_i16 y ob_opens fob_opens), (ce_i16 y ob_closes fob_closes), (ce_i16 y ob_stays fob_stays), (ce_X6 o1 o1_town o1_code o1_debts o1_deeds o1_knows o1_day o1_paid o1_follows), (ce_X7 o1_town o1_town_houses o1_town_fresh o1_town_introducers o1_town_x o1_town_y o1_town_rank o1_town_weekday o1_town_from o1_town_to o1_town_came o1_town_bride o1_town_told), (ce_i16 y o1_town_from fo1_town_from), (ce_i16 y o1_town_to fo1_town_to), (ce_X1 o1_debts o1_debts_size o1_debts_debtor o1_debts_creditor o1_debts_kind o1_debts_due o1_debts_came o1_debts_open o1_debts_kinds), (ce_i256 y o1_debts_kinds fo1_debts_kinds)] sz)) (va_A [(ce_X4 ob ob_planned ob_bestWorth ob_bestOver ob_length ob_order ob_owner ob_weekday ob_spots ob_spot ob_deadline ob_opens ob_closes ob_stays ob_apart ob_minute ob_soonest ob_sums), (ce_i16 y ob_opens fob_opens), (ce_i16 y ob_closes fob_closes), (ce_i16 y ob_stays fob_stays), (ce_X6 o1 o1_town o1_code o1_debts o1_deeds o1_knows o1_day o1_paid o1_follows), (ce_X7 o1_town o1_town_houses o1_town_fresh o1_town_introducers o1_town_x o1_town_y o1_town_rank o1_town_weekday o1_town_from o1_town_to o1_town_came o1_town_bride o1_town_told), (ce_i16 y o1_town_from fo1_town_from), (ce_i16 y o1_town_to fo1_town_to), (ce_X1 o1_debts o1_debts_size o1_debts_debtor o1_debts_creditor o1_debts_kind o1_debts_due o1_debts_came o1_debts_open o1_debts_kinds), (ce_i256 y o1_debts_kinds fo1_debts_kinds)] sz)) 0 0 (va_A [(ce_X4 ob ob_planned ob_bestWorth ob_bestOver ob_length ob_order ob_owner ob_weekday ob_spots ob_spot ob_deadline ob_opens ob_closes ob_stays ob_apart ob_minute ob_soonest ob_sums), (ce_i16 y ob_opens fob_opens), (ce_i16 y ob_closes fob_closes), (ce_i16 y ob_stays fob_stays), (ce_X6 o1 o1_town o1_code o1_debts o1_deeds o1_knows o1_day o1_paid o1_follows), (ce_X7 o1_town o1_town_houses o1_town_fresh o1_town_introducers o1_town_x o1_town_y o1_town_rank o1_town_weekday o1_town_from o1_town_to o1_town_came o1_town_bride o1_town_told), (ce_i16 y o1_town_from fo1_town_from), (ce_i16 y o1_town_to fo1_town_to), (ce_X1 o1_debts o1_debts_size o1_debts_debtor o1_debts_creditor o1_debts_kind o1_debts_due o1_debts_came o1_debts_open o1_debts_kinds), (ce_i256 y o1_debts_kinds fo1_debts_kinds)] sz) := by
  refine Met.ofW (cc := cX4_lookAt) (maxL := 5) (ret := none) (by decide) rfl ?_
  intro p e s m args below meth c s₁ B hml hv
  obtain ⟨rfl, hsz, hP, hK, hD0⟩ := hv
  have hx := B.exec
  have hb := B.bytes
  have hr := B.returns
  have hw0 : ∀ w ∈ wAll, w.before _ s = true := fun w h => atoms_spec (ws := Cond.code yX4_lookAt cX4_lookAt 5 none :: wAll) B.pre w (List.mem_cons_of_mem _ h)
  have hown : s.vm.findClass RX4 = some m.cls := findClass_of_methodNamed B.named
  subst hsz
  have hD := hD0.self (sz := s.heap.size)
  generalize hAe : va_A [(ce_X4 ob ob_planned ob_bestWorth ob_bestOver ob_length ob_order ob_owner ob_weekday ob_spots ob_spot ob_deadline ob_opens ob_closes ob_stays ob_apart ob_minute ob_soonest ob_sums), (ce_i16 y ob_opens fob_opens), (ce_i16 y ob_closes fob_closes), (ce_i16 y ob_stays fob_stays), (ce_X6 o1 o1_town o1_code o1_debts o1_deeds o1_knows o1_day o1_paid o1_follows), (ce_X7 o1_town o1_town_houses o1_town_fresh o1_town_introducers o1_town_x o1_town_y o1_town_rank o1_town_weekday o1_town_from o1_town_to o1_town_came o1_town_bride o1_town_told), (ce_i16 y o1_town_from fo1_town_from), (ce_i16 y o1_town_to fo1_town_to), (ce_X1 o1_debts o1_debts_size o1_debts_debtor o1_debts_creditor o1_debts_kind o1_debts_due o1_debts_came o1_debts_open o1_debts_kinds), (ce_i256 y o1_debts_kinds fo1_debts_kinds)] s.heap.size = A at hD ⊢
  have hA : ∀ q : Nat, s.heap.size ≤ q → A q := fun q h => by rw [← hAe]; exact Or.inr h
  have hS : va_S A s.heap s.heap [] := va_S.rf
  have hP : va_P G vwCl [(ce_X4 ob ob_planned ob_bestWorth ob_bestOver ob_length ob_order ob_owner ob_weekday ob_spots ob_spot ob_deadline ob_opens ob_closes ob_stays ob_apart ob_minute ob_soonest ob_sums), (ce_i16 y ob_opens fob_opens), (ce_i16 y ob_closes fob_closes), (ce_i16 y ob_stays fob_stays), (ce_X6 o1 o1_town o1_code o1_debts o1_deeds o1_knows o1_day o1_paid o1_follows), (ce_X7 o1_town o1_town_houses o1_town_fresh o1_town_introducers o1_town_x o1_town_y o1_town_rank o1_town_weekday o1_town_from o1_town_to o1_town_came o1_town_bride o1_town_told), (ce_i16 y o1_town_from fo1_town_from), (ce_i16 y o1_town_to fo1_town_to), (ce_X1 o1_debts o1_debts_size o1_debts_debtor o1_debts_creditor o1_debts_kind o1_debts_due o1_debts_came o1_debts_open o1_debts_kinds), (ce_i256 y o1_debts_kinds fo1_debts_kinds)] s.heap := hP
  have hl := lv_entry ([.ref ob, .ref o1, .int a2, .int a3]) (n := 5) (Nat.le_of_ble_eq_true rfl)
  rw [lg_entry_eq]
  generalize (lg_sl ([.ref ob, .ref o1, .int a2, .int a3]) ++ List.replicate (5 - (lg_sl ([.ref ob, .ref o1, .int a2, .int a3])).length) Slot.unset).toArray = ls at hl ⊢
  have hl : lv_has ls 5 [(0, .ref ob), (1, .ref o1), (2, .int a2), (3, .int a3)] := hl
  refine lv_aload_n hx hb dX4_lookAt_0 rfl (lv_at hl 1 rfl) ?_
  refine lv_iload_n hx hb dX4_lookAt_1 rfl (lv_at hl 2 rfl) ?_
  refine lv_iload_n hx hb dX4_lookAt_2 rfl (lv_at hl 3 rfl) ?_
  refine cutW 31 (fun H locs ls st => ∃ (v_1003 : Int32) (v_1004 : Int32), ((0 : Int) ≤ v_1003.toInt ∧ v_1003.toInt ≤ 1) ∧ st = [.int v_1004, .int a3, .ref ob_opens] ∧ vPD G A H [(ce_X4 ob ob_planned ob_bestWorth ob_bestOver ob_length ob_order ob_owner ob_weekday ob_spots ob_spot ob_deadline ob_opens ob_closes ob_stays ob_apart ob_minute ob_soonest ob_sums), (ce_i16 y ob_opens fob_opens), (ce_i16 y ob_closes fob_closes), (ce_i16 y ob_stays fob_stays), (ce_X6 o1 o1_town o1_code o1_debts o1_deeds o1_knows o1_day o1_paid o1_follows), (ce_X7 o1_town o1_town_houses o1_town_fresh o1_town_introducers o1_town_x o1_town_y o1_town_rank o1_town_weekday o1_town_from o1_town_to o1_town_came o1_town_bride o1_town_told), (ce_i16 y o1_town_from fo1_town_from), (ce_i16 y o1_town_to fo1_town_to), (ce_X1 o1_debts o1_debts_size o1_debts_debtor o1_debts_creditor o1_debts_kind o1_debts_due o1_debts_came o1_debts_open o1_debts_kinds), (ce_i256 y o1_debts_kinds fo1_debts_kinds)] ∧ va_S A s.heap H locs ∧ lv_has ls 5 [(4, .int v_1003), (0, .ref ob), (1, .ref o1), (3, .int a3)]) ?_ (fun J_31_1004 => ?_)
  · rintro H locs ls st ⟨v_1003, v_1004, bv_1003, rfl, ⟨hP, hD⟩, hS, hl⟩
    refine va_iast hx hb hK.1 hP hD hS 1 1 rfl rfl (vi p_a3 (by decide)) dX4_lookAt_31 (fun H locs hP hD hS => ?_)
    generalize hf_1005 : (upd fob_opens (a3 : Int32).toNatClampNeg v_1004) = f_1005 at hP hD
    obtain ⟨hP, hD⟩ : vPD G A H [(ce_X4 ob ob_planned ob_bestWorth ob_bestOver ob_length ob_order ob_owner ob_weekday ob_spots ob_spot ob_deadline ob_opens ob_closes ob_stays ob_apart ob_minute ob_soonest ob_sums), (ce_i16 y ob_opens f_1005), (ce_i16 y ob_closes fob_closes), (ce_i16 y ob_stays fob_stays), (ce_X6 o1 o1_town o1_code o1_debts o1_deeds o1_knows o1_day o1_paid o1_follows), (ce_X7 o1_town o1_town_houses o1_town_fresh o1_town_introducers o1_town_x o1_town_y o1_town_rank o1_town_weekday o1_town_from o1_town_to o1_town_came o1_town_bride o1_town_told), (ce_i16 y o1_town_from fo1_town_from), (ce_i16 y o1_town_to fo1_town_to), (ce_X1 o1_debts o1_debts_size o1_debts_debtor o1_debts_creditor o1_debts_kind o1_debts_due o1_debts_came o1_debts_open o1_debts_kinds), (ce_i256 y o1_debts_kinds fo1_debts_kinds)] := ⟨hP, hD⟩
    refine lv_aload_n hx hb dX4_lookAt_32 rfl (lv_at hl 1 rfl) ?_
    refine va_get (D := G) (ci := 4) (v := .ref ob_closes) (C := RX4) (T := TX4) (N := 17) hx hb hw0 inA_wsX40 hown hK.1 hP 0 rfl rfl 11 (by decide) (hw0 _ m_898) (fun _ h9 => h9) rfl dX4_lookAt_33 ?_
    refine lv_iload_n hx hb dX4_lookAt_36 rfl (lv_at hl 3 rfl) ?_
    refine lv_iload hx hb dX4_lookAt_37 (lv_at hl 0 rfl) ?_
    refine cutW 57 (fun H locs ls st => ∃ (v_1008 : Int32), st = [.int v_1008, .int a3, .ref ob_closes] ∧ vPD G A H [(ce_X4 ob ob_planned ob_bestWorth ob_bestOver ob_length ob_order ob_owner ob_weekday ob_spots ob_spot ob_deadline ob_opens ob_closes ob_stays ob_apart ob_minute ob_soonest ob_sums), (ce_i16 y ob_opens f_1005), (ce_i16 y ob_closes fob_closes), (ce_i16 y ob_stays fob_stays), (ce_X6 o1 o1_town o1_code o1_debts o1_deeds o1_knows o1_day o1_paid o1_follows), (ce_X7 o1_town o1_town_houses o1_town_fresh o1_town_introducers o1_town_x o1_town_y o1_town_rank o1_town_weekday o1_town_from o1_town_to o1_town_came o1_town_bride o1_town_told), (ce_i16 y o1_town_from fo1_town_from), (ce_i16 y o1_town_to fo1_town_to), (ce_X1 o1_debts o1_debts_size o1_debts_debtor o1_debts_creditor o1_debts_kind o1_debts_due o1_debts_came o1_debts_open o1_debts_kinds), (ce_i256 y o1_debts_kinds fo1_debts_kinds)] ∧ va_S A s.heap H locs ∧ lv_has ls 5 [(4, .int v_1003), (0, .ref ob), (3, .int a3)]) ?_ (fun J_57_1008 => ?_)
    · rintro H locs ls st ⟨v_1008, rfl, ⟨hP, hD⟩, hS, hl⟩
      refine va_iast hx hb hK.1 hP hD hS 2 1 rfl rfl (vi p_a3 (by decide)) dX4_lookAt_57 (fun H locs hP hD hS => ?_)
      generalize hf_1009 : (upd fob_closes (a3 : Int32).toNatClampNeg v_1008) = f_1009 at hP hD
      obtain ⟨hP, hD⟩ : vPD G A H [(ce_X4 ob ob_planned ob_bestWorth ob_bestOver ob_length ob_order ob_owner ob_weekday ob_spots ob_spot ob_deadline ob_opens ob_closes ob_stays ob_apart ob_minute ob_soonest ob_sums), (ce_i16 y ob_opens f_1005), (ce_i16 y ob_closes f_1009), (ce_i16 y ob_stays fob_stays), (ce_X6 o1 o1_town o1_code o1_debts o1_deeds o1_knows o1_day o1_paid o1_follows), (ce_X7 o1_town o1_town_houses o1_town_fresh o1_town_introducers o1_town_x o1_town_y o1_town_rank o1_town_weekday o1_town_from o1_town_to o1_town_came o1_town_bride o1_town_told), (ce_i16 y o1_town_from fo1_town_from), (ce_i16 y o1_town_to fo1_town_to), (ce_X1 o1_debts o1_debts_size o1_debts_debtor o1_debts_creditor o1_debts_kind o1_debts_due o1_debts_came o1_debts_open o1_debts_kinds), (ce_i256 y o1_debts_kinds fo1_debts_kinds)] := ⟨hP, hD⟩
      refine lv_aload_n hx hb dX4_lookAt_58 rfl (lv_at hl 1 rfl) ?_
      refine va_get (D := G) (ci := 4) (v := .ref ob_stays) (C := RX4) (T := TX4) (N := 17) hx hb hw0 inA_wsX40 hown hK.1 hP 0 rfl rfl 12 (by decide) (hw0 _ m_899) (fun _ h9 => h9) rfl dX4_lookAt_59 ?_
      refine lv_iload_n hx hb dX4_lookAt_62 rfl (lv_at hl 2 rfl) ?_
      refine lv_iload hx hb dX4_lookAt_63 (lv_at hl 0 rfl) ?_
      refine cutW 74 (fun H locs ls st => ∃ (v_1011 : Int32), ((0 : Int) ≤ v_1011.toInt ∧ v_1011.toInt ≤ 15) ∧ st = [.int v_1011, .int a3, .ref ob_stays] ∧ vPD G A H [(ce_X4 ob ob_planned ob_bestWorth ob_bestOver ob_length ob_order ob_owner ob_weekday ob_spots ob_spot ob_deadline ob_opens ob_closes ob_stays ob_apart ob_minute ob_soonest ob_sums), (ce_i16 y ob_opens f_1005), (ce_i16 y ob_closes f_1009), (ce_i16 y ob_stays fob_stays), (ce_X6 o1 o1_town o1_code o1_debts o1_deeds o1_knows o1_day o1_paid o1_follows), (ce_X7 o1_town o1_town_houses o1_town_fresh o1_town_introducers o1_town_x o1_town_y o1_town_rank o1_town_weekday o1_town_from o1_town_to o1_town_came o1_town_bride o1_town_told), (ce_i16 y o1_town_from fo1_town_from), (ce_i16 y o1_town_to fo1_town_to), (ce_X1 o1_debts o1_debts_size o1_debts_debtor o1_debts_creditor o1_debts_kind o1_debts_due o1_debts_came o1_debts_open o1_debts_kinds), (ce_i256 y o1_debts_kinds fo1_debts_kinds)] ∧ va_S A s.heap H locs ∧ lv_has ls 5 []) ?_ (fun J_74_1011 => ?_)
      · rintro H locs ls st ⟨v_1011, bv_1011, rfl, ⟨hP, hD⟩, hS, hl⟩
        refine va_iast hx hb hK.1 hP hD hS 3 1 rfl rfl (vi p_a3 (by decide)) dX4_lookAt_74 (fun H locs hP hD hS => ?_)
        generalize hf_1012 : (upd fob_stays (a3 : Int32).toNatClampNeg v_1011) = f_1012 at hP hD
        obtain ⟨hP, hD⟩ : vPD G A H [(ce_X4 ob ob_planned ob_bestWorth ob_bestOver ob_length ob_order ob_owner ob_weekday ob_spots ob_spot ob_deadline ob_opens ob_closes ob_stays ob_apart ob_minute ob_soonest ob_sums), (ce_i16 y ob_opens f_1005), (ce_i16 y ob_closes f_1009), (ce_i16 y ob_stays f_1012), (ce_X6 o1 o1_town o1_code o1_debts o1_deeds o1_knows o1_day o1_paid o1_follows), (ce_X7 o1_town o1_town_houses o1_town_fresh o1_town_introducers o1_town_x o1_town_y o1_town_rank o1_town_weekday o1_town_from o1_town_to o1_town_came o1_town_bride o1_town_told), (ce_i16 y o1_town_from fo1_town_from), (ce_i16 y o1_town_to fo1_town_to), (ce_X1 o1_debts o1_debts_size o1_debts_debtor o1_debts_creditor o1_debts_kind o1_debts_due o1_debts_came o1_debts_open o1_debts_kinds), (ce_i256 y o1_debts_kinds fo1_debts_kinds)] := ⟨hP, hD⟩
        exact W.vret hx hb hr (fun t ht hW => ⟨⟨_, rfl, ⟨f_1005, f_1009, f_1012, rfl⟩, by rw [ht]; exact hP, hD⟩, hS.F ht⟩) hS.2.2 dX4_lookAt_75
      · skip
        refine lv_if_eq (tgt := 73) hx hb dX4_lookAt_65 (by decide) (fun c_1013 => ?_) (fun c_1013 => ?_)
        · skip
          have nc_1013 := nb_eq (0) (0) c_1013 bv_1003 (bkc (x := 0) (c := 0) (by decide)) (by decide)
          refine lv_iconst (v := 0) hx hb dX4_lookAt_73 (by decide) ?_
          exact J_74_1011 _ _ _ _ ⟨0, (bw (0) (15) (bkc (x := 0) (c := 0) (by decide)) (by decide)), rfl, ⟨hP, hD⟩, hS, lv_sub hl [] rfl⟩
        · skip
          have nc_1013 := nb_ne (1) (1) c_1013 bv_1003 (k := 0) (by decide) (by decide)
          refine lv_bipush (v := 15) hx hb dX4_lookAt_68 (by decide) ?_
          refine lv_goto (tgt := 74) hx hb dX4_lookAt_70 (by decide) ?_
          exact J_74_1011 _ _ _ _ ⟨15, (bw (0) (15) (bkc (x := 15) (c := 15) (by decide)) (by decide)), rfl, ⟨hP, hD⟩, hS, lv_sub hl [] rfl⟩
    · skip
      refine lv_if_eq (tgt := 54) hx hb dX4_lookAt_39 (by decide) (fun c_1014 => ?_) (fun c_1014 => ?_)
      · skip
        have nc_1014 := nb_eq (0) (0) c_1014 bv_1003 (bkc (x := 0) (c := 0) (by decide)) (by decide)
        refine lv_sipush (v := 180) hx hb dX4_lookAt_54 (by decide) ?_
        exact J_57_1008 _ _ _ _ ⟨180, rfl, ⟨hP, hD⟩, hS, lv_sub hl [0, 1, 3] rfl⟩
      · skip
        have nc_1014 := nb_ne (1) (1) c_1014 bv_1003 (k := 0) (by decide) (by decide)
        refine lv_aload_n hx hb dX4_lookAt_42 rfl (lv_at hl 2 rfl) ?_
        refine va_get (D := G) (ci := 6) (v := .ref o1_town) (C := RX6) (T := TX6) (N := 8) hx hb hw0 inA_wsX60 hown hK.1 hP 4 rfl rfl 0 (by decide) (hw0 _ m_845) (fun _ h9 => h9) rfl dX4_lookAt_43 ?_
        refine va_get (D := G) (ci := 7) (v := .ref o1_town_to) (C := RX7) (T := TX7) (N := 12) hx hb hw0 inA_wsX70 hown hK.1 hP 5 rfl rfl 8 (by decide) (hw0 _ m_909) (fun _ h9 => h9) rfl dX4_lookAt_46 ?_
        refine lv_iload_n hx hb dX4_lookAt_49 rfl (lv_at hl 3 rfl) ?_
        refine va_iald hx hb hK.1 hP 7 1 rfl rfl (vi p_a3 (by decide)) dX4_lookAt_50 ?_
        refine lv_topi (fun v_1015 ev_1015 => ?_)
        refine lv_goto (tgt := 57) hx hb dX4_lookAt_51 (by decide) ?_
        exact J_57_1008 _ _ _ _ ⟨v_1015, rfl, ⟨hP, hD⟩, hS, lv_sub hl [0, 1, 3] rfl⟩
  · skip
    refine cSim (As := [.ref o1, .int a2, .int a3]) (rest := []) ⟨hx, hb, hml, hown, hw0⟩ hA hK hP hD hS [false, false, false, false, true, false, false, false, true, true] (sX4_isByCall l G y _ o1 a2 a3 o1_town o1_code o1_debts o1_deeds o1_knows o1_day o1_paid o1_follows o1_debts_size o1_debts_debtor o1_debts_creditor o1_debts_kind o1_debts_due o1_debts_came o1_debts_open o1_debts_kinds fo1_debts_kinds p_o1_debts_size p_o1_day p_a2 p_a3) rfl ⟨(callB_of 3 hw0 (gA m_904) rfl rfl rfl (hw0 _ m_839) (hw0 _ m_901) cb_X4_isByCall ⟨Nat.le_of_ble_eq_true rfl, Nat.le_of_ble_eq_true rfl⟩), (hw0 _ m_902)⟩ rfl hl.1 (Nat.le_of_ble_eq_true rfl) dX4_lookAt_3 ⟨Nat.le_of_ble_eq_true rfl, Nat.le_of_ble_eq_true rfl⟩ (fun r_1016 w_1016 H locs hw_1016 hP hD hS => ?_)
    rcases hw_1016 with ⟨rfl, rfl⟩ | ⟨rfl, rfl⟩
    · skip
      obtain ⟨hP, hD⟩ : vPD G A H [(ce_X4 ob ob_planned ob_bestWorth ob_bestOver ob_length ob_order ob_owner ob_weekday ob_spots ob_spot ob_deadline ob_opens ob_closes ob_stays ob_apart ob_minute ob_soonest ob_sums), (ce_i16 y ob_opens fob_opens), (ce_i16 y ob_closes fob_closes), (ce_i16 y ob_stays fob_stays), (ce_X6 o1 o1_town o1_code o1_debts o1_deeds o1_knows o1_day o1_paid o1_follows), (ce_X7 o1_town o1_town_houses o1_town_fresh o1_town_introducers o1_town_x o1_town_y o1_town_rank o1_town_weekday o1_town_from o1_town_to o1_town_came o1_town_bride o1_town_told), (ce_i16 y o1_town_from fo1_town_from), (ce_i16 y o1_town_to fo1_town_to), (ce_X1 o1_debts o1_debts_size o1_debts_debtor o1_debts_creditor o1_debts_kind o1_debts_due o1_debts_came o1_debts_open o1_debts_kinds), (ce_i256 y o1_debts_kinds fo1_debts_kinds)] := ⟨hP, hD⟩
      refine lv_istore (lv' := [(4, .int 0), (0, .ref ob), (1, .ref o1), (2, .int a2), (3, .int a3)]) hx hb dX4_lookAt_6 hl (by decide) rfl (fun ls hl => ?_)
      refine lv_aload_n hx hb dX4_lookAt_8 rfl (lv_at hl 1 rfl) ?_
      refine va_get (D := G) (ci := 4) (v := .ref ob_opens) (C := RX4) (T := TX4) (N := 17) hx hb hw0 inA_wsX40 hown hK.1 hP 0 rfl rfl 10 (by decide) (hw0 _ m_897) (fun _ h9 => h9) rfl dX4_lookAt_9 ?_
      refine lv_iload_n hx hb dX4_lookAt_12 rfl (lv_at hl 4 rfl) ?_
      refine lv_iload hx hb dX4_lookAt_13 (lv_at hl 0 rfl) ?_
      refine lv_if_eq (tgt := 30) hx hb dX4_lookAt_15 (by decide) (fun _ => ?_) (fun c9 => absurd (by decide) c9)
      refine lv_iconst (v := 0) hx hb dX4_lookAt_30 (by decide) ?_
      exact J_31_1004 _ _ _ _ ⟨0, 0, (bw (0) (1) (bkc (x := 0) (c := 0) (by decide)) (by decide)), rfl, ⟨hP, hD⟩, hS, lv_sub hl [0, 1, 2, 4] rfl⟩
    · skip
      obtain ⟨hP, hD⟩ : vPD G A H [(ce_X4 ob ob_planned ob_bestWorth ob_bestOver ob_length ob_order ob_owner ob_weekday ob_spots ob_spot ob_deadline ob_opens ob_closes ob_stays ob_apart ob_minute ob_soonest ob_sums), (ce_i16 y ob_opens fob_opens), (ce_i16 y ob_closes fob_closes), (ce_i16 y ob_stays fob_stays), (ce_X6 o1 o1_town o1_code o1_debts o1_deeds o1_knows o1_day o1_paid o1_follows), (ce_X7 o1_town o1_town_houses o1_town_fresh o1_town_introducers o1_town_x o1_town_y o1_town_rank o1_town_weekday o1_town_from o1_town_to o1_town_came o1_town_bride o1_town_told), (ce_i16 y o1_town_from fo1_town_from), (ce_i16 y o1_town_to fo1_town_to), (ce_X1 o1_debts o1_debts_size o1_debts_debtor o1_debts_creditor o1_debts_kind o1_debts_due o1_debts_came o1_debts_open o1_debts_kinds), (ce_i256 y o1_debts_kinds fo1_debts_kinds)] := ⟨hP, hD⟩
      refine lv_istore (lv' := [(4, .int 1), (0, .ref ob), (1, .ref o1), (2, .int a2), (3, .int a3)]) hx hb dX4_lookAt_6 hl (by decide) rfl (fun ls hl => ?_)
      refine lv_aload_n hx hb dX4_lookAt_8 rfl (lv_at hl 1 rfl) ?_
      refine va_get (D := G) (ci := 4) (v := .ref ob_opens) (C := RX4) (T := TX4) (N := 17) hx hb hw0 inA_wsX40 hown hK.1 hP 0 rfl rfl 10 (by decide) (hw0 _ m_897) (fun _ h9 => h9) rfl dX4_lookAt_9 ?_
      refine lv_iload_n hx hb dX4_lookAt_12 rfl (lv_at hl 4 rfl) ?_
      refine lv_iload hx hb dX4_lookAt_13 (lv_at hl 0 rfl) ?_
      refine lv_if_eq (tgt := 30) hx hb dX4_lookAt_15 (by decide) (fun c9 => absurd c9 (by decide)) (fun _ => ?_)
      refine lv_aload_n hx hb dX4_lookAt_18 rfl (lv_at hl 2 rfl) ?_
      refine va_get (D := G) (ci := 6) (v := .ref o1_town) (C := RX6) (T := TX6) (N := 8) hx hb hw0 inA_wsX60 hown hK.1 hP 4 rfl rfl 0 (by decide) (hw0 _ m_845) (fun _ h9 => h9) rfl dX4_lookAt_19 ?_
      refine va_get (D := G) (ci := 7) (v := .ref o1_town_from) (C := RX7) (T := TX7) (N := 12) hx hb hw0 inA_wsX70 hown hK.1 hP 5 rfl rfl 7 (by decide) (hw0 _ m_908) (fun _ h9 => h9) rfl dX4_lookAt_22 ?_
      refine lv_iload_n hx hb dX4_lookAt_25 rfl (lv_at hl 4 rfl) ?_
      refine va_iald hx hb hK.1 hP 6 1 rfl rfl (vi p_a3 (by decide)) dX4_lookAt_26 ?_
      refine lv_topi (fun v_1017 ev_1017 => ?_)
      refine lv_goto (tgt := 31) hx hb dX4_lookAt_27 (by decide) ?_
      exact J_31_1004 _ _ _ _ ⟨1, v_1017, (bw (0) (1) (bkc (x := 1) (c := 1) (by decide)) (by decide)), rfl, ⟨hP, hD⟩, hS, lv_sub hl [0, 1, 2, 4] rfl⟩

set_option maxHeartbeats 4000000 in
set_option maxRecDepth 100000 in
theorem sX4_lookAtSpots (l : Launch) (G : va_G) (y : Nat → ClassId) (sz : Nat) (ob : Nat) (o1 : Nat) (a2 : Int32) (ob_planned : Int32) (ob_bestWorth : Int32) (ob_bestOver : Int32) (ob_length : Int32) (ob_order : Nat) (ob_owner : Int32) (ob_weekday : Int32) (ob_spots : Int32) (ob_spot : Nat) (ob_deadline : Nat) (ob_opens : Nat) (ob_closes : Nat) (ob_stays : Nat) (ob_apart : Nat) (ob_minute : Nat) (ob_soonest : Nat) (ob_sums : Nat) (fob_spot : Nat → Int32) (fob_opens : Nat → Int32) (fob_closes : Nat → Int32) (fob_stays : Nat → Int32) (fob_apart : Nat → Int32) (o1_town : Nat) (o1_code : Nat) (o1_debts : Nat) (o1_deeds : Nat) (o1_knows : Nat) (o1_day : Int32) (o1_paid : Int32) (o1_follows : Nat) (o1_town_houses : Int32) (o1_town_fresh : Int32) (o1_town_introducers : Int32) (o1_town_x : Nat) (o1_town_y : Nat) (o1_town_rank : Nat) (o1_town_weekday : Nat) (o1_town_from : Nat) (o1_town_to : Nat) (o1_town_came : Nat) (o1_town_bride : Nat) (o1_town_told : Nat) (fo1_town_x : Nat → Int32) (fo1_town_y : Nat → Int32) (fo1_town_from : Nat → Int32) (fo1_town_to : Nat → Int32) (o1_debts_size : Int32) (o1_debts_debtor : Nat) (o1_debts_creditor : Nat) (o1_debts_kind : Nat) (o1_debts_due : Nat) (o1_debts_came : Nat) (o1_debts_open : Nat) (o1_debts_kinds : Nat) (fo1_debts_kinds : Nat → Int32) (p_ob_planned : (0 : Int) ≤ ob_planned.toInt ∧ ob_planned.toInt ≤ 1) (p_ob_length : (0 : Int) ≤ ob_length.toInt ∧ ob_length.toInt ≤ 10) (p_ob_spots : (0 : Int) ≤ ob_spots.toInt ∧ ob_spots.toInt ≤ 10) (p_fob_spot : ∀ i, (0 : Int) ≤ (fob_spot i).toInt ∧ (fob_spot i).toInt ≤ 15) (p_o1_town_houses : (0 : Int) ≤ o1_town_houses.toInt ∧ o1_town_houses.toInt ≤ 16) (p_o1_debts_size : (0 : Int) ≤ o1_debts_size.toInt ∧ o1_debts_size.toInt ≤ 600) (p_o1_day : (0 : Int) ≤ o1_day.toInt ∧ o1_day.toInt ≤ 399) (p_a2 : (0 : Int) ≤ a2.toInt ∧ a2.toInt ≤ 15) : Met l yX4_lookAtSpots (Cond.code yX4_lookAtSpots cX4_lookAtSpots 6 none :: wAll) ({ frames := 3, cells := 0, slots := 0, locals := 68 }) (va_Pc [.ref ob, .ref o1, .int a2] (kp G y sz [(ce_X4 ob ob_planned ob_bestWorth ob_bestOver ob_length ob_order ob_owner ob_weekday ob_spots ob_spot ob_deadline ob_opens ob_closes ob_stays ob_apart ob_minute ob_soonest ob_sums), (ce_i10 y ob_spot fob_spot), (ce_i16 y ob_opens fob_opens), (ce_i16 y ob_closes fob_closes), (ce_i16 y ob_stays fob_stays), (ce_i256 y ob_apart fob_apart), (ce_X6 o1 o1_town o1_code o1_debts o1_deeds o1_knows o1_day o1_paid o1_follows), (ce_X7 o1_town o1_town_houses o1_town_fresh o1_town_introducers o1_town_x o1_town_y o1_town_rank o1_town_weekday o1_town_from o1_town_to o1_town_came o1_town_bride o1_town_told), (ce_i16 y o1_town_x fo1_town_x), (ce_i16 y o1_town_y fo1_town_y), (ce_i16 y o1_town_from fo1_town_from), (ce_i16 y o1_town_to fo1_town_to), (ce_X1 o1_debts o1_debts_size o1_debts_debtor o1_debts_creditor o1_debts_kind o1_debts_due o1_debts_came o1_debts_open o1_debts_kinds), (ce_i256 y o1_debts_kinds fo1_debts_kinds)])) (va_Qv (fun (w : va_W) => (∃ (f_2543 : Nat → Int32) (f_2544 : Nat → Int32) (f_2545 : Nat → Int32) (f_2546 : Nat → Int32), w = [(ce_X4 ob ob_planned ob_bestWorth ob_bestOver ob_length ob_order ob_owner ob_weekday ob_spots ob_spot ob_deadline ob_opens ob_closes ob_stays ob_apart ob_minute ob_soonest ob_sums), (ce_i10 y ob_spot fob_spot), (ce_i16 y ob_opens f_2543), (ce_i16 y ob_closes f_2544), (ce_i16 y ob_stays f_2545), (ce_i256 y ob_apart f_2546), (ce_X6 o1 o1_town o1_code o1_debts o1_deeds o1_knows o1_day o1_paid o1_follows), (ce_X7 o1_town o1_town_houses o1_town_fresh o1_town_introducers o1_town_x o1_town_y o1_town_rank o1_town_weekday o1_town_from o1_town_to o1_town_came o1_town_bride o1_town_told), (ce_i16 y o1_town_x fo1_town_x), (ce_i16 y o1_town_y fo1_town_y), (ce_i16 y o1_town_from fo1_town_from), (ce_i16 y o1_town_to fo1_town_to), (ce_X1 o1_debts o1_debts_size o1_debts_debtor o1_debts_creditor o1_debts_kind o1_debts_due o1_debts_came o1_debts_open o1_debts_kinds), (ce_i256 y o1_debts_kinds fo1_debts_kinds)])) (kq G (va_A [(ce_X4 ob ob_planned ob_bestWorth ob_bestOver ob_length ob_order ob_owner ob_weekday ob_spots ob_spot ob_deadline ob_opens ob_closes ob_stays ob_apart ob_minute ob_soonest ob_sums), (ce_i10 y ob_spot fob_spot), (ce_i16 y ob_opens fob_opens), (ce_i16 y ob_closes fob_closes), (ce_i16 y ob_stays fob_stays), (ce_i256 y ob_apart fob_apart), (ce_X6 o1 o1_town o1_code o1_debts o1_deeds o1_knows o1_day o1_paid o1_follows), (ce_X7 o1_town o1_town_houses o1_town_fresh o1_town_introducers o1_town_x o1_town_y o1_town_rank o1_town_weekday o1_town_from o1_town_to o1_town_came o1_town_bride o1_town_told), (ce_i16 y o1_town_x fo1_town_x), (ce_i16 y o1_town_y fo1_town_y), (ce_i16 y o1_town_from fo1_town_from), (ce_i16 y o1_town_to fo1_town_to), (ce_X1 o1_debts o1_debts_size o1_debts_debtor o1_debts_creditor o1_debts_kind o1_debts_due o1_debts_came o1_debts_open o1_debts_kinds), (ce_i256 y o1_debts_kinds fo1_debts_kinds)] sz)) (va_A [(ce_X4 ob ob_planned ob_bestWorth ob_bestOver ob_length ob_order ob_owner ob_weekday ob_spots ob_spot ob_deadline ob_opens ob_closes ob_stays ob_apart ob_minute ob_soonest ob_sums), (ce_i10 y ob_spot fob_spot), (ce_i16 y ob_opens fob_opens), (ce_i16 y ob_closes fob_closes), (ce_i16 y ob_stays fob_stays), (ce_i256 y ob_apart fob_apart), (ce_X6 o1 o1_town o1_code o1_debts o1_deeds o1_knows o1_day o1_paid o1_follows), (ce_X7 o1_town o1_town_houses o1_town_fresh o1_town_introducers o1_town_x o1_town_y o1_town_rank o1_town_weekday o1_town_from o1_town_to o1_town_came o1_town_bride o1_town_told), (ce_i16 y o1_town_x fo1_town_x), (ce_i16 y o1_town_y fo1_town_y), (ce_i16 y o1_town_from fo1_town_from), (ce_i16 y o1_town_to fo1_town_to), (ce_X1 o1_debts o1_debts_size o1_debts_debtor o1_debts_creditor o1_debts_kind o1_debts_due o1_debts_came o1_debts_open o1_debts_kinds), (ce_i256 y o1_debts_kinds fo1_debts_kinds)] sz)) 0 0 (va_A [(ce_X4 ob ob_planned ob_bestWorth ob_bestOver ob_length ob_order ob_owner ob_weekday ob_spots ob_spot ob_deadline ob_opens ob_closes ob_stays ob_apart ob_minute ob_soonest ob_sums), (ce_i10 y ob_spot fob_spot), (ce_i16 y ob_opens fob_opens), (ce_i16 y ob_closes fob_closes), (ce_i16 y ob_stays fob_stays), (ce_i256 y ob_apart fob_apart), (ce_X6 o1 o1_town o1_code o1_debts o1_deeds o1_knows o1_day o1_paid o1_follows), (ce_X7 o1_town o1_town_houses o1_town_fresh o1_town_introducers o1_town_x o1_town_y o1_town_rank o1_town_weekday o1_town_from o1_town_to o1_town_came o1_town_bride o1_town_told), (ce_i16 y o1_town_x fo1_town_x), (ce_i16 y o1_town_y fo1_town_y), (ce_i16 y o1_town_from fo1_town_from), (ce_i16 y o1_town_to fo1_town_to), (ce_X1 o1_debts o1_debts_size o1_debts_debtor o1_debts_creditor o1_debts_kind o1_debts_due o1_debts_came o1_debts_open o1_debts_kinds), (ce_i256 y o1_debts_kinds fo1_debts_kinds)] sz) := by
  refine Met.ofW (cc := cX4_lookAtSpots) (maxL := 6) (ret := none) (by decide) rfl ?_
  intro p e s m args below meth c s₁ B hml hv
  obtain ⟨rfl, hsz, hP, hK, hD0⟩ := hv
  have hx := B.exec
  have hb := B.bytes
  have hr := B.returns
  have hw0 : ∀ w ∈ wAll, w.before _ s = true := fun w h => atoms_spec (ws := Cond.code yX4_lookAtSpots cX4_lookAtSpots 6 none :: wAll) B.pre w (List.mem_cons_of_mem _ h)
  have hown : s.vm.findClass RX4 = some m.cls := findClass_of_methodNamed B.named
  subst hsz
  have hD := hD0.self (sz := s.heap.size)
  generalize hAe : va_A [(ce_X4 ob ob_planned ob_bestWorth ob_bestOver ob_length ob_order ob_owner ob_weekday ob_spots ob_spot ob_deadline ob_opens ob_closes ob_stays ob_apart ob_minute ob_soonest ob_sums), (ce_i10 y ob_spot fob_spot), (ce_i16 y ob_opens fob_opens), (ce_i16 y ob_closes fob_closes), (ce_i16 y ob_stays fob_stays), (ce_i256 y ob_apart fob_apart), (ce_X6 o1 o1_town o1_code o1_debts o1_deeds o1_knows o1_day o1_paid o1_follows), (ce_X7 o1_town o1_town_houses o1_town_fresh o1_town_introducers o1_town_x o1_town_y o1_town_rank o1_town_weekday o1_town_from o1_town_to o1_town_came o1_town_bride o1_town_told), (ce_i16 y o1_town_x fo1_town_x), (ce_i16 y o1_town_y fo1_town_y), (ce_i16 y o1_town_from fo1_town_from), (ce_i16 y o1_town_to fo1_town_to), (ce_X1 o1_debts o1_debts_size o1_debts_debtor o1_debts_creditor o1_debts_kind o1_debts_due o1_debts_came o1_debts_open o1_debts_kinds), (ce_i256 y o1_debts_kinds fo1_debts_kinds)] s.heap.size = A at hD ⊢
  have hA : ∀ q : Nat, s.heap.size ≤ q → A q := fun q h => by rw [← hAe]; exact Or.inr h
  have hS : va_S A s.heap s.heap [] := va_S.rf
  have hP : va_P G vwCl [(ce_X4 ob ob_planned ob_bestWorth ob_bestOver ob_length ob_order ob_owner ob_weekday ob_spots ob_spot ob_deadline ob_opens ob_closes ob_stays ob_apart ob_minute ob_soonest ob_sums), (ce_i10 y ob_spot fob_spot), (ce_i16 y ob_opens fob_opens), (ce_i16 y ob_closes fob_closes), (ce_i16 y ob_stays fob_stays), (ce_i256 y ob_apart fob_apart), (ce_X6 o1 o1_town o1_code o1_debts o1_deeds o1_knows o1_day o1_paid o1_follows), (ce_X7 o1_town o1_town_houses o1_town_fresh o1_town_introducers o1_town_x o1_town_y o1_town_rank o1_town_weekday o1_town_from o1_town_to o1_town_came o1_town_bride o1_town_told), (ce_i16 y o1_town_x fo1_town_x), (ce_i16 y o1_town_y fo1_town_y), (ce_i16 y o1_town_from fo1_town_from), (ce_i16 y o1_town_to fo1_town_to), (ce_X1 o1_debts o1_debts_size o1_debts_debtor o1_debts_creditor o1_debts_kind o1_debts_due o1_debts_came o1_debts_open o1_debts_kinds), (ce_i256 y o1_debts_kinds fo1_debts_kinds)] s.heap := hP
  have hl := lv_entry ([.ref ob, .ref o1, .int a2]) (n := 6) (Nat.le_of_ble_eq_true rfl)
  rw [lg_entry_eq]
  generalize (lg_sl ([.ref ob, .ref o1, .int a2]) ++ List.replicate (6 - (lg_sl ([.ref ob, .ref o1, .int a2])).length) Slot.unset).toArray = ls at hl ⊢
  have hl : lv_has ls 6 [(0, .ref ob), (1, .ref o1), (2, .int a2)] := hl
  refine lv_iconst (v := 0) hx hb dX4_lookAtSpots_0 (by decide) ?_
  refine lv_istore_n (lv' := [(3, .int 0), (0, .ref ob), (1, .ref o1), (2, .int a2)]) hx hb dX4_lookAtSpots_1 rfl hl (by decide) rfl (fun ls hl => ?_)
  refine loopX (fun n H locs ls st => ∃ (v_2019 : Int32) (f_2020 : Nat → Int32) (f_2021 : Nat → Int32) (f_2022 : Nat → Int32) (f_2023 : Nat → Int32), (10 - v_2019.toInt).toNat = n ∧ ((0 : Int) ≤ v_2019.toInt ∧ v_2019.toInt ≤ 10) ∧ st = [] ∧ vPD G A H [(ce_X4 ob ob_planned ob_bestWorth ob_bestOver ob_length ob_order ob_owner ob_weekday ob_spots ob_spot ob_deadline ob_opens ob_closes ob_stays ob_apart ob_minute ob_soonest ob_sums), (ce_i10 y ob_spot fob_spot), (ce_i16 y ob_opens f_2020), (ce_i16 y ob_closes f_2021), (ce_i16 y ob_stays f_2022), (ce_i256 y ob_apart f_2023), (ce_X6 o1 o1_town o1_code o1_debts o1_deeds o1_knows o1_day o1_paid o1_follows), (ce_X7 o1_town o1_town_houses o1_town_fresh o1_town_introducers o1_town_x o1_town_y o1_town_rank o1_town_weekday o1_town_from o1_town_to o1_town_came o1_town_bride o1_town_told), (ce_i16 y o1_town_x fo1_town_x), (ce_i16 y o1_town_y fo1_town_y), (ce_i16 y o1_town_from fo1_town_from), (ce_i16 y o1_town_to fo1_town_to), (ce_X1 o1_debts o1_debts_size o1_debts_debtor o1_debts_creditor o1_debts_kind o1_debts_due o1_debts_came o1_debts_open o1_debts_kinds), (ce_i256 y o1_debts_kinds fo1_debts_kinds)] ∧ va_S A s.heap H locs ∧ lv_has ls 6 [(3, .int v_2019), (0, .ref ob), (1, .ref o1), (2, .int a2)]) ?_ (n := (10 - (0 : Int32).toInt).toNat) ⟨0, fob_opens, fob_closes, fob_stays, fob_apart, rfl, (bw (0) (10) (bkc (x := 0) (c := 0) (by decide)) (by decide)), rfl, ⟨hP, hD⟩, hS, lv_sub hl [0, 1, 2, 3] rfl⟩
  rintro n ih_2147 H locs ls st ⟨v_2019, f_2020, f_2021, f_2022, f_2023, hn_2147, bv_2019, rfl, ⟨hP, hD⟩, hS, hl⟩
  refine lv_iload_n hx hb dX4_lookAtSpots_2 rfl (lv_at hl 0 rfl) ?_
  refine lv_aload_n hx hb dX4_lookAtSpots_3 rfl (lv_at hl 1 rfl) ?_
  refine va_get (D := G) (ci := 4) (v := .int ob_spots) (C := RX4) (T := TX4) (N := 17) hx hb hw0 inA_wsX40 hown hK.1 hP 0 rfl rfl 7 (by decide) (hw0 _ m_827) (fun _ h9 => h9) rfl dX4_lookAtSpots_4 ?_
  refine lv_icmp_ge (tgt := 106) hx hb dX4_lookAtSpots_7 (by decide) (fun c_2148 => ?_) (fun c_2148 => ?_)
  · skip
    have nc_2148 := nb_le (10) (0) c_2148 p_ob_spots bv_2019 (by decide)
    exact W.vret hx hb hr (fun t ht hW => ⟨⟨_, rfl, ⟨f_2020, f_2021, f_2022, f_2023, rfl⟩, by rw [ht]; exact hP, hD⟩, hS.F ht⟩) hS.2.2 dX4_lookAtSpots_106
  · skip
    have nc_2148 := nb_nle (9) (1) c_2148 bv_2019 p_ob_spots (by decide)
    refine lv_aload_n hx hb dX4_lookAtSpots_10 rfl (lv_at hl 1 rfl) ?_
    refine va_get (D := G) (ci := 4) (v := .ref ob_spot) (C := RX4) (T := TX4) (N := 17) hx hb hw0 inA_wsX40 hown hK.1 hP 0 rfl rfl 8 (by decide) (hw0 _ m_829) (fun _ h9 => h9) rfl dX4_lookAtSpots_11 ?_
    refine lv_iload_n hx hb dX4_lookAtSpots_14 rfl (lv_at hl 0 rfl) ?_
    refine va_iald hx hb hK.1 hP 1 1 rfl rfl (vi nc_2148.1 (by decide)) dX4_lookAtSpots_15 ?_
    refine lv_topi (fun v_2149 ev_2149 => ?_)
    have bv_2149 : (0 : Int) ≤ v_2149.toInt ∧ v_2149.toInt ≤ 15 := rd_b ev_2149 p_fob_spot
    refine lv_istore (lv' := [(4, .int v_2149), (3, .int v_2019), (0, .ref ob), (1, .ref o1), (2, .int a2)]) hx hb dX4_lookAtSpots_16 hl (by decide) rfl (fun ls hl => ?_)
    refine lv_aload_n hx hb dX4_lookAtSpots_18 rfl (lv_at hl 2 rfl) ?_
    refine lv_aload_n hx hb dX4_lookAtSpots_19 rfl (lv_at hl 3 rfl) ?_
    refine lv_iload_n hx hb dX4_lookAtSpots_20 rfl (lv_at hl 4 rfl) ?_
    refine lv_iload hx hb dX4_lookAtSpots_21 (lv_at hl 0 rfl) ?_
    refine cVvm (As := [.ref o1, .int a2, .int v_2149]) (rest := []) ⟨hx, hb, hml, hown, hw0⟩ hA hK hP hD hS [true, false, true, true, true, false, true, true, false, false, true, true, true, true] (sX4_lookAt l G y _ ob o1 a2 v_2149 ob_planned ob_bestWorth ob_bestOver ob_length ob_order ob_owner ob_weekday ob_spots ob_spot ob_deadline ob_opens ob_closes ob_stays ob_apart ob_minute ob_soonest ob_sums f_2020 f_2021 f_2022 o1_town o1_code o1_debts o1_deeds o1_knows o1_day o1_paid o1_follows o1_town_houses o1_town_fresh o1_town_introducers o1_town_x o1_town_y o1_town_rank o1_town_weekday o1_town_from o1_town_to o1_town_came o1_town_bride o1_town_told fo1_town_from fo1_town_to o1_debts_size o1_debts_debtor o1_debts_creditor o1_debts_kind o1_debts_due o1_debts_came o1_debts_open o1_debts_kinds fo1_debts_kinds p_ob_planned p_ob_length (bw (0) (10) nc_2148.2.1 (by decide)) p_o1_town_houses p_o1_debts_size p_o1_day p_a2 bv_2149) rfl ⟨(callB_of 3 hw0 (gA m_907) rfl rfl rfl (hw0 _ m_839) (hw0 _ m_842) cb_X4_lookAt ⟨Nat.le_of_ble_eq_true rfl, Nat.le_of_ble_eq_true rfl⟩), (hw0 _ m_843), (hw0 _ m_844)⟩ (ci := 4) (q := (RX4, TX4, 17)) rfl rfl rfl hl.1 (Nat.le_of_ble_eq_true rfl) dX4_lookAtSpots_23 ⟨Nat.le_of_ble_eq_true rfl, Nat.le_of_ble_eq_true rfl⟩ (fun w_2150 H locs hw_2150 hP hD hS => ?_)
    obtain ⟨f_2151, f_2152, f_2153, rfl⟩ := hw_2150
    obtain ⟨hP, hD⟩ : vPD G A H [(ce_X4 ob ob_planned ob_bestWorth ob_bestOver ob_length ob_order ob_owner ob_weekday ob_spots ob_spot ob_deadline ob_opens ob_closes ob_stays ob_apart ob_minute ob_soonest ob_sums), (ce_i10 y ob_spot fob_spot), (ce_i16 y ob_opens f_2151), (ce_i16 y ob_closes f_2152), (ce_i16 y ob_stays f_2153), (ce_i256 y ob_apart f_2023), (ce_X6 o1 o1_town o1_code o1_debts o1_deeds o1_knows o1_day o1_paid o1_follows), (ce_X7 o1_town o1_town_houses o1_town_fresh o1_town_introducers o1_town_x o1_town_y o1_town_rank o1_town_weekday o1_town_from o1_town_to o1_town_came o1_town_bride o1_town_told), (ce_i16 y o1_town_x fo1_town_x), (ce_i16 y o1_town_y fo1_town_y), (ce_i16 y o1_town_from fo1_town_from), (ce_i16 y o1_town_to fo1_town_to), (ce_X1 o1_debts o1_debts_size o1_debts_debtor o1_debts_creditor o1_debts_kind o1_debts_due o1_debts_came o1_debts_open o1_debts_kinds), (ce_i256 y o1_debts_kinds fo1_debts_kinds)] := ⟨hP, hD⟩
    refine lv_aload_n hx hb dX4_lookAtSpots_26 rfl (lv_at hl 2 rfl) ?_
    refine va_get (D := G) (ci := 4) (v := .ref ob_apart) (C := RX4) (T := TX4) (N := 17) hx hb hw0 inA_wsX40 hown hK.1 hP 0 rfl rfl 13 (by decide) (hw0 _ m_826) (fun _ h9 => h9) rfl dX4_lookAtSpots_27 ?_
    refine lv_iload_n hx hb dX4_lookAtSpots_30 rfl (lv_at hl 4 rfl) ?_
    refine lv_bipush (v := 16) hx hb dX4_lookAtSpots_31 (by decide) ?_
    refine lv_imul hx hb dX4_lookAtSpots_33 ?_
    refine lv_topi (fun v_2154 ev_2154 => ?_)
    have qv_2154 := ba_mul 16 ev_2154 p_a2 (by decide) (by decide) (by decide)
    have bv_2154 : (0 : Int) ≤ v_2154.toInt ∧ v_2154.toInt ≤ 240 := qv_2154.2
    refine lv_iload hx hb dX4_lookAtSpots_34 (lv_at hl 0 rfl) ?_
    refine lv_iadd hx hb dX4_lookAtSpots_36 ?_
    refine lv_topi (fun v_2155 ev_2155 => ?_)
    have qv_2155 := ba_add ev_2155 bv_2154 bv_2149 (by decide)
    have bv_2155 : (0 : Int) ≤ v_2155.toInt ∧ v_2155.toInt ≤ 255 := bq_add qv_2155 bv_2154 bv_2149 _ _ (by decide)
    refine lv_aload_n hx hb dX4_lookAtSpots_37 rfl (lv_at hl 3 rfl) ?_
    refine va_get (D := G) (ci := 6) (v := .ref o1_town) (C := RX6) (T := TX6) (N := 8) hx hb hw0 inA_wsX60 hown hK.1 hP 6 rfl rfl 0 (by decide) (hw0 _ m_845) (fun _ h9 => h9) rfl dX4_lookAtSpots_38 ?_
    refine lv_iload_n hx hb dX4_lookAtSpots_41 rfl (lv_at hl 4 rfl) ?_
    refine lv_iload hx hb dX4_lookAtSpots_42 (lv_at hl 0 rfl) ?_
    refine cVim (As := [.int a2, .int v_2149]) (rest := [.int v_2155, .ref ob_apart]) ⟨hx, hb, hml, hown, hw0⟩ hA hK hP hD hS [false, false, false, false, false, false, false, true, true, true] (sX7_minutes l G y _ o1_town a2 v_2149 o1_town_houses o1_town_fresh o1_town_introducers o1_town_x o1_town_y o1_town_rank o1_town_weekday o1_town_from o1_town_to o1_town_came o1_town_bride o1_town_told fo1_town_x fo1_town_y p_o1_town_houses p_a2 bv_2149) rfl ⟨(callB_of 2 hw0 (gA m_1082) rfl rfl rfl (hw0 _ m_746) (hw0 _ m_846) cb_X7_minutes ⟨Nat.le_of_ble_eq_true rfl, Nat.le_of_ble_eq_true rfl⟩), (hw0 _ m_847), (hw0 _ m_848)⟩ (ci := 7) (q := (RX7, TX7, 12)) rfl rfl rfl hl.1 (Nat.le_of_ble_eq_true rfl) dX4_lookAtSpots_44 ⟨Nat.le_of_ble_eq_true rfl, Nat.le_of_ble_eq_true rfl⟩ (fun r_2156 w_2156 H locs hw_2156 hP hD hS => ?_)
    obtain ⟨v_2157, er_2156, rfl⟩ := hw_2156
    subst r_2156
    obtain ⟨hP, hD⟩ : vPD G A H [(ce_X4 ob ob_planned ob_bestWorth ob_bestOver ob_length ob_order ob_owner ob_weekday ob_spots ob_spot ob_deadline ob_opens ob_closes ob_stays ob_apart ob_minute ob_soonest ob_sums), (ce_i10 y ob_spot fob_spot), (ce_i16 y ob_opens f_2151), (ce_i16 y ob_closes f_2152), (ce_i16 y ob_stays f_2153), (ce_i256 y ob_apart f_2023), (ce_X6 o1 o1_town o1_code o1_debts o1_deeds o1_knows o1_day o1_paid o1_follows), (ce_X7 o1_town o1_town_houses o1_town_fresh o1_town_introducers o1_town_x o1_town_y o1_town_rank o1_town_weekday o1_town_from o1_town_to o1_town_came o1_town_bride o1_town_told), (ce_i16 y o1_town_x fo1_town_x), (ce_i16 y o1_town_y fo1_town_y), (ce_i16 y o1_town_from fo1_town_from), (ce_i16 y o1_town_to fo1_town_to), (ce_X1 o1_debts o1_debts_size o1_debts_debtor o1_debts_creditor o1_debts_kind o1_debts_due o1_debts_came o1_debts_open o1_debts_kinds), (ce_i256 y o1_debts_kinds fo1_debts_kinds)] := ⟨hP, hD⟩
    refine va_iast hx hb hK.1 hP hD hS 5 1 rfl rfl (vi bv_2155 (by decide)) dX4_lookAtSpots_47 (fun H locs hP hD hS => ?_)
    generalize hf_2158 : (upd f_2023 (v_2155 : Int32).toNatClampNeg v_2157) = f_2158 at hP hD
    obtain ⟨hP, hD⟩ : vPD G A H [(ce_X4 ob ob_planned ob_bestWorth ob_bestOver ob_length ob_order ob_owner ob_weekday ob_spots ob_spot ob_deadline ob_opens ob_closes ob_stays ob_apart ob_minute ob_soonest ob_sums), (ce_i10 y ob_spot fob_spot), (ce_i16 y ob_opens f_2151), (ce_i16 y ob_closes f_2152), (ce_i16 y ob_stays f_2153), (ce_i256 y ob_apart f_2158), (ce_X6 o1 o1_town o1_code o1_debts o1_deeds o1_knows o1_day o1_paid o1_follows), (ce_X7 o1_town o1_town_houses o1_town_fresh o1_town_introducers o1_town_x o1_town_y o1_town_rank o1_town_weekday o1_town_from o1_town_to o1_town_came o1_town_bride o1_town_told), (ce_i16 y o1_town_x fo1_town_x), (ce_i16 y o1_town_y fo1_town_y), (ce_i16 y o1_town_from fo1_town_from), (ce_i16 y o1_town_to fo1_town_to), (ce_X1 o1_debts o1_debts_size o1_debts_debtor o1_debts_creditor o1_debts_kind o1_debts_due o1_debts_came o1_debts_open o1_debts_kinds), (ce_i256 y o1_debts_kinds fo1_debts_kinds)] := ⟨hP, hD⟩
    refine lv_iconst (v := 0) hx hb dX4_lookAtSpots_48 (by decide) ?_
    refine lv_istore (lv' := [(5, .int 0), (4, .int v_2149), (3, .int v_2019), (0, .ref ob), (1, .ref o1), (2, .int a2)]) hx hb dX4_lookAtSpots_49 hl (by decide) rfl (fun ls hl => ?_)
    refine loopX (fun n H locs ls st => ∃ (v_2250 : Int32) (f_2251 : Nat → Int32), (10 - v_2250.toInt).toNat = n ∧ ((0 : Int) ≤ v_2250.toInt ∧ v_2250.toInt ≤ 10) ∧ st = [] ∧ vPD G A H [(ce_X4 ob ob_planned ob_bestWorth ob_bestOver ob_length ob_order ob_owner ob_weekday ob_spots ob_spot ob_deadline ob_opens ob_closes ob_stays ob_apart ob_minute ob_soonest ob_sums), (ce_i10 y ob_spot fob_spot), (ce_i16 y ob_opens f_2151), (ce_i16 y ob_closes f_2152), (ce_i16 y ob_stays f_2153), (ce_i256 y ob_apart f_2251), (ce_X6 o1 o1_town o1_code o1_debts o1_deeds o1_knows o1_day o1_paid o1_follows), (ce_X7 o1_town o1_town_houses o1_town_fresh o1_town_introducers o1_town_x o1_town_y o1_town_rank o1_town_weekday o1_town_from o1_town_to o1_town_came o1_town_bride o1_town_told), (ce_i16 y o1_town_x fo1_town_x), (ce_i16 y o1_town_y fo1_town_y), (ce_i16 y o1_town_from fo1_town_from), (ce_i16 y o1_town_to fo1_town_to), (ce_X1 o1_debts o1_debts_size o1_debts_debtor o1_debts_creditor o1_debts_kind o1_debts_due o1_debts_came o1_debts_open o1_debts_kinds), (ce_i256 y o1_debts_kinds fo1_debts_kinds)] ∧ va_S A s.heap H locs ∧ lv_has ls 6 [(5, .int v_2250), (4, .int v_2149), (3, .int v_2019), (0, .ref ob), (1, .ref o1), (2, .int a2)]) ?_ (n := (10 - (0 : Int32).toInt).toNat) ⟨0, f_2158, rfl, (bw (0) (10) (bkc (x := 0) (c := 0) (by decide)) (by decide)), rfl, ⟨hP, hD⟩, hS, lv_sub hl [0, 1, 2, 3, 4, 5] rfl⟩
    rintro n ih_2261 H locs ls st ⟨v_2250, f_2251, hn_2261, bv_2250, rfl, ⟨hP, hD⟩, hS, hl⟩
    refine lv_iload hx hb dX4_lookAtSpots_51 (lv_at hl 0 rfl) ?_
    refine lv_aload_n hx hb dX4_lookAtSpots_53 rfl (lv_at hl 3 rfl) ?_
    refine va_get (D := G) (ci := 4) (v := .int ob_spots) (C := RX4) (T := TX4) (N := 17) hx hb hw0 inA_wsX40 hown hK.1 hP 0 rfl rfl 7 (by decide) (hw0 _ m_827) (fun _ h9 => h9) rfl dX4_lookAtSpots_54 ?_
    refine lv_icmp_ge (tgt := 100) hx hb dX4_lookAtSpots_57 (by decide) (fun c_2262 => ?_) (fun c_2262 => ?_)
    · skip
      have nc_2262 := nb_le (10) (1) c_2262 nc_2148.2.1 bv_2250 (by decide)
      obtain ⟨v_2263, ev_2263⟩ : ∃ z : Int32, z = v_2019 + 1 := ⟨_, rfl⟩
      have qv_2263 := ba_add ev_2263 nc_2148.1 (bkc (x := 1) (c := 1) (by decide)) (by decide)
      have bv_2263 : (1 : Int) ≤ v_2263.toInt ∧ v_2263.toInt ≤ 10 := bq_add qv_2263 nc_2148.1 (bkc (x := 1) (c := 1) (by decide)) _ _ (by decide)
      have qv_2263 : v_2263.toInt = v_2019.toInt + (1) := qv_2263
      refine lv_iinc (v := v_2263) (lv' := [(3, .int v_2263), (5, .int v_2250), (4, .int v_2149), (0, .ref ob), (1, .ref o1), (2, .int a2)]) hx hb dX4_lookAtSpots_100 hl (k := 2) rfl (ev_2263.symm) (by decide) rfl (fun ls hl => ?_)
      refine lv_goto (tgt := 2) hx hb dX4_lookAtSpots_103 (by decide) ?_
      exact ih_2147 _ (ml_inc (hi := 10) hn_2147 qv_2263 (by decide) ((bw (0) (10) bv_2263 (by decide))).2) _ _ _ _ ⟨v_2263, f_2151, f_2152, f_2153, f_2251, rfl, (bw (0) (10) bv_2263 (by decide)), rfl, ⟨hP, hD⟩, hS, lv_sub hl [0, 3, 4, 5] rfl⟩
    · skip
      have nc_2262 := nb_nle (9) (1) c_2262 bv_2250 nc_2148.2.1 (by decide)
      refine lv_aload_n hx hb dX4_lookAtSpots_60 rfl (lv_at hl 3 rfl) ?_
      refine va_get (D := G) (ci := 4) (v := .ref ob_apart) (C := RX4) (T := TX4) (N := 17) hx hb hw0 inA_wsX40 hown hK.1 hP 0 rfl rfl 13 (by decide) (hw0 _ m_826) (fun _ h9 => h9) rfl dX4_lookAtSpots_61 ?_
      refine lv_iload hx hb dX4_lookAtSpots_64 (lv_at hl 1 rfl) ?_
      refine lv_bipush (v := 16) hx hb dX4_lookAtSpots_66 (by decide) ?_
      refine lv_imul hx hb dX4_lookAtSpots_68 ?_
      refine lv_topi (fun v_2264 ev_2264 => ?_)
      have qv_2264 := ba_mul 16 ev_2264 bv_2149 (by decide) (by decide) (by decide)
      have bv_2264 : (0 : Int) ≤ v_2264.toInt ∧ v_2264.toInt ≤ 240 := qv_2264.2
      refine lv_aload_n hx hb dX4_lookAtSpots_69 rfl (lv_at hl 3 rfl) ?_
      refine va_get (D := G) (ci := 4) (v := .ref ob_spot) (C := RX4) (T := TX4) (N := 17) hx hb hw0 inA_wsX40 hown hK.1 hP 0 rfl rfl 8 (by decide) (hw0 _ m_829) (fun _ h9 => h9) rfl dX4_lookAtSpots_70 ?_
      refine lv_iload hx hb dX4_lookAtSpots_73 (lv_at hl 0 rfl) ?_
      refine va_iald hx hb hK.1 hP 1 1 rfl rfl (vi nc_2262.1 (by decide)) dX4_lookAtSpots_75 ?_
      refine lv_topi (fun v_2265 ev_2265 => ?_)
      have bv_2265 : (0 : Int) ≤ v_2265.toInt ∧ v_2265.toInt ≤ 15 := rd_b ev_2265 p_fob_spot
      refine lv_iadd hx hb dX4_lookAtSpots_76 ?_
      refine lv_topi (fun v_2266 ev_2266 => ?_)
      have qv_2266 := ba_add ev_2266 bv_2264 bv_2265 (by decide)
      have bv_2266 : (0 : Int) ≤ v_2266.toInt ∧ v_2266.toInt ≤ 255 := bq_add qv_2266 bv_2264 bv_2265 _ _ (by decide)
      refine lv_aload_n hx hb dX4_lookAtSpots_77 rfl (lv_at hl 4 rfl) ?_
      refine va_get (D := G) (ci := 6) (v := .ref o1_town) (C := RX6) (T := TX6) (N := 8) hx hb hw0 inA_wsX60 hown hK.1 hP 6 rfl rfl 0 (by decide) (hw0 _ m_845) (fun _ h9 => h9) rfl dX4_lookAtSpots_78 ?_
      refine lv_iload hx hb dX4_lookAtSpots_81 (lv_at hl 1 rfl) ?_
      refine lv_aload_n hx hb dX4_lookAtSpots_83 rfl (lv_at hl 3 rfl) ?_
      refine va_get (D := G) (ci := 4) (v := .ref ob_spot) (C := RX4) (T := TX4) (N := 17) hx hb hw0 inA_wsX40 hown hK.1 hP 0 rfl rfl 8 (by decide) (hw0 _ m_829) (fun _ h9 => h9) rfl dX4_lookAtSpots_84 ?_
      refine lv_iload hx hb dX4_lookAtSpots_87 (lv_at hl 0 rfl) ?_
      refine va_iald hx hb hK.1 hP 1 1 rfl rfl (vi nc_2262.1 (by decide)) dX4_lookAtSpots_89 ?_
      refine lv_topi (fun v_2267 ev_2267 => ?_)
      obtain rfl : v_2265 = v_2267 := (ev_2267.trans (ev_2265.symm)).symm
      refine cVim (As := [.int v_2149, .int v_2265]) (rest := [.int v_2266, .ref ob_apart]) ⟨hx, hb, hml, hown, hw0⟩ hA hK hP hD hS [false, false, false, false, false, false, false, true, true, true] (sX7_minutes l G y _ o1_town v_2149 v_2265 o1_town_houses o1_town_fresh o1_town_introducers o1_town_x o1_town_y o1_town_rank o1_town_weekday o1_town_from o1_town_to o1_town_came o1_town_bride o1_town_told fo1_town_x fo1_town_y p_o1_town_houses bv_2149 bv_2265) rfl ⟨(callB_of 2 hw0 (gA m_1082) rfl rfl rfl (hw0 _ m_746) (hw0 _ m_846) cb_X7_minutes ⟨Nat.le_of_ble_eq_true rfl, Nat.le_of_ble_eq_true rfl⟩), (hw0 _ m_847), (hw0 _ m_848)⟩ (ci := 7) (q := (RX7, TX7, 12)) rfl rfl rfl hl.1 (Nat.le_of_ble_eq_true rfl) dX4_lookAtSpots_90 ⟨Nat.le_of_ble_eq_true rfl, Nat.le_of_ble_eq_true rfl⟩ (fun r_2268 w_2268 H locs hw_2268 hP hD hS => ?_)
      obtain ⟨v_2269, er_2268, rfl⟩ := hw_2268
      subst r_2268
      obtain ⟨hP, hD⟩ : vPD G A H [(ce_X4 ob ob_planned ob_bestWorth ob_bestOver ob_length ob_order ob_owner ob_weekday ob_spots ob_spot ob_deadline ob_opens ob_closes ob_stays ob_apart ob_minute ob_soonest ob_sums), (ce_i10 y ob_spot fob_spot), (ce_i16 y ob_opens f_2151), (ce_i16 y ob_closes f_2152), (ce_i16 y ob_stays f_2153), (ce_i256 y ob_apart f_2251), (ce_X6 o1 o1_town o1_code o1_debts o1_deeds o1_knows o1_day o1_paid o1_follows), (ce_X7 o1_town o1_town_houses o1_town_fresh o1_town_introducers o1_town_x o1_town_y o1_town_rank o1_town_weekday o1_town_from o1_town_to o1_town_came o1_town_bride o1_town_told), (ce_i16 y o1_town_x fo1_town_x), (ce_i16 y o1_town_y fo1_town_y), (ce_i16 y o1_town_from fo1_town_from), (ce_i16 y o1_town_to fo1_town_to), (ce_X1 o1_debts o1_debts_size o1_debts_debtor o1_debts_creditor o1_debts_kind o1_debts_due o1_debts_came o1_debts_open o1_debts_kinds), (ce_i256 y o1_debts_kinds fo1_debts_kinds)] := ⟨hP, hD⟩
      refine va_iast hx hb hK.1 hP hD hS 5 1 rfl rfl (vi bv_2266 (by decide)) dX4_lookAtSpots_93 (fun H locs hP hD hS => ?_)
      generalize hf_2270 : (upd f_2251 (v_2266 : Int32).toNatClampNeg v_2269) = f_2270 at hP hD
      obtain ⟨hP, hD⟩ : vPD G A H [(ce_X4 ob ob_planned ob_bestWorth ob_bestOver ob_length ob_order ob_owner ob_weekday ob_spots ob_spot ob_deadline ob_opens ob_closes ob_stays ob_apart ob_minute ob_soonest ob_sums), (ce_i10 y ob_spot fob_spot), (ce_i16 y ob_opens f_2151), (ce_i16 y ob_closes f_2152), (ce_i16 y ob_stays f_2153), (ce_i256 y ob_apart f_2270), (ce_X6 o1 o1_town o1_code o1_debts o1_deeds o1_knows o1_day o1_paid o1_follows), (ce_X7 o1_town o1_town_houses o1_town_fresh o1_town_introducers o1_town_x o1_town_y o1_town_rank o1_town_weekday o1_town_from o1_town_to o1_town_came o1_town_bride o1_town_told), (ce_i16 y o1_town_x fo1_town_x), (ce_i16 y o1_town_y fo1_town_y), (ce_i16 y o1_town_from fo1_town_from), (ce_i16 y o1_town_to fo1_town_to), (ce_X1 o1_debts o1_debts_size o1_debts_debtor o1_debts_creditor o1_debts_kind o1_debts_due o1_debts_came o1_debts_open o1_debts_kinds), (ce_i256 y o1_debts_kinds fo1_debts_kinds)] := ⟨hP, hD⟩
      obtain ⟨v_2271, ev_2271⟩ : ∃ z : Int32, z = v_2250 + 1 := ⟨_, rfl⟩
      have qv_2271 := ba_add ev_2271 nc_2262.1 (bkc (x := 1) (c := 1) (by decide)) (by decide)
      have bv_2271 : (1 : Int) ≤ v_2271.toInt ∧ v_2271.toInt ≤ 10 := bq_add qv_2271 nc_2262.1 (bkc (x := 1) (c := 1) (by decide)) _ _ (by decide)
      have qv_2271 : v_2271.toInt = v_2250.toInt + (1) := qv_2271
      refine lv_iinc (v := v_2271) (lv' := [(5, .int v_2271), (4, .int v_2149), (3, .int v_2019), (0, .ref ob), (1, .ref o1), (2, .int a2)]) hx hb dX4_lookAtSpots_94 hl (k := 0) rfl (ev_2271.symm) (by decide) rfl (fun ls hl => ?_)
      refine lv_goto (tgt := 51) hx hb dX4_lookAtSpots_97 (by decide) ?_
      exact ih_2261 _ (ml_inc (hi := 10) hn_2261 qv_2271 (by decide) ((bw (0) (10) bv_2271 (by decide))).2) _ _ _ _ ⟨v_2271, f_2270, rfl, (bw (0) (10) bv_2271 (by decide)), rfl, ⟨hP, hD⟩, hS, lv_sub hl [0, 1, 2, 3, 4, 5] rfl⟩

set_option maxHeartbeats 4000000 in
set_option maxRecDepth 100000 in
theorem sX4_openSpots (l : Launch) (G : va_G) (y : Nat → ClassId) (sz : Nat) (ob : Nat) (o1 : Nat) (a2 : Int32) (ob_planned : Int32) (ob_bestWorth : Int32) (ob_bestOver : Int32) (ob_length : Int32) (ob_order : Nat) (ob_owner : Int32) (ob_weekday : Int32) (ob_spots : Int32) (ob_spot : Nat) (ob_deadline : Nat) (ob_opens : Nat) (ob_closes : Nat) (ob_stays : Nat) (ob_apart : Nat) (ob_minute : Nat) (ob_soonest : Nat) (ob_sums : Nat) (fob_spot : Nat → Int32) (o1_town : Nat) (o1_code : Nat) (o1_debts : Nat) (o1_deeds : Nat) (o1_knows : Nat) (o1_day : Int32) (o1_paid : Int32) (o1_follows : Nat) (o1_town_houses : Int32) (o1_town_fresh : Int32) (o1_town_introducers : Int32) (o1_town_x : Nat) (o1_town_y : Nat) (o1_town_rank : Nat) (o1_town_weekday : Nat) (o1_town_from : Nat) (o1_town_to : Nat) (o1_town_came : Nat) (o1_town_bride : Nat) (o1_town_told : Nat) (fo1_town_weekday : Nat → Int32) (o1_debts_size : Int32) (o1_debts_debtor : Nat) (o1_debts_creditor : Nat) (o1_debts_kind : Nat) (o1_debts_due : Nat) (o1_debts_came : Nat) (o1_debts_open : Nat) (o1_debts_kinds : Nat) (fo1_debts_kinds : Nat → Int32) (p_ob_planned : (0 : Int) ≤ ob_planned.toInt ∧ ob_planned.toInt ≤ 1) (p_ob_length : (0 : Int) ≤ ob_length.toInt ∧ ob_length.toInt ≤ 10) (p_ob_spots : (0 : Int) ≤ ob_spots.toInt ∧ ob_spots.toInt ≤ 10) (p_fob_spot : ∀ i, (0 : Int) ≤ (fob_spot i).toInt ∧ (fob_spot i).toInt ≤ 15) (p_o1_town_houses : (0 : Int) ≤ o1_town_houses.toInt ∧ o1_town_houses.toInt ≤ 16) (p_o1_debts_size : (0 : Int) ≤ o1_debts_size.toInt ∧ o1_debts_size.toInt ≤ 600) (p_o1_day : (0 : Int) ≤ o1_day.toInt ∧ o1_day.toInt ≤ 399) (p_a2 : (0 : Int) ≤ a2.toInt ∧ a2.toInt ≤ 405) (p_ob_owner : (0 : Int) ≤ ob_owner.toInt ∧ ob_owner.toInt ≤ 15) : Met l yX4_openSpots (Cond.code yX4_openSpots cX4_openSpots 5 (some .int) :: wAll) ({ frames := 3, cells := 0, slots := 0, locals := 67 }) (va_Pc [.ref ob, .ref o1, .int a2] (kp G y sz [(ce_X4 ob ob_planned ob_bestWorth ob_bestOver ob_length ob_order ob_owner ob_weekday ob_spots ob_spot ob_deadline ob_opens ob_closes ob_stays ob_apart ob_minute ob_soonest ob_sums), (ce_i10 y ob_spot fob_spot), (ce_X6 o1 o1_town o1_code o1_debts o1_deeds o1_knows o1_day o1_paid o1_follows), (ce_X7 o1_town o1_town_houses o1_town_fresh o1_town_introducers o1_town_x o1_town_y o1_town_rank o1_town_weekday o1_town_from o1_town_to o1_town_came o1_town_bride o1_town_told), (ce_i16 y o1_town_weekday fo1_town_weekday), (ce_X1 o1_debts o1_debts_size o1_debts_debtor o1_debts_creditor o1_debts_kind o1_debts_due o1_debts_came o1_debts_open o1_debts_kinds), (ce_i256 y o1_debts_kinds fo1_debts_kinds)])) (va_Qi (fun (r : Int32) (w : va_W) => (∃ (v_279 : Int32), ((0 : Int) ≤ v_279.toInt ∧ v_279.toInt ≤ 2147483647) ∧ r = v_279 ∧ w = [(ce_X4 ob ob_planned ob_bestWorth ob_bestOver ob_length ob_order ob_owner ob_weekday ob_spots ob_spot ob_deadline ob_opens ob_closes ob_stays ob_apart ob_minute ob_soonest ob_sums), (ce_i10 y ob_spot fob_spot), (ce_X6 o1 o1_town o1_code o1_debts o1_deeds o1_knows o1_day o1_paid o1_follows), (ce_X7 o1_town o1_town_houses o1_town_fresh o1_town_introducers o1_town_x o1_town_y o1_town_rank o1_town_weekday o1_town_from o1_town_to o1_town_came o1_town_bride o1_town_told), (ce_i16 y o1_town_weekday fo1_town_weekday), (ce_X1 o1_debts o1_debts_size o1_debts_debtor o1_debts_creditor o1_debts_kind o1_debts_due o1_debts_came o1_debts_open o1_debts_kinds), (ce_i256 y o1_debts_kinds fo1_debts_kinds)])) (kq G (va_A [(ce_X4 ob ob_planned ob_bestWorth ob_bestOver ob_length ob_order ob_owner ob_weekday ob_spots ob_spot ob_deadline ob_opens ob_closes ob_stays ob_apart ob_minute ob_soonest ob_sums), (ce_i10 y ob_spot fob_spot), (ce_X6 o1 o1_town o1_code o1_debts o1_deeds o1_knows o1_day o1_paid o1_follows), (ce_X7 o1_town o1_town_houses o1_town_fresh o1_town_introducers o1_town_x o1_town_y o1_town_rank o1_town_weekday o1_town_from o1_town_to o1_town_came o1_town_bride o1_town_told), (ce_i16 y o1_town_weekday fo1_town_weekday), (ce_X1 o1_debts o1_debts_size o1_debts_debtor o1_debts_creditor o1_debts_kind o1_debts_due o1_debts_came o1_debts_open o1_debts_kinds), (ce_i256 y o1_debts_kinds fo1_debts_kinds)] sz)) (va_A [(ce_X4 ob ob_planned ob_bestWorth ob_bestOver ob_length ob_order ob_owner ob_weekday ob_spots ob_spot ob_deadline ob_opens ob_closes ob_stays ob_apart ob_minute ob_soonest ob_sums), (ce_i10 y ob_spot fob_spot), (ce_X6 o1 o1_town o1_code o1_debts o1_deeds o1_knows o1_day o1_paid o1_follows), (ce_X7 o1_town o1_town_houses o1_town_fresh o1_town_introducers o1_town_x o1_town_y o1_town_rank o1_town_weekday o1_town_from o1_town_to o1_town_came o1_town_bride o1_town_told), (ce_i16 y o1_town_weekday fo1_town_weekday), (ce_X1 o1_debts o1_debts_size o1_debts_debtor o1_debts_creditor o1_debts_kind o1_debts_due o1_debts_came o1_debts_open o1_debts_kinds), (ce_i256 y o1_debts_kinds fo1_debts_kinds)] sz)) 0 0 (va_A [(ce_X4 ob ob_planned ob_bestWorth ob_bestOver ob_length ob_order ob_owner ob_weekday ob_spots ob_spot ob_deadline ob_opens ob_closes ob_stays ob_apart ob_minute ob_soonest ob_sums), (ce_i10 y ob_spot fob_spot), (ce_X6 o1 o1_town o1_code o1_debts o1_deeds o1_knows o1_day o1_paid o1_follows), (ce_X7 o1_town o1_town_houses o1_town_fresh o1_town_introducers o1_town_x o1_town_y o1_town_rank o1_town_weekday o1_town_from o1_town_to o1_town_came o1_town_bride o1_town_told), (ce_i16 y o1_town_weekday fo1_town_weekday), (ce_X1 o1_debts o1_debts_size o1_debts_debtor o1_debts_creditor o1_debts_kind o1_debts_due o1_debts_came o1_debts_open o1_debts_kinds), (ce_i256 y o1_debts_kinds fo1_debts_kinds)] sz) := by
  refine Met.ofW (cc := cX4_openSpots) (maxL := 5) (ret := (some .int)) (by decide) rfl ?_
  intro p e s m args below meth c s₁ B hml hv
  obtain ⟨rfl, hsz, hP, hK, hD0⟩ := hv
  have hx := B.exec
  have hb := B.bytes
  have hr := B.returns
  have hw0 : ∀ w ∈ wAll, w.before _ s = true := fun w h => atoms_spec (ws := Cond.code yX4_openSpots cX4_openSpots 5 (some .int) :: wAll) B.pre w (List.mem_cons_of_mem _ h)
  have hown : s.vm.findClass RX4 = some m.cls := findClass_of_methodNamed B.named
  subst hsz
  have hD := hD0.self (sz := s.heap.size)
  generalize hAe : va_A [(ce_X4 ob ob_planned ob_bestWorth ob_bestOver ob_length ob_order ob_owner ob_weekday ob_spots ob_spot ob_deadline ob_opens ob_closes ob_stays ob_apart ob_minute ob_soonest ob_sums), (ce_i10 y ob_spot fob_spot), (ce_X6 o1 o1_town o1_code o1_debts o1_deeds o1_knows o1_day o1_paid o1_follows), (ce_X7 o1_town o1_town_houses o1_town_fresh o1_town_introducers o1_town_x o1_town_y o1_town_rank o1_town_weekday o1_town_from o1_town_to o1_town_came o1_town_bride o1_town_told), (ce_i16 y o1_town_weekday fo1_town_weekday), (ce_X1 o1_debts o1_debts_size o1_debts_debtor o1_debts_creditor o1_debts_kind o1_debts_due o1_debts_came o1_debts_open o1_debts_kinds), (ce_i256 y o1_debts_kinds fo1_debts_kinds)] s.heap.size = A at hD ⊢
  have hA : ∀ q : Nat, s.heap.size ≤ q → A q := fun q h => by rw [← hAe]; exact Or.inr h
  have hS : va_S A s.heap s.heap [] := va_S.rf
  have hP : va_P G vwCl [(ce_X4 ob ob_planned ob_bestWorth ob_bestOver ob_length ob_order ob_owner ob_weekday ob_spots ob_spot ob_deadline ob_opens ob_closes ob_stays ob_apart ob_minute ob_soonest ob_sums), (ce_i10 y ob_spot fob_spot), (ce_X6 o1 o1_town o1_code o1_debts o1_deeds o1_knows o1_day o1_paid o1_follows), (ce_X7 o1_town o1_town_houses o1_town_fresh o1_town_introducers o1_town_x o1_town_y o1_town_rank o1_town_weekday o1_town_from o1_town_to o1_town_came o1_town_bride o1_town_told), (ce_i16 y o1_town_weekday fo1_town_weekday), (ce_X1 o1_debts o1_debts_size o1_debts_debtor o1_debts_creditor o1_debts_kind o1_debts_due o1_debts_came o1_debts_open o1_debts_kinds), (ce_i256 y o1_debts_kinds fo1_debts_kinds)] s.heap := hP
  have hl := lv_entry ([.ref ob, .ref o1, .int a2]) (n := 5) (Nat.le_of_ble_eq_true rfl)
  rw [lg_entry_eq]
  generalize (lg_sl ([.ref ob, .ref o1, .int a2]) ++ List.replicate (5 - (lg_sl ([.ref ob, .ref o1, .int a2])).length) Slot.unset).toArray = ls at hl ⊢
  have hl : lv_has ls 5 [(0, .ref ob), (1, .ref o1), (2, .int a2)] := hl
  refine lv_iconst (v := 0) hx hb dX4_openSpots_0 (by decide) ?_
  refine lv_istore_n (lv' := [(3, .int 0), (0, .ref ob), (1, .ref o1), (2, .int a2)]) hx hb dX4_openSpots_1 rfl hl (by decide) rfl (fun ls hl => ?_)
  refine lv_iconst (v := 0) hx hb dX4_openSpots_2 (by decide) ?_
  refine lv_istore (lv' := [(4, .int 0), (3, .int 0), (0, .ref ob), (1, .ref o1), (2, .int a2)]) hx hb dX4_openSpots_3 hl (by decide) rfl (fun ls hl => ?_)
  refine loopX (fun n H locs ls st => ∃ (v_1118 : Int32) (v_1119 : Int32), (10 - v_1118.toInt).toNat = n ∧ ((0 : Int) ≤ v_1118.toInt ∧ v_1118.toInt ≤ 10) ∧ ((0 : Int) ≤ v_1119.toInt ∧ v_1119.toInt ≤ 2147483647) ∧ st = [] ∧ vPD G A H [(ce_X4 ob ob_planned ob_bestWorth ob_bestOver ob_length ob_order ob_owner ob_weekday ob_spots ob_spot ob_deadline ob_opens ob_closes ob_stays ob_apart ob_minute ob_soonest ob_sums), (ce_i10 y ob_spot fob_spot), (ce_X6 o1 o1_town o1_code o1_debts o1_deeds o1_knows o1_day o1_paid o1_follows), (ce_X7 o1_town o1_town_houses o1_town_fresh o1_town_introducers o1_town_x o1_town_y o1_town_rank o1_town_weekday o1_town_from o1_town_to o1_town_came o1_town_bride o1_town_told), (ce_i16 y o1_town_weekday fo1_town_weekday), (ce_X1 o1_debts o1_debts_size o1_debts_debtor o1_debts_creditor o1_debts_kind o1_debts_due o1_debts_came o1_debts_open o1_debts_kinds), (ce_i256 y o1_debts_kinds fo1_debts_kinds)] ∧ va_S A s.heap H locs ∧ lv_has ls 5 [(4, .int v_1118), (3, .int v_1119), (0, .ref ob), (1, .ref o1), (2, .int a2)]) ?_ (n := (10 - (0 : Int32).toInt).toNat) ⟨0, 0, rfl, (bw (0) (10) (bkc (x := 0) (c := 0) (by decide)) (by decide)), (bw (0) (2147483647) (bkc (x := 0) (c := 0) (by decide)) (by decide)), rfl, ⟨hP, hD⟩, hS, lv_sub hl [0, 1, 2, 3, 4] rfl⟩
  rintro n ih_1129 H locs ls st ⟨v_1118, v_1119, hn_1129, bv_1118, bv_1119, rfl, ⟨hP, hD⟩, hS, hl⟩
  refine lv_iload hx hb dX4_openSpots_5 (lv_at hl 0 rfl) ?_
  refine lv_aload_n hx hb dX4_openSpots_7 rfl (lv_at hl 2 rfl) ?_
  refine va_get (D := G) (ci := 4) (v := .int ob_spots) (C := RX4) (T := TX4) (N := 17) hx hb hw0 inA_wsX40 hown hK.1 hP 0 rfl rfl 7 (by decide) (hw0 _ m_827) (fun _ h9 => h9) rfl dX4_openSpots_8 ?_
  refine lv_icmp_ge (tgt := 46) hx hb dX4_openSpots_11 (by decide) (fun c_1130 => ?_) (fun c_1130 => ?_)
  · skip
    have nc_1130 := nb_le (10) (0) c_1130 p_ob_spots bv_1118 (by decide)
    refine lv_iload_n hx hb dX4_openSpots_46 rfl (lv_at hl 1 rfl) ?_
    exact W.iret (v := v_1119) hx hb hr (fun t ht hW => ⟨⟨v_1119, _, rfl, ⟨v_1119, bv_1119, rfl, rfl⟩, by rw [ht]; exact hP, hD⟩, hS.F ht⟩) hS.2.2 dX4_openSpots_47
  · skip
    have nc_1130 := nb_nle (9) (1) c_1130 bv_1118 p_ob_spots (by decide)
    refine lv_aload_n hx hb dX4_openSpots_14 rfl (lv_at hl 3 rfl) ?_
    refine lv_aload_n hx hb dX4_openSpots_15 rfl (lv_at hl 2 rfl) ?_
    refine va_get (D := G) (ci := 4) (v := .int ob_owner) (C := RX4) (T := TX4) (N := 17) hx hb hw0 inA_wsX40 hown hK.1 hP 0 rfl rfl 5 (by decide) (hw0 _ m_866) (fun _ h9 => h9) rfl dX4_openSpots_16 ?_
    refine lv_aload_n hx hb dX4_openSpots_19 rfl (lv_at hl 2 rfl) ?_
    refine va_get (D := G) (ci := 4) (v := .ref ob_spot) (C := RX4) (T := TX4) (N := 17) hx hb hw0 inA_wsX40 hown hK.1 hP 0 rfl rfl 8 (by decide) (hw0 _ m_829) (fun _ h9 => h9) rfl dX4_openSpots_20 ?_
    refine lv_iload hx hb dX4_openSpots_23 (lv_at hl 0 rfl) ?_
    refine va_iald hx hb hK.1 hP 1 1 rfl rfl (vi nc_1130.1 (by decide)) dX4_openSpots_25 ?_
    refine lv_topi (fun v_1131 ev_1131 => ?_)
    have bv_1131 : (0 : Int) ≤ v_1131.toInt ∧ v_1131.toInt ≤ 15 := rd_b ev_1131 p_fob_spot
    refine lv_iload_n hx hb dX4_openSpots_26 rfl (lv_at hl 4 rfl) ?_
    refine cutW 40 (fun H locs ls st => ∃ (v_1135 : Int32), ((0 : Int) ≤ v_1135.toInt ∧ v_1135.toInt ≤ 2147483647) ∧ st = [] ∧ vPD G A H [(ce_X4 ob ob_planned ob_bestWorth ob_bestOver ob_length ob_order ob_owner ob_weekday ob_spots ob_spot ob_deadline ob_opens ob_closes ob_stays ob_apart ob_minute ob_soonest ob_sums), (ce_i10 y ob_spot fob_spot), (ce_X6 o1 o1_town o1_code o1_debts o1_deeds o1_knows o1_day o1_paid o1_follows), (ce_X7 o1_town o1_town_houses o1_town_fresh o1_town_introducers o1_town_x o1_town_y o1_town_rank o1_town_weekday o1_town_from o1_town_to o1_town_came o1_town_bride o1_town_told), (ce_i16 y o1_town_weekday fo1_town_weekday), (ce_X1 o1_debts o1_debts_size o1_debts_debtor o1_debts_creditor o1_debts_kind o1_debts_due o1_debts_came o1_debts_open o1_debts_kinds), (ce_i256 y o1_debts_kinds fo1_debts_kinds)] ∧ va_S A s.heap H locs ∧ lv_has ls 5 [(4, .int v_1118), (3, .int v_1135), (0, .ref ob), (1, .ref o1), (2, .int a2)]) ?_ (fun J_40_1135 => ?_)
    · rintro H locs ls st ⟨v_1135, bv_1135, rfl, ⟨hP, hD⟩, hS, hl⟩
      obtain ⟨v_1136, ev_1136⟩ : ∃ z : Int32, z = v_1118 + 1 := ⟨_, rfl⟩
      have qv_1136 := ba_add ev_1136 nc_1130.1 (bkc (x := 1) (c := 1) (by decide)) (by decide)
      have bv_1136 : (1 : Int) ≤ v_1136.toInt ∧ v_1136.toInt ≤ 10 := bq_add qv_1136 nc_1130.1 (bkc (x := 1) (c := 1) (by decide)) _ _ (by decide)
      have qv_1136 : v_1136.toInt = v_1118.toInt + (1) := qv_1136
      refine lv_iinc (v := v_1136) (lv' := [(4, .int v_1136), (3, .int v_1135), (0, .ref ob), (1, .ref o1), (2, .int a2)]) hx hb dX4_openSpots_40 hl (k := 0) rfl (ev_1136.symm) (by decide) rfl (fun ls hl => ?_)
      refine lv_goto (tgt := 5) hx hb dX4_openSpots_43 (by decide) ?_
      exact ih_1129 _ (ml_inc (hi := 10) hn_1129 qv_1136 (by decide) ((bw (0) (10) bv_1136 (by decide))).2) _ _ _ _ ⟨v_1136, v_1135, rfl, (bw (0) (10) bv_1136 (by decide)), bv_1135, rfl, ⟨hP, hD⟩, hS, lv_sub hl [0, 1, 2, 3, 4] rfl⟩
    · skip
      refine cSim (As := [.ref o1, .int ob_owner, .int v_1131, .int a2]) (rest := []) ⟨hx, hb, hml, hown, hw0⟩ hA hK hP hD hS [false, false, true, true, true, true, true] (sX4_isAtHome l G y _ o1 ob_owner v_1131 a2 o1_town o1_code o1_debts o1_deeds o1_knows o1_day o1_paid o1_follows o1_town_houses o1_town_fresh o1_town_introducers o1_town_x o1_town_y o1_town_rank o1_town_weekday o1_town_from o1_town_to o1_town_came o1_town_bride o1_town_told fo1_town_weekday o1_debts_size o1_debts_debtor o1_debts_creditor o1_debts_kind o1_debts_due o1_debts_came o1_debts_open o1_debts_kinds fo1_debts_kinds p_o1_town_houses p_o1_debts_size p_o1_day p_ob_owner bv_1131 p_a2) rfl ⟨(callB_of 4 hw0 (gA m_900) rfl rfl rfl (hw0 _ m_839) (hw0 _ m_853) cb_X4_isAtHome ⟨Nat.le_of_ble_eq_true rfl, Nat.le_of_ble_eq_true rfl⟩), (hw0 _ m_854)⟩ rfl hl.1 (Nat.le_of_ble_eq_true rfl) dX4_openSpots_27 ⟨Nat.le_of_ble_eq_true rfl, Nat.le_of_ble_eq_true rfl⟩ (fun r_1137 w_1137 H locs hw_1137 hP hD hS => ?_)
      rcases hw_1137 with ⟨rfl, rfl⟩ | ⟨rfl, rfl⟩
      · skip
        obtain ⟨hP, hD⟩ : vPD G A H [(ce_X4 ob ob_planned ob_bestWorth ob_bestOver ob_length ob_order ob_owner ob_weekday ob_spots ob_spot ob_deadline ob_opens ob_closes ob_stays ob_apart ob_minute ob_soonest ob_sums), (ce_i10 y ob_spot fob_spot), (ce_X6 o1 o1_town o1_code o1_debts o1_deeds o1_knows o1_day o1_paid o1_follows), (ce_X7 o1_town o1_town_houses o1_town_fresh o1_town_introducers o1_town_x o1_town_y o1_town_rank o1_town_weekday o1_town_from o1_town_to o1_town_came o1_town_bride o1_town_told), (ce_i16 y o1_town_weekday fo1_town_weekday), (ce_X1 o1_debts o1_debts_size o1_debts_debtor o1_debts_creditor o1_debts_kind o1_debts_due o1_debts_came o1_debts_open o1_debts_kinds), (ce_i256 y o1_debts_kinds fo1_debts_kinds)] := ⟨hP, hD⟩
        refine lv_if_eq (tgt := 40) hx hb dX4_openSpots_30 (by decide) (fun _ => ?_) (fun c9 => absurd (by decide) c9)
        exact J_40_1135 _ _ _ _ ⟨v_1119, bv_1119, rfl, ⟨hP, hD⟩, hS, lv_sub hl [0, 1, 2, 3, 4] rfl⟩
      · skip
        obtain ⟨hP, hD⟩ : vPD G A H [(ce_X4 ob ob_planned ob_bestWorth ob_bestOver ob_length ob_order ob_owner ob_weekday ob_spots ob_spot ob_deadline ob_opens ob_closes ob_stays ob_apart ob_minute ob_soonest ob_sums), (ce_i10 y ob_spot fob_spot), (ce_X6 o1 o1_town o1_code o1_debts o1_deeds o1_knows o1_day o1_paid o1_follows), (ce_X7 o1_town o1_town_houses o1_town_fresh o1_town_introducers o1_town_x o1_town_y o1_town_rank o1_town_weekday o1_town_from o1_town_to o1_town_came o1_town_bride o1_town_told), (ce_i16 y o1_town_weekday fo1_town_weekday), (ce_X1 o1_debts o1_debts_size o1_debts_debtor o1_debts_creditor o1_debts_kind o1_debts_due o1_debts_came o1_debts_open o1_debts_kinds), (ce_i256 y o1_debts_kinds fo1_debts_kinds)] := ⟨hP, hD⟩
        refine lv_if_eq (tgt := 40) hx hb dX4_openSpots_30 (by decide) (fun c9 => absurd c9 (by decide)) (fun _ => ?_)
        refine lv_iload_n hx hb dX4_openSpots_33 rfl (lv_at hl 1 rfl) ?_
        refine lv_iconst (v := 1) hx hb dX4_openSpots_34 (by decide) ?_
        refine lv_iload hx hb dX4_openSpots_35 (lv_at hl 0 rfl) ?_
        refine lv_ishl hx hb dX4_openSpots_37 ?_
        refine lv_topi (fun v_1138 ev_1138 => ?_)
        have bv_1138 : (1 : Int) ≤ v_1138.toInt ∧ v_1138.toInt ≤ 512 := ba_shl 0 9 ev_1138 nc_1130.1 (by decide)
        refine lv_ior hx hb dX4_openSpots_38 ?_
        refine lv_topi (fun v_1139 ev_1139 => ?_)
        have bv_1139 : (0 : Int) ≤ v_1139.toInt ∧ v_1139.toInt ≤ 2147483647 := ba_or 31 ev_1139 bv_1119 bv_1138 (by decide)
        refine lv_istore_n (lv' := [(3, .int v_1139), (4, .int v_1118), (0, .ref ob), (1, .ref o1), (2, .int a2)]) hx hb dX4_openSpots_39 rfl hl (by decide) rfl (fun ls hl => ?_)
        exact J_40_1135 _ _ _ _ ⟨v_1139, bv_1139, rfl, ⟨hP, hD⟩, hS, lv_sub hl [1, 0, 2, 3, 4] rfl⟩

set_option maxHeartbeats 4000000 in
set_option maxRecDepth 100000 in
theorem sX4_seen (l : Launch) (G : va_G) (y : Nat → ClassId) (sz : Nat) (ob : Nat) (a1 : Int32) (a2 : Int32) (ob_planned : Int32) (ob_bestWorth : Int32) (ob_bestOver : Int32) (ob_length : Int32) (ob_order : Nat) (ob_owner : Int32) (ob_weekday : Int32) (ob_spots : Int32) (ob_spot : Nat) (ob_deadline : Nat) (ob_opens : Nat) (ob_closes : Nat) (ob_stays : Nat) (ob_apart : Nat) (ob_minute : Nat) (ob_soonest : Nat) (ob_sums : Nat) (fob_opens : Nat → Int32) (fob_closes : Nat → Int32) (fob_stays : Nat → Int32) (p_ob_planned : (0 : Int) ≤ ob_planned.toInt ∧ ob_planned.toInt ≤ 1) (p_ob_length : (0 : Int) ≤ ob_length.toInt ∧ ob_length.toInt ≤ 10) (p_ob_spots : (0 : Int) ≤ ob_spots.toInt ∧ ob_spots.toInt ≤ 10) (p_a1 : (0 : Int) ≤ a1.toInt ∧ a1.toInt ≤ 15) : Met l yX4_seen (Cond.code yX4_seen cX4_seen 4 (some .int) :: wAll) ({ frames := 1, cells := 0, slots := 0, locals := 21 }) (va_Pc [.ref ob, .int a1, .int a2] (kp G y sz [(ce_X4 ob ob_planned ob_bestWorth ob_bestOver ob_length ob_order ob_owner ob_weekday ob_spots ob_spot ob_deadline ob_opens ob_closes ob_stays ob_apart ob_minute ob_soonest ob_sums), (ce_i16 y ob_opens fob_opens), (ce_i16 y ob_closes fob_closes), (ce_i16 y ob_stays fob_stays)])) (va_Qi (fun (r : Int32) (w : va_W) => (∃ (v_13 : Int32), r = v_13 ∧ w = [(ce_X4 ob ob_planned ob_bestWorth ob_bestOver ob_length ob_order ob_owner ob_weekday ob_spots ob_spot ob_deadline ob_opens ob_closes ob_stays ob_apart ob_minute ob_soonest ob_sums), (ce_i16 y ob_opens fob_opens), (ce_i16 y ob_closes fob_closes), (ce_i16 y ob_stays fob_stays)])) (kq G (va_A [(ce_X4 ob ob_planned ob_bestWorth ob_bestOver ob_length ob_order ob_owner ob_weekday ob_spots ob_spot ob_deadline ob_opens ob_closes ob_stays ob_apart ob_minute ob_soonest ob_sums), (ce_i16 y ob_opens fob_opens), (ce_i16 y ob_closes fob_closes), (ce_i16 y ob_stays fob_stays)] sz)) (va_A [(ce_X4 ob ob_planned ob_bestWorth ob_bestOver ob_length ob_order ob_owner ob_weekday ob_spots ob_spot ob_deadline ob_opens ob_closes ob_stays ob_apart ob_minute ob_soonest ob_sums), (ce_i16 y ob_opens fob_opens), (ce_i16 y ob_closes fob_closes), (ce_i16 y ob_stays fob_stays)] sz)) 0 0 (va_A [(ce_X4 ob ob_planned ob_bestWorth ob_bestOver ob_length ob_order ob_owner ob_weekday ob_spots ob_spot ob_deadline ob_opens ob_closes ob_stays ob_apart ob_minute ob_soonest ob_sums), (ce_i16 y ob_opens fob_opens), (ce_i16 y ob_closes fob_closes), (ce_i16 y ob_stays fob_stays)] sz) := by
  refine Met.ofW (cc := cX4_seen) (maxL := 4) (ret := (some .int)) (by decide) rfl ?_
  intro p e s m args below meth c s₁ B hml hv
  obtain ⟨rfl, hsz, hP, hK, hD0⟩ := hv
  have hx := B.exec
  have hb := B.bytes
  have hr := B.returns
  have hw0 : ∀ w ∈ wAll, w.before _ s = true := fun w h => atoms_spec (ws := Cond.code yX4_seen cX4_seen 4 (some .int) :: wAll) B.pre w (List.mem_cons_of_mem _ h)
  have hown : s.vm.findClass RX4 = some m.cls := findClass_of_methodNamed B.named
  subst hsz
  have hD := hD0.self (sz := s.heap.size)
  generalize hAe : va_A [(ce_X4 ob ob_planned ob_bestWorth ob_bestOver ob_length ob_order ob_owner ob_weekday ob_spots ob_spot ob_deadline ob_opens ob_closes ob_stays ob_apart ob_minute ob_soonest ob_sums), (ce_i16 y ob_opens fob_opens), (ce_i16 y ob_closes fob_closes), (ce_i16 y ob_stays fob_stays)] s.heap.size = A at hD ⊢
  have hA : ∀ q : Nat, s.heap.size ≤ q → A q := fun q h => by rw [← hAe]; exact Or.inr h
  have hS : va_S A s.heap s.heap [] := va_S.rf
  have hP : va_P G vwCl [(ce_X4 ob ob_planned ob_bestWorth ob_bestOver ob_length ob_order ob_owner ob_weekday ob_spots ob_spot ob_deadline ob_opens ob_closes ob_stays ob_apart ob_minute ob_soonest ob_sums), (ce_i16 y ob_opens fob_opens), (ce_i16 y ob_closes fob_closes), (ce_i16 y ob_stays fob_stays)] s.heap := hP
  have hl := lv_entry ([.ref ob, .int a1, .int a2]) (n := 4) (Nat.le_of_ble_eq_true rfl)
  rw [lg_entry_eq]
  generalize (lg_sl ([.ref ob, .int a1, .int a2]) ++ List.replicate (4 - (lg_sl ([.ref ob, .int a1, .int a2])).length) Slot.unset).toArray = ls at hl ⊢
  have hl : lv_has ls 4 [(0, .ref ob), (1, .int a1), (2, .int a2)] := hl
  refine lv_iload_n hx hb dX4_seen_0 rfl (lv_at hl 2 rfl) ?_
  refine lv_aload_n hx hb dX4_seen_1 rfl (lv_at hl 0 rfl) ?_
  refine va_get (D := G) (ci := 4) (v := .ref ob_opens) (C := RX4) (T := TX4) (N := 17) hx hb hw0 inA_wsX40 hown hK.1 hP 0 rfl rfl 10 (by decide) (hw0 _ m_897) (fun _ h9 => h9) rfl dX4_seen_2 ?_
  refine lv_iload_n hx hb dX4_seen_5 rfl (lv_at hl 1 rfl) ?_
  refine va_iald hx hb hK.1 hP 1 1 rfl rfl (vi p_a1 (by decide)) dX4_seen_6 ?_
  refine lv_topi (fun v_1001 ev_1001 => ?_)
  refine va_mmax (own := RX4) hx hb (by rw [hml]; exact hl.1.symm) hown (hw0 _ m_906) (hw0 _ m_675) (hw0 _ m_283) (hw0 _ m_676) (Nat.le_of_ble_eq_true rfl) (Nat.le_of_ble_eq_true rfl) (Nat.zero_le _) (Nat.zero_le _) dX4_seen_7 ?_
  refine lv_topi (fun v_1002 ev_1002 => ?_)
  refine lv_aload_n hx hb dX4_seen_10 rfl (lv_at hl 0 rfl) ?_
  refine va_get (D := G) (ci := 4) (v := .ref ob_stays) (C := RX4) (T := TX4) (N := 17) hx hb hw0 inA_wsX40 hown hK.1 hP 0 rfl rfl 12 (by decide) (hw0 _ m_899) (fun _ h9 => h9) rfl dX4_seen_11 ?_
  refine lv_iload_n hx hb dX4_seen_14 rfl (lv_at hl 1 rfl) ?_
  refine va_iald hx hb hK.1 hP 3 1 rfl rfl (vi p_a1 (by decide)) dX4_seen_15 ?_
  refine lv_topi (fun v_1003 ev_1003 => ?_)
  refine lv_iadd hx hb dX4_seen_16 ?_
  refine lv_topi (fun v_1004 ev_1004 => ?_)
  refine lv_istore_n (lv' := [(3, .int v_1004), (0, .ref ob), (1, .int a1), (2, .int a2)]) hx hb dX4_seen_17 rfl hl (by decide) rfl (fun ls hl => ?_)
  refine lv_iload_n hx hb dX4_seen_18 rfl (lv_at hl 0 rfl) ?_
  refine lv_aload_n hx hb dX4_seen_19 rfl (lv_at hl 1 rfl) ?_
  refine va_get (D := G) (ci := 4) (v := .ref ob_closes) (C := RX4) (T := TX4) (N := 17) hx hb hw0 inA_wsX40 hown hK.1 hP 0 rfl rfl 11 (by decide) (hw0 _ m_898) (fun _ h9 => h9) rfl dX4_seen_20 ?_
  refine lv_iload_n hx hb dX4_seen_23 rfl (lv_at hl 2 rfl) ?_
  refine va_iald hx hb hK.1 hP 2 1 rfl rfl (vi p_a1 (by decide)) dX4_seen_24 ?_
  refine lv_topi (fun v_1005 ev_1005 => ?_)
  refine lv_icmp_le (tgt := 34) hx hb dX4_seen_25 (by decide) (fun c_1006 => ?_) (fun c_1006 => ?_)
  · skip
    have nc_1006 := nb_le (2147483647) (-2147483648) c_1006 (btop v_1004) (btop v_1005) (by decide)
    refine lv_iload_n hx hb dX4_seen_34 rfl (lv_at hl 0 rfl) ?_
    exact W.iret (v := v_1004) hx hb hr (fun t ht hW => ⟨⟨v_1004, _, rfl, ⟨v_1004, rfl, rfl⟩, by rw [ht]; exact hP, hD⟩, hS.F ht⟩) hS.2.2 dX4_seen_35
  · skip
    have nc_1006 := nb_nle (2147483646) (-2147483647) c_1006 (btop v_1005) (btop v_1004) (by decide)
    refine lv_sipush (v := 1000) hx hb dX4_seen_28 (by decide) ?_
    refine lv_goto (tgt := 35) hx hb dX4_seen_31 (by decide) ?_
    exact W.iret (v := 1000) hx hb hr (fun t ht hW => ⟨⟨1000, _, rfl, ⟨1000, rfl, rfl⟩, by rw [ht]; exact hP, hD⟩, hS.F ht⟩) hS.2.2 dX4_seen_35

set_option maxHeartbeats 4000000 in
set_option maxRecDepth 100000 in
theorem sX4_arrival (l : Launch) (G : va_G) (y : Nat → ClassId) (sz : Nat) (ob : Nat) (a1 : Int32) (a2 : Int32) (a3 : Int32) (ob_planned : Int32) (ob_bestWorth : Int32) (ob_bestOver : Int32) (ob_length : Int32) (ob_order : Nat) (ob_owner : Int32) (ob_weekday : Int32) (ob_spots : Int32) (ob_spot : Nat) (ob_deadline : Nat) (ob_opens : Nat) (ob_closes : Nat) (ob_stays : Nat) (ob_apart : Nat) (ob_minute : Nat) (ob_soonest : Nat) (ob_sums : Nat) (fob_spot : Nat → Int32) (fob_apart : Nat → Int32) (fob_minute : Nat → Int32) (fob_soonest : Nat → Int32) (p_ob_planned : (0 : Int) ≤ ob_planned.toInt ∧ ob_planned.toInt ≤ 1) (p_ob_length : (0 : Int) ≤ ob_length.toInt ∧ ob_length.toInt ≤ 10) (p_ob_spots : (0 : Int) ≤ ob_spots.toInt ∧ ob_spots.toInt ≤ 10) (p_fob_spot : ∀ i, (0 : Int) ≤ (fob_spot i).toInt ∧ (fob_spot i).toInt ≤ 15) (p_a1 : (0 : Int) ≤ a1.toInt ∧ a1.toInt ≤ 15) (p_a2 : (0 : Int) ≤ a2.toInt ∧ a2.toInt ≤ 1023) (p_a3 : (0 : Int) ≤ a3.toInt ∧ a3.toInt ≤ 15) : Met l yX4_arrival (Cond.code yX4_arrival cX4_arrival 7 (some .int) :: wAll) ({ frames := 1, cells := 0, slots := 0, locals := 21 }) (va_Pc [.ref ob, .int a1, .int a2, .int a3] (kp G y sz [(ce_X4 ob ob_planned ob_bestWorth ob_bestOver ob_length ob_order ob_owner ob_weekday ob_spots ob_spot ob_deadline ob_opens ob_closes ob_stays ob_apart ob_minute ob_soonest ob_sums), (ce_i10 y ob_spot fob_spot), (ce_i256 y ob_apart fob_apart), (ce_i10240 y ob_minute fob_minute), (ce_i1024 y ob_soonest fob_soonest)])) (va_Qi (fun (r : Int32) (w : va_W) => (∃ (v_543 : Int32), r = v_543 ∧ w = [(ce_X4 ob ob_planned ob_bestWorth ob_bestOver ob_length ob_order ob_owner ob_weekday ob_spots ob_spot ob_deadline ob_opens ob_closes ob_stays ob_apart ob_minute ob_soonest ob_sums), (ce_i10 y ob_spot fob_spot), (ce_i256 y ob_apart fob_apart), (ce_i10240 y ob_minute fob_minute), (ce_i1024 y ob_soonest fob_soonest)])) (kq G (va_A [(ce_X4 ob ob_planned ob_bestWorth ob_bestOver ob_length ob_order ob_owner ob_weekday ob_spots ob_spot ob_deadline ob_opens ob_closes ob_stays ob_apart ob_minute ob_soonest ob_sums), (ce_i10 y ob_spot fob_spot), (ce_i256 y ob_apart fob_apart), (ce_i10240 y ob_minute fob_minute), (ce_i1024 y ob_soonest fob_soonest)] sz)) (va_A [(ce_X4 ob ob_planned ob_bestWorth ob_bestOver ob_length ob_order ob_owner ob_weekday ob_spots ob_spot ob_deadline ob_opens ob_closes ob_stays ob_apart ob_minute ob_soonest ob_sums), (ce_i10 y ob_spot fob_spot), (ce_i256 y ob_apart fob_apart), (ce_i10240 y ob_minute fob_minute), (ce_i1024 y ob_soonest fob_soonest)] sz)) 0 0 (va_A [(ce_X4 ob ob_planned ob_bestWorth ob_bestOver ob_length ob_order ob_owner ob_weekday ob_spots ob_spot ob_deadline ob_opens ob_closes ob_stays ob_apart ob_minute ob_soonest ob_sums), (ce_i10 y ob_spot fob_spot), (ce_i256 y ob_apart fob_apart), (ce_i10240 y ob_minute fob_minute), (ce_i1024 y ob_soonest fob_soonest)] sz) := by
  refine Met.ofW (cc := cX4_arrival) (maxL := 7) (ret := (some .int)) (by decide) rfl ?_
  intro p e s m args below meth c s₁ B hml hv
  obtain ⟨rfl, hsz, hP, hK, hD0⟩ := hv
  have hx := B.exec
  have hb := B.bytes
  have hr := B.returns
  have hw0 : ∀ w ∈ wAll, w.before _ s = true := fun w h => atoms_spec (ws := Cond.code yX4_arrival cX4_arrival 7 (some .int) :: wAll) B.pre w (List.mem_cons_of_mem _ h)
  have hown : s.vm.findClass RX4 = some m.cls := findClass_of_methodNamed B.named
  subst hsz
  have hD := hD0.self (sz := s.heap.size)
  generalize hAe : va_A [(ce_X4 ob ob_planned ob_bestWorth ob_bestOver ob_length ob_order ob_owner ob_weekday ob_spots ob_spot ob_deadline ob_opens ob_closes ob_stays ob_apart ob_minute ob_soonest ob_sums), (ce_i10 y ob_spot fob_spot), (ce_i256 y ob_apart fob_apart), (ce_i10240 y ob_minute fob_minute), (ce_i1024 y ob_soonest fob_soonest)] s.heap.size = A at hD ⊢
  have hA : ∀ q : Nat, s.heap.size ≤ q → A q := fun q h => by rw [← hAe]; exact Or.inr h
  have hS : va_S A s.heap s.heap [] := va_S.rf
  have hP : va_P G vwCl [(ce_X4 ob ob_planned ob_bestWorth ob_bestOver ob_length ob_order ob_owner ob_weekday ob_spots ob_spot ob_deadline ob_opens ob_closes ob_stays ob_apart ob_minute ob_soonest ob_sums), (ce_i10 y ob_spot fob_spot), (ce_i256 y ob_apart fob_apart), (ce_i10240 y ob_minute fob_minute), (ce_i1024 y ob_soonest fob_soonest)] s.heap := hP
  have hl := lv_entry ([.ref ob, .int a1, .int a2, .int a3]) (n := 7) (Nat.le_of_ble_eq_true rfl)
  rw [lg_entry_eq]
  generalize (lg_sl ([.ref ob, .int a1, .int a2, .int a3]) ++ List.replicate (7 - (lg_sl ([.ref ob, .int a1, .int a2, .int a3])).length) Slot.unset).toArray = ls at hl ⊢
  have hl : lv_has ls 7 [(0, .ref ob), (1, .int a1), (2, .int a2), (3, .int a3)] := hl
  refine lv_iload_n hx hb dX4_arrival_0 rfl (lv_at hl 2 rfl) ?_
  refine lv_if_ne (tgt := 16) hx hb dX4_arrival_1 (by decide) (fun c_1001 => ?_) (fun c_1001 => ?_)
  · skip
    have nc_1001 := nb_ne (1) (1023) c_1001 p_a2 (k := 0) (by decide) (by decide)
    refine lv_aload_n hx hb dX4_arrival_16 rfl (lv_at hl 0 rfl) ?_
    refine va_get (D := G) (ci := 4) (v := .ref ob_soonest) (C := RX4) (T := TX4) (N := 17) hx hb hw0 inA_wsX40 hown hK.1 hP 0 rfl rfl 15 (by decide) (hw0 _ m_822) (fun _ h9 => h9) rfl dX4_arrival_17 ?_
    refine lv_iload_n hx hb dX4_arrival_20 rfl (lv_at hl 2 rfl) ?_
    refine va_iald hx hb hK.1 hP 4 1 rfl rfl (vi nc_1001.1 (by decide)) dX4_arrival_21 ?_
    refine lv_topi (fun v_1002 ev_1002 => ?_)
    refine lv_sipush (v := 1000) hx hb dX4_arrival_22 (by decide) ?_
    refine lv_icmp_lt (tgt := 32) hx hb dX4_arrival_25 (by decide) (fun c_1003 => ?_) (fun c_1003 => ?_)
    · skip
      have nc_1003 := nb_lt (999) (1000) c_1003 (btop v_1002) (bkc (x := 1000) (c := 1000) (by decide)) (by decide)
      refine lv_sipush (v := 1000) hx hb dX4_arrival_32 (by decide) ?_
      refine lv_istore (lv' := [(4, .int 1000), (0, .ref ob), (1, .int a1), (2, .int a2), (3, .int a3)]) hx hb dX4_arrival_35 hl (by decide) rfl (fun ls hl => ?_)
      refine lv_iconst (v := 0) hx hb dX4_arrival_37 (by decide) ?_
      refine lv_istore (lv' := [(5, .int 0), (4, .int 1000), (0, .ref ob), (1, .int a1), (2, .int a2), (3, .int a3)]) hx hb dX4_arrival_38 hl (by decide) rfl (fun ls hl => ?_)
      refine loopX (fun n H locs ls st => ∃ (v_1217 : Int32) (v_1218 : Int32), (10 - v_1217.toInt).toNat = n ∧ ((0 : Int) ≤ v_1217.toInt ∧ v_1217.toInt ≤ 10) ∧ ((-2147483648 : Int) ≤ v_1218.toInt ∧ v_1218.toInt ≤ 1000) ∧ st = [] ∧ vPD G A H [(ce_X4 ob ob_planned ob_bestWorth ob_bestOver ob_length ob_order ob_owner ob_weekday ob_spots ob_spot ob_deadline ob_opens ob_closes ob_stays ob_apart ob_minute ob_soonest ob_sums), (ce_i10 y ob_spot fob_spot), (ce_i256 y ob_apart fob_apart), (ce_i10240 y ob_minute fob_minute), (ce_i1024 y ob_soonest fob_soonest)] ∧ va_S A s.heap H locs ∧ lv_has ls 7 [(5, .int v_1217), (4, .int v_1218), (0, .ref ob), (2, .int a2), (3, .int a3)]) ?_ (n := (10 - (0 : Int32).toInt).toNat) ⟨0, 1000, rfl, (bw (0) (10) (bkc (x := 0) (c := 0) (by decide)) (by decide)), (bw (-2147483648) (1000) (bkc (x := 1000) (c := 1000) (by decide)) (by decide)), rfl, ⟨hP, hD⟩, hS, lv_sub hl [0, 1, 2, 4, 5] rfl⟩
      rintro n ih_1243 H locs ls st ⟨v_1217, v_1218, hn_1243, bv_1217, bv_1218, rfl, ⟨hP, hD⟩, hS, hl⟩
      refine lv_iload hx hb dX4_arrival_40 (lv_at hl 0 rfl) ?_
      refine lv_aload_n hx hb dX4_arrival_42 rfl (lv_at hl 2 rfl) ?_
      refine va_get (D := G) (ci := 4) (v := .int ob_spots) (C := RX4) (T := TX4) (N := 17) hx hb hw0 inA_wsX40 hown hK.1 hP 0 rfl rfl 7 (by decide) (hw0 _ m_827) (fun _ h9 => h9) rfl dX4_arrival_43 ?_
      refine lv_icmp_ge (tgt := 106) hx hb dX4_arrival_46 (by decide) (fun c_1244 => ?_) (fun c_1244 => ?_)
      · skip
        have nc_1244 := nb_le (10) (0) c_1244 p_ob_spots bv_1217 (by decide)
        refine lv_iload hx hb dX4_arrival_106 (lv_at hl 1 rfl) ?_
        exact W.iret (v := v_1218) hx hb hr (fun t ht hW => ⟨⟨v_1218, _, rfl, ⟨v_1218, rfl, rfl⟩, by rw [ht]; exact hP, hD⟩, hS.F ht⟩) hS.2.2 dX4_arrival_108
      · skip
        have nc_1244 := nb_nle (9) (1) c_1244 bv_1217 p_ob_spots (by decide)
        refine lv_iload_n hx hb dX4_arrival_49 rfl (lv_at hl 3 rfl) ?_
        refine lv_iload hx hb dX4_arrival_50 (lv_at hl 0 rfl) ?_
        refine lv_ishr hx hb dX4_arrival_52 ?_
        refine lv_topi (fun v_1245 ev_1245 => ?_)
        have bv_1245 : (0 : Int) ≤ v_1245.toInt ∧ v_1245.toInt ≤ 1023 := ba_shr ev_1245 nc_1001.1 (by decide)
        refine lv_iconst (v := 1) hx hb dX4_arrival_53 (by decide) ?_
        refine lv_iand hx hb dX4_arrival_54 ?_
        refine lv_topi (fun v_1246 ev_1246 => ?_)
        have bv_1246 : (0 : Int) ≤ v_1246.toInt ∧ v_1246.toInt ≤ 1 := ba_andr ev_1246 (bkc (x := 1) (c := 1) (by decide)) (by decide)
        refine lv_iconst (v := 1) hx hb dX4_arrival_55 (by decide) ?_
        refine cutW 100 (fun H locs ls st => ∃ (v_1257 : Int32), ((-2147483648 : Int) ≤ v_1257.toInt ∧ v_1257.toInt ≤ 1000) ∧ st = [] ∧ vPD G A H [(ce_X4 ob ob_planned ob_bestWorth ob_bestOver ob_length ob_order ob_owner ob_weekday ob_spots ob_spot ob_deadline ob_opens ob_closes ob_stays ob_apart ob_minute ob_soonest ob_sums), (ce_i10 y ob_spot fob_spot), (ce_i256 y ob_apart fob_apart), (ce_i10240 y ob_minute fob_minute), (ce_i1024 y ob_soonest fob_soonest)] ∧ va_S A s.heap H locs ∧ lv_has ls 7 [(5, .int v_1217), (4, .int v_1257), (0, .ref ob), (2, .int a2), (3, .int a3)]) ?_ (fun J_100_1257 => ?_)
        · rintro H locs ls st ⟨v_1257, bv_1257, rfl, ⟨hP, hD⟩, hS, hl⟩
          obtain ⟨v_1258, ev_1258⟩ : ∃ z : Int32, z = v_1217 + 1 := ⟨_, rfl⟩
          have qv_1258 := ba_add ev_1258 nc_1244.1 (bkc (x := 1) (c := 1) (by decide)) (by decide)
          have bv_1258 : (1 : Int) ≤ v_1258.toInt ∧ v_1258.toInt ≤ 10 := bq_add qv_1258 nc_1244.1 (bkc (x := 1) (c := 1) (by decide)) _ _ (by decide)
          have qv_1258 : v_1258.toInt = v_1217.toInt + (1) := qv_1258
          refine lv_iinc (v := v_1258) (lv' := [(5, .int v_1258), (4, .int v_1257), (0, .ref ob), (2, .int a2), (3, .int a3)]) hx hb dX4_arrival_100 hl (k := 0) rfl (ev_1258.symm) (by decide) rfl (fun ls hl => ?_)
          refine lv_goto (tgt := 40) hx hb dX4_arrival_103 (by decide) ?_
          exact ih_1243 _ (ml_inc (hi := 10) hn_1243 qv_1258 (by decide) ((bw (0) (10) bv_1258 (by decide))).2) _ _ _ _ ⟨v_1258, v_1257, rfl, (bw (0) (10) bv_1258 (by decide)), bv_1257, rfl, ⟨hP, hD⟩, hS, lv_sub hl [0, 1, 2, 3, 4] rfl⟩
        · skip
          refine lv_icmp_ne (tgt := 100) hx hb dX4_arrival_56 (by decide) (fun c_1259 => ?_) (fun c_1259 => ?_)
          · skip
            have nc_1259 := nb_ne (0) (0) c_1259 bv_1246 (k := 1) (by decide) (by decide)
            exact J_100_1257 _ _ _ _ ⟨v_1218, bv_1218, rfl, ⟨hP, hD⟩, hS, lv_sub hl [0, 1, 2, 3, 4] rfl⟩
          · skip
            have nc_1259 := nb_eq (1) (1) c_1259 bv_1246 (bkc (x := 1) (c := 1) (by decide)) (by decide)
            refine lv_aload_n hx hb dX4_arrival_59 rfl (lv_at hl 2 rfl) ?_
            refine va_get (D := G) (ci := 4) (v := .ref ob_minute) (C := RX4) (T := TX4) (N := 17) hx hb hw0 inA_wsX40 hown hK.1 hP 0 rfl rfl 14 (by decide) (hw0 _ m_828) (fun _ h9 => h9) rfl dX4_arrival_60 ?_
            refine lv_iload_n hx hb dX4_arrival_63 rfl (lv_at hl 3 rfl) ?_
            refine lv_bipush (v := 10) hx hb dX4_arrival_64 (by decide) ?_
            refine lv_imul hx hb dX4_arrival_66 ?_
            refine lv_topi (fun v_1260 ev_1260 => ?_)
            have qv_1260 := ba_mul 10 ev_1260 nc_1001.1 (by decide) (by decide) (by decide)
            have bv_1260 : (10 : Int) ≤ v_1260.toInt ∧ v_1260.toInt ≤ 10230 := qv_1260.2
            refine lv_iload hx hb dX4_arrival_67 (lv_at hl 0 rfl) ?_
            refine lv_iadd hx hb dX4_arrival_69 ?_
            refine lv_topi (fun v_1261 ev_1261 => ?_)
            have qv_1261 := ba_add ev_1261 bv_1260 nc_1244.1 (by decide)
            have bv_1261 : (10 : Int) ≤ v_1261.toInt ∧ v_1261.toInt ≤ 10239 := bq_add qv_1261 bv_1260 nc_1244.1 _ _ (by decide)
            refine va_iald hx hb hK.1 hP 3 1 rfl rfl (vi bv_1261 (by decide)) dX4_arrival_70 ?_
            refine lv_topi (fun v_1262 ev_1262 => ?_)
            refine lv_aload_n hx hb dX4_arrival_71 rfl (lv_at hl 2 rfl) ?_
            refine va_get (D := G) (ci := 4) (v := .ref ob_apart) (C := RX4) (T := TX4) (N := 17) hx hb hw0 inA_wsX40 hown hK.1 hP 0 rfl rfl 13 (by decide) (hw0 _ m_826) (fun _ h9 => h9) rfl dX4_arrival_72 ?_
            refine lv_aload_n hx hb dX4_arrival_75 rfl (lv_at hl 2 rfl) ?_
            refine va_get (D := G) (ci := 4) (v := .ref ob_spot) (C := RX4) (T := TX4) (N := 17) hx hb hw0 inA_wsX40 hown hK.1 hP 0 rfl rfl 8 (by decide) (hw0 _ m_829) (fun _ h9 => h9) rfl dX4_arrival_76 ?_
            refine lv_iload hx hb dX4_arrival_79 (lv_at hl 0 rfl) ?_
            refine va_iald hx hb hK.1 hP 1 1 rfl rfl (vi nc_1244.1 (by decide)) dX4_arrival_81 ?_
            refine lv_topi (fun v_1263 ev_1263 => ?_)
            have bv_1263 : (0 : Int) ≤ v_1263.toInt ∧ v_1263.toInt ≤ 15 := rd_b ev_1263 p_fob_spot
            refine lv_bipush (v := 16) hx hb dX4_arrival_82 (by decide) ?_
            refine lv_imul hx hb dX4_arrival_84 ?_
            refine lv_topi (fun v_1264 ev_1264 => ?_)
            have qv_1264 := ba_mul 16 ev_1264 bv_1263 (by decide) (by decide) (by decide)
            have bv_1264 : (0 : Int) ≤ v_1264.toInt ∧ v_1264.toInt ≤ 240 := qv_1264.2
            refine lv_iload_n hx hb dX4_arrival_85 rfl (lv_at hl 4 rfl) ?_
            refine lv_iadd hx hb dX4_arrival_86 ?_
            refine lv_topi (fun v_1265 ev_1265 => ?_)
            have qv_1265 := ba_add ev_1265 bv_1264 p_a3 (by decide)
            have bv_1265 : (0 : Int) ≤ v_1265.toInt ∧ v_1265.toInt ≤ 255 := bq_add qv_1265 bv_1264 p_a3 _ _ (by decide)
            refine va_iald hx hb hK.1 hP 2 1 rfl rfl (vi bv_1265 (by decide)) dX4_arrival_87 ?_
            refine lv_topi (fun v_1266 ev_1266 => ?_)
            refine lv_iadd hx hb dX4_arrival_88 ?_
            refine lv_topi (fun v_1267 ev_1267 => ?_)
            refine lv_istore (lv' := [(6, .int v_1267), (5, .int v_1217), (4, .int v_1218), (0, .ref ob), (2, .int a2), (3, .int a3)]) hx hb dX4_arrival_89 hl (by decide) rfl (fun ls hl => ?_)
            refine lv_iload hx hb dX4_arrival_91 (lv_at hl 2 rfl) ?_
            refine lv_iload hx hb dX4_arrival_93 (lv_at hl 0 rfl) ?_
            refine va_mmin (own := RX4) hx hb (by rw [hml]; exact hl.1.symm) hown (hw0 _ m_824) (hw0 _ m_282) (hw0 _ m_283) (hw0 _ m_284) (Nat.le_of_ble_eq_true rfl) (Nat.le_of_ble_eq_true rfl) (Nat.zero_le _) (Nat.zero_le _) dX4_arrival_95 ?_
            refine lv_topi (fun v_1268 ev_1268 => ?_)
            have bv_1268 : (-2147483648 : Int) ≤ v_1268.toInt ∧ v_1268.toInt ≤ 1000 := bm_min ev_1268 bv_1218 (btop v_1267) _ _ (by decide)
            refine lv_istore (lv' := [(4, .int v_1268), (6, .int v_1267), (5, .int v_1217), (0, .ref ob), (2, .int a2), (3, .int a3)]) hx hb dX4_arrival_98 hl (by decide) rfl (fun ls hl => ?_)
            exact J_100_1257 _ _ _ _ ⟨v_1268, bv_1268, rfl, ⟨hP, hD⟩, hS, lv_sub hl [2, 0, 3, 4, 5] rfl⟩
    · skip
      have nc_1003 := nb_nlt (1000) (1000) c_1003 (bkc (x := 1000) (c := 1000) (by decide)) (btop v_1002) (by decide)
      refine lv_sipush (v := 1000) hx hb dX4_arrival_28 (by decide) ?_
      exact W.iret (v := 1000) hx hb hr (fun t ht hW => ⟨⟨1000, _, rfl, ⟨1000, rfl, rfl⟩, by rw [ht]; exact hP, hD⟩, hS.F ht⟩) hS.2.2 dX4_arrival_31
  · skip
    have nc_1001 := nb_eq (0) (0) c_1001 p_a2 (bkc (x := 0) (c := 0) (by decide)) (by decide)
    refine lv_aload_n hx hb dX4_arrival_4 rfl (lv_at hl 0 rfl) ?_
    refine va_get (D := G) (ci := 4) (v := .ref ob_apart) (C := RX4) (T := TX4) (N := 17) hx hb hw0 inA_wsX40 hown hK.1 hP 0 rfl rfl 13 (by decide) (hw0 _ m_826) (fun _ h9 => h9) rfl dX4_arrival_5 ?_
    refine lv_iload_n hx hb dX4_arrival_8 rfl (lv_at hl 1 rfl) ?_
    refine lv_bipush (v := 16) hx hb dX4_arrival_9 (by decide) ?_
    refine lv_imul hx hb dX4_arrival_11 ?_
    refine lv_topi (fun v_1269 ev_1269 => ?_)
    have qv_1269 := ba_mul 16 ev_1269 p_a1 (by decide) (by decide) (by decide)
    have bv_1269 : (0 : Int) ≤ v_1269.toInt ∧ v_1269.toInt ≤ 240 := qv_1269.2
    refine lv_iload_n hx hb dX4_arrival_12 rfl (lv_at hl 3 rfl) ?_
    refine lv_iadd hx hb dX4_arrival_13 ?_
    refine lv_topi (fun v_1270 ev_1270 => ?_)
    have qv_1270 := ba_add ev_1270 bv_1269 p_a3 (by decide)
    have bv_1270 : (0 : Int) ≤ v_1270.toInt ∧ v_1270.toInt ≤ 255 := bq_add qv_1270 bv_1269 p_a3 _ _ (by decide)
    refine va_iald hx hb hK.1 hP 2 1 rfl rfl (vi bv_1270 (by decide)) dX4_arrival_14 ?_
    refine lv_topi (fun v_1271 ev_1271 => ?_)
    exact W.iret (v := v_1271) hx hb hr (fun t ht hW => ⟨⟨v_1271, _, rfl, ⟨v_1271, rfl, rfl⟩, by rw [ht]; exact hP, hD⟩, hS.F ht⟩) hS.2.2 dX4_arrival_15

set_option maxHeartbeats 4000000 in
set_option maxRecDepth 100000 in
theorem sX4_reckonMinutes (l : Launch) (G : va_G) (y : Nat → ClassId) (sz : Nat) (ob : Nat) (a1 : Int32) (a2 : Int32) (ob_planned : Int32) (ob_bestWorth : Int32) (ob_bestOver : Int32) (ob_length : Int32) (ob_order : Nat) (ob_owner : Int32) (ob_weekday : Int32) (ob_spots : Int32) (ob_spot : Nat) (ob_deadline : Nat) (ob_opens : Nat) (ob_closes : Nat) (ob_stays : Nat) (ob_apart : Nat) (ob_minute : Nat) (ob_soonest : Nat) (ob_sums : Nat) (fob_spot : Nat → Int32) (fob_opens : Nat → Int32) (fob_closes : Nat → Int32) (fob_stays : Nat → Int32) (fob_apart : Nat → Int32) (fob_minute : Nat → Int32) (fob_soonest : Nat → Int32) (p_ob_planned : (0 : Int) ≤ ob_planned.toInt ∧ ob_planned.toInt ≤ 1) (p_ob_length : (0 : Int) ≤ ob_length.toInt ∧ ob_length.toInt ≤ 10) (p_ob_spots : (0 : Int) ≤ ob_spots.toInt ∧ ob_spots.toInt ≤ 10) (p_fob_spot : ∀ i, (0 : Int) ≤ (fob_spot i).toInt ∧ (fob_spot i).toInt ≤ 15) (p_a1 : (0 : Int) ≤ a1.toInt ∧ a1.toInt ≤ 15) : Met l yX4_reckonMinutes (Cond.code yX4_reckonMinutes cX4_reckonMinutes 8 none :: wAll) ({ frames := 2, cells := 0, slots := 0, locals := 47 }) (va_Pc [.ref ob, .int a1, .int a2] (kp G y sz [(ce_X4 ob ob_planned ob_bestWorth ob_bestOver ob_length ob_order ob_owner ob_weekday ob_spots ob_spot ob_deadline ob_opens ob_closes ob_stays ob_apart ob_minute ob_soonest ob_sums), (ce_i10 y ob_spot fob_spot), (ce_i16 y ob_opens fob_opens), (ce_i16 y ob_closes fob_closes), (ce_i16 y ob_stays fob_stays), (ce_i256 y ob_apart fob_apart), (ce_i10240 y ob_minute fob_minute), (ce_i1024 y ob_soonest fob_soonest)])) (va_Qv (fun (w : va_W) => (∃ (f_19527 : Nat → Int32) (f_19528 : Nat → Int32), w = [(ce_X4 ob ob_planned ob_bestWorth ob_bestOver ob_length ob_order ob_owner ob_weekday ob_spots ob_spot ob_deadline ob_opens ob_closes ob_stays ob_apart ob_minute ob_soonest ob_sums), (ce_i10 y ob_spot fob_spot), (ce_i16 y ob_opens fob_opens), (ce_i16 y ob_closes fob_closes), (ce_i16 y ob_stays fob_stays), (ce_i256 y ob_apart fob_apart), (ce_i10240 y ob_minute f_19527), (ce_i1024 y ob_soonest f_19528)])) (kq G (va_A [(ce_X4 ob ob_planned ob_bestWorth ob_bestOver ob_length ob_order ob_owner ob_weekday ob_spots ob_spot ob_deadline ob_opens ob_closes ob_stays ob_apart ob_minute ob_soonest ob_sums), (ce_i10 y ob_spot fob_spot), (ce_i16 y ob_opens fob_opens), (ce_i16 y ob_closes fob_closes), (ce_i16 y ob_stays fob_stays), (ce_i256 y ob_apart fob_apart), (ce_i10240 y ob_minute fob_minute), (ce_i1024 y ob_soonest fob_soonest)] sz)) (va_A [(ce_X4 ob ob_planned ob_bestWorth ob_bestOver ob_length ob_order ob_owner ob_weekday ob_spots ob_spot ob_deadline ob_opens ob_closes ob_stays ob_apart ob_minute ob_soonest ob_sums), (ce_i10 y ob_spot fob_spot), (ce_i16 y ob_opens fob_opens), (ce_i16 y ob_closes fob_closes), (ce_i16 y ob_stays fob_stays), (ce_i256 y ob_apart fob_apart), (ce_i10240 y ob_minute fob_minute), (ce_i1024 y ob_soonest fob_soonest)] sz)) 0 0 (va_A [(ce_X4 ob ob_planned ob_bestWorth ob_bestOver ob_length ob_order ob_owner ob_weekday ob_spots ob_spot ob_deadline ob_opens ob_closes ob_stays ob_apart ob_minute ob_soonest ob_sums), (ce_i10 y ob_spot fob_spot), (ce_i16 y ob_opens fob_opens), (ce_i16 y ob_closes fob_closes), (ce_i16 y ob_stays fob_stays), (ce_i256 y ob_apart fob_apart), (ce_i10240 y ob_minute fob_minute), (ce_i1024 y ob_soonest fob_soonest)] sz) := by
  refine Met.ofW (cc := cX4_reckonMinutes) (maxL := 8) (ret := none) (by decide) rfl ?_
  intro p e s m args below meth c s₁ B hml hv
  obtain ⟨rfl, hsz, hP, hK, hD0⟩ := hv
  have hx := B.exec
  have hb := B.bytes
  have hr := B.returns
  have hw0 : ∀ w ∈ wAll, w.before _ s = true := fun w h => atoms_spec (ws := Cond.code yX4_reckonMinutes cX4_reckonMinutes 8 none :: wAll) B.pre w (List.mem_cons_of_mem _ h)
  have hown : s.vm.findClass RX4 = some m.cls := findClass_of_methodNamed B.named
  subst hsz
  have hD := hD0.self (sz := s.heap.size)
  generalize hAe : va_A [(ce_X4 ob ob_planned ob_bestWorth ob_bestOver ob_length ob_order ob_owner ob_weekday ob_spots ob_spot ob_deadline ob_opens ob_closes ob_stays ob_apart ob_minute ob_soonest ob_sums), (ce_i10 y ob_spot fob_spot), (ce_i16 y ob_opens fob_opens), (ce_i16 y ob_closes fob_closes), (ce_i16 y ob_stays fob_stays), (ce_i256 y ob_apart fob_apart), (ce_i10240 y ob_minute fob_minute), (ce_i1024 y ob_soonest fob_soonest)] s.heap.size = A at hD ⊢
  have hA : ∀ q : Nat, s.heap.size ≤ q → A q := fun q h => by rw [← hAe]; exact Or.inr h
  have hS : va_S A s.heap s.heap [] := va_S.rf
  have hP : va_P G vwCl [(ce_X4 ob ob_planned ob_bestWorth ob_bestOver ob_length ob_order ob_owner ob_weekday ob_spots ob_spot ob_deadline ob_opens ob_closes ob_stays ob_apart ob_minute ob_soonest ob_sums), (ce_i10 y ob_spot fob_spot), (ce_i16 y ob_opens fob_opens), (ce_i16 y ob_closes fob_closes), (ce_i16 y ob_stays fob_stays), (ce_i256 y ob_apart fob_apart), (ce_i10240 y ob_minute fob_minute), (ce_i1024 y ob_soonest fob_soonest)] s.heap := hP
  have hl := lv_entry ([.ref ob, .int a1, .int a2]) (n := 8) (Nat.le_of_ble_eq_true rfl)
  rw [lg_entry_eq]
  generalize (lg_sl ([.ref ob, .int a1, .int a2]) ++ List.replicate (8 - (lg_sl ([.ref ob, .int a1, .int a2])).length) Slot.unset).toArray = ls at hl ⊢
  have hl : lv_has ls 8 [(0, .ref ob), (1, .int a1), (2, .int a2)] := hl
  refine lv_iconst (v := 1) hx hb dX4_reckonMinutes_0 (by decide) ?_
  refine lv_aload_n hx hb dX4_reckonMinutes_1 rfl (lv_at hl 0 rfl) ?_
  refine va_get (D := G) (ci := 4) (v := .int ob_spots) (C := RX4) (T := TX4) (N := 17) hx hb hw0 inA_wsX40 hown hK.1 hP 0 rfl rfl 7 (by decide) (hw0 _ m_827) (fun _ h9 => h9) rfl dX4_reckonMinutes_2 ?_
  refine lv_ishl hx hb dX4_reckonMinutes_5 ?_
  refine lv_topi (fun v_1001 ev_1001 => ?_)
  have bv_1001 : (1 : Int) ≤ v_1001.toInt ∧ v_1001.toInt ≤ 1024 := ba_shl 0 10 ev_1001 p_ob_spots (by decide)
  refine lv_istore_n (lv' := [(3, .int v_1001), (0, .ref ob), (1, .int a1), (2, .int a2)]) hx hb dX4_reckonMinutes_6 rfl hl (by decide) rfl (fun ls hl => ?_)
  refine lv_aload_n hx hb dX4_reckonMinutes_7 rfl (lv_at hl 1 rfl) ?_
  refine va_get (D := G) (ci := 4) (v := .ref ob_soonest) (C := RX4) (T := TX4) (N := 17) hx hb hw0 inA_wsX40 hown hK.1 hP 0 rfl rfl 15 (by decide) (hw0 _ m_822) (fun _ h9 => h9) rfl dX4_reckonMinutes_8 ?_
  refine lv_iconst (v := 0) hx hb dX4_reckonMinutes_11 (by decide) ?_
  refine lv_iconst (v := 0) hx hb dX4_reckonMinutes_12 (by decide) ?_
  refine va_iast hx hb hK.1 hP hD hS 7 1 rfl rfl (vi (bkc (x := 0) (c := 0) (by decide)) (by decide)) dX4_reckonMinutes_13 (fun H locs hP hD hS => ?_)
  generalize hf_1002 : (upd fob_soonest (0 : Int32).toNatClampNeg 0) = f_1002 at hP hD
  obtain ⟨hP, hD⟩ : vPD G A H [(ce_X4 ob ob_planned ob_bestWorth ob_bestOver ob_length ob_order ob_owner ob_weekday ob_spots ob_spot ob_deadline ob_opens ob_closes ob_stays ob_apart ob_minute ob_soonest ob_sums), (ce_i10 y ob_spot fob_spot), (ce_i16 y ob_opens fob_opens), (ce_i16 y ob_closes fob_closes), (ce_i16 y ob_stays fob_stays), (ce_i256 y ob_apart fob_apart), (ce_i10240 y ob_minute fob_minute), (ce_i1024 y ob_soonest f_1002)] := ⟨hP, hD⟩
  refine lv_iconst (v := 1) hx hb dX4_reckonMinutes_14 (by decide) ?_
  refine lv_istore (lv' := [(4, .int 1), (3, .int v_1001), (0, .ref ob), (1, .int a1), (2, .int a2)]) hx hb dX4_reckonMinutes_15 hl (by decide) rfl (fun ls hl => ?_)
  refine loopX (fun n H locs ls st => ∃ (v_9371 : Int32) (f_9372 : Nat → Int32) (f_9373 : Nat → Int32), (1024 - v_9371.toInt).toNat = n ∧ ((1 : Int) ≤ v_9371.toInt ∧ v_9371.toInt ≤ 1024) ∧ st = [] ∧ vPD G A H [(ce_X4 ob ob_planned ob_bestWorth ob_bestOver ob_length ob_order ob_owner ob_weekday ob_spots ob_spot ob_deadline ob_opens ob_closes ob_stays ob_apart ob_minute ob_soonest ob_sums), (ce_i10 y ob_spot fob_spot), (ce_i16 y ob_opens fob_opens), (ce_i16 y ob_closes fob_closes), (ce_i16 y ob_stays fob_stays), (ce_i256 y ob_apart fob_apart), (ce_i10240 y ob_minute f_9372), (ce_i1024 y ob_soonest f_9373)] ∧ va_S A s.heap H locs ∧ lv_has ls 8 [(4, .int v_9371), (3, .int v_1001), (0, .ref ob), (1, .int a1), (2, .int a2)]) ?_ (n := (1024 - (1 : Int32).toInt).toNat) ⟨1, fob_minute, f_1002, rfl, (bw (1) (1024) (bkc (x := 1) (c := 1) (by decide)) (by decide)), rfl, ⟨hP, hD⟩, hS, lv_sub hl [0, 1, 2, 3, 4] rfl⟩
  rintro n ih_10068 H locs ls st ⟨v_9371, f_9372, f_9373, hn_10068, bv_9371, rfl, ⟨hP, hD⟩, hS, hl⟩
  refine lv_iload hx hb dX4_reckonMinutes_17 (lv_at hl 0 rfl) ?_
  refine lv_iload_n hx hb dX4_reckonMinutes_19 rfl (lv_at hl 1 rfl) ?_
  refine lv_icmp_ge (tgt := 137) hx hb dX4_reckonMinutes_20 (by decide) (fun c_10069 => ?_) (fun c_10069 => ?_)
  · skip
    have nc_10069 := nb_le (1024) (1) c_10069 bv_1001 bv_9371 (by decide)
    exact W.vret hx hb hr (fun t ht hW => ⟨⟨_, rfl, ⟨f_9372, f_9373, rfl⟩, by rw [ht]; exact hP, hD⟩, hS.F ht⟩) hS.2.2 dX4_reckonMinutes_137
  · skip
    have nc_10069 := nb_nle (1023) (2) c_10069 bv_9371 bv_1001 (by decide)
    refine lv_sipush (v := 1000) hx hb dX4_reckonMinutes_23 (by decide) ?_
    refine lv_istore (lv' := [(5, .int 1000), (4, .int v_9371), (3, .int v_1001), (0, .ref ob), (1, .int a1), (2, .int a2)]) hx hb dX4_reckonMinutes_26 hl (by decide) rfl (fun ls hl => ?_)
    refine lv_iload hx hb dX4_reckonMinutes_28 (lv_at hl 1 rfl) ?_
    refine lv_iload_n hx hb dX4_reckonMinutes_30 rfl (lv_at hl 5 rfl) ?_
    refine lv_iconst (v := (-1)) hx hb dX4_reckonMinutes_31 (by decide) ?_
    refine lv_ixor hx hb dX4_reckonMinutes_32 ?_
    refine lv_topi (fun v_10070 ev_10070 => ?_)
    refine lv_iand hx hb dX4_reckonMinutes_33 ?_
    refine lv_topi (fun v_10071 ev_10071 => ?_)
    have bv_10071 : (0 : Int) ≤ v_10071.toInt ∧ v_10071.toInt ≤ 1023 := ba_andl ev_10071 nc_10069.1 (by decide)
    refine cutW 122 (fun H locs ls st => ∃ (v_10416 : Int32) (f_10417 : Nat → Int32), ((-2147483648 : Int) ≤ v_10416.toInt ∧ v_10416.toInt ≤ 1000) ∧ st = [] ∧ vPD G A H [(ce_X4 ob ob_planned ob_bestWorth ob_bestOver ob_length ob_order ob_owner ob_weekday ob_spots ob_spot ob_deadline ob_opens ob_closes ob_stays ob_apart ob_minute ob_soonest ob_sums), (ce_i10 y ob_spot fob_spot), (ce_i16 y ob_opens fob_opens), (ce_i16 y ob_closes fob_closes), (ce_i16 y ob_stays fob_stays), (ce_i256 y ob_apart fob_apart), (ce_i10240 y ob_minute f_10417), (ce_i1024 y ob_soonest f_9373)] ∧ va_S A s.heap H locs ∧ lv_has ls 8 [(5, .int v_10416), (4, .int v_9371), (3, .int v_1001), (0, .ref ob), (1, .int a1), (2, .int a2)]) ?_ (fun J_122_10417 => ?_)
    · rintro H locs ls st ⟨v_10416, f_10417, bv_10416, rfl, ⟨hP, hD⟩, hS, hl⟩
      refine lv_aload_n hx hb dX4_reckonMinutes_122 rfl (lv_at hl 3 rfl) ?_
      refine va_get (D := G) (ci := 4) (v := .ref ob_soonest) (C := RX4) (T := TX4) (N := 17) hx hb hw0 inA_wsX40 hown hK.1 hP 0 rfl rfl 15 (by decide) (hw0 _ m_822) (fun _ h9 => h9) rfl dX4_reckonMinutes_123 ?_
      refine lv_iload hx hb dX4_reckonMinutes_126 (lv_at hl 1 rfl) ?_
      refine lv_iload hx hb dX4_reckonMinutes_128 (lv_at hl 0 rfl) ?_
      refine va_iast hx hb hK.1 hP hD hS 7 1 rfl rfl (vi nc_10069.1 (by decide)) dX4_reckonMinutes_130 (fun H locs hP hD hS => ?_)
      generalize hf_10418 : (upd f_9373 (v_9371 : Int32).toNatClampNeg v_10416) = f_10418 at hP hD
      obtain ⟨hP, hD⟩ : vPD G A H [(ce_X4 ob ob_planned ob_bestWorth ob_bestOver ob_length ob_order ob_owner ob_weekday ob_spots ob_spot ob_deadline ob_opens ob_closes ob_stays ob_apart ob_minute ob_soonest ob_sums), (ce_i10 y ob_spot fob_spot), (ce_i16 y ob_opens fob_opens), (ce_i16 y ob_closes fob_closes), (ce_i16 y ob_stays fob_stays), (ce_i256 y ob_apart fob_apart), (ce_i10240 y ob_minute f_10417), (ce_i1024 y ob_soonest f_10418)] := ⟨hP, hD⟩
      obtain ⟨v_10419, ev_10419⟩ : ∃ z : Int32, z = v_9371 + 1 := ⟨_, rfl⟩
      have qv_10419 := ba_add ev_10419 nc_10069.1 (bkc (x := 1) (c := 1) (by decide)) (by decide)
      have bv_10419 : (2 : Int) ≤ v_10419.toInt ∧ v_10419.toInt ≤ 1024 := bq_add qv_10419 nc_10069.1 (bkc (x := 1) (c := 1) (by decide)) _ _ (by decide)
      have qv_10419 : v_10419.toInt = v_9371.toInt + (1) := qv_10419
      refine lv_iinc (v := v_10419) (lv' := [(4, .int v_10419), (5, .int v_10416), (3, .int v_1001), (0, .ref ob), (1, .int a1), (2, .int a2)]) hx hb dX4_reckonMinutes_131 hl (k := 1) rfl (ev_10419.symm) (by decide) rfl (fun ls hl => ?_)
      refine lv_goto (tgt := 17) hx hb dX4_reckonMinutes_134 (by decide) ?_
      exact ih_10068 _ (ml_inc (hi := 1024) hn_10068 qv_10419 (by decide) ((bw (1) (1024) bv_10419 (by decide))).2) _ _ _ _ ⟨v_10419, f_10417, f_10418, rfl, (bw (1) (1024) bv_10419 (by decide)), rfl, ⟨hP, hD⟩, hS, lv_sub hl [0, 2, 3, 4, 5] rfl⟩
    · skip
      refine lv_if_ne (tgt := 122) hx hb dX4_reckonMinutes_34 (by decide) (fun c_10420 => ?_) (fun c_10420 => ?_)
      · skip
        have nc_10420 := nb_ne (1) (1023) c_10420 bv_10071 (k := 0) (by decide) (by decide)
        exact J_122_10417 _ _ _ _ ⟨1000, f_9372, (bw (-2147483648) (1000) (bkc (x := 1000) (c := 1000) (by decide)) (by decide)), rfl, ⟨hP, hD⟩, hS, lv_sub hl [0, 1, 2, 3, 4, 5] rfl⟩
      · skip
        have nc_10420 := nb_eq (0) (0) c_10420 bv_10071 (bkc (x := 0) (c := 0) (by decide)) (by decide)
        refine lv_iconst (v := 0) hx hb dX4_reckonMinutes_37 (by decide) ?_
        refine lv_istore (lv' := [(6, .int 0), (5, .int 1000), (4, .int v_9371), (3, .int v_1001), (0, .ref ob), (1, .int a1), (2, .int a2)]) hx hb dX4_reckonMinutes_38 hl (by decide) rfl (fun ls hl => ?_)
        refine loopX (fun n H locs ls st => ∃ (v_10697 : Int32) (v_10698 : Int32) (f_10699 : Nat → Int32), (10 - v_10697.toInt).toNat = n ∧ ((0 : Int) ≤ v_10697.toInt ∧ v_10697.toInt ≤ 10) ∧ ((-2147483648 : Int) ≤ v_10698.toInt ∧ v_10698.toInt ≤ 1000) ∧ st = [] ∧ vPD G A H [(ce_X4 ob ob_planned ob_bestWorth ob_bestOver ob_length ob_order ob_owner ob_weekday ob_spots ob_spot ob_deadline ob_opens ob_closes ob_stays ob_apart ob_minute ob_soonest ob_sums), (ce_i10 y ob_spot fob_spot), (ce_i16 y ob_opens fob_opens), (ce_i16 y ob_closes fob_closes), (ce_i16 y ob_stays fob_stays), (ce_i256 y ob_apart fob_apart), (ce_i10240 y ob_minute f_10699), (ce_i1024 y ob_soonest f_9373)] ∧ va_S A s.heap H locs ∧ lv_has ls 8 [(6, .int v_10697), (5, .int v_10698), (4, .int v_9371), (3, .int v_1001), (0, .ref ob), (1, .int a1), (2, .int a2)]) ?_ (n := (10 - (0 : Int32).toInt).toNat) ⟨0, 1000, f_9372, rfl, (bw (0) (10) (bkc (x := 0) (c := 0) (by decide)) (by decide)), (bw (-2147483648) (1000) (bkc (x := 1000) (c := 1000) (by decide)) (by decide)), rfl, ⟨hP, hD⟩, hS, lv_sub hl [0, 1, 2, 3, 4, 5, 6] rfl⟩
        rintro n ih_10731 H locs ls st ⟨v_10697, v_10698, f_10699, hn_10731, bv_10697, bv_10698, rfl, ⟨hP, hD⟩, hS, hl⟩
        refine lv_iload hx hb dX4_reckonMinutes_40 (lv_at hl 0 rfl) ?_
        refine lv_aload_n hx hb dX4_reckonMinutes_42 rfl (lv_at hl 4 rfl) ?_
        refine va_get (D := G) (ci := 4) (v := .int ob_spots) (C := RX4) (T := TX4) (N := 17) hx hb hw0 inA_wsX40 hown hK.1 hP 0 rfl rfl 7 (by decide) (hw0 _ m_827) (fun _ h9 => h9) rfl dX4_reckonMinutes_43 ?_
        refine lv_icmp_ge (tgt := 122) hx hb dX4_reckonMinutes_46 (by decide) (fun c_10732 => ?_) (fun c_10732 => ?_)
        · skip
          have nc_10732 := nb_le (10) (0) c_10732 p_ob_spots bv_10697 (by decide)
          exact J_122_10417 _ _ _ _ ⟨v_10698, f_10699, bv_10698, rfl, ⟨hP, hD⟩, hS, lv_sub hl [1, 2, 3, 4, 5, 6] rfl⟩
        · skip
          have nc_10732 := nb_nle (9) (1) c_10732 bv_10697 p_ob_spots (by decide)
          refine lv_iload hx hb dX4_reckonMinutes_49 (lv_at hl 2 rfl) ?_
          refine lv_iload hx hb dX4_reckonMinutes_51 (lv_at hl 0 rfl) ?_
          refine lv_ishr hx hb dX4_reckonMinutes_53 ?_
          refine lv_topi (fun v_10733 ev_10733 => ?_)
          have bv_10733 : (0 : Int) ≤ v_10733.toInt ∧ v_10733.toInt ≤ 1023 := ba_shr ev_10733 nc_10069.1 (by decide)
          refine lv_iconst (v := 1) hx hb dX4_reckonMinutes_54 (by decide) ?_
          refine lv_iand hx hb dX4_reckonMinutes_55 ?_
          refine lv_topi (fun v_10734 ev_10734 => ?_)
          have bv_10734 : (0 : Int) ≤ v_10734.toInt ∧ v_10734.toInt ≤ 1 := ba_andr ev_10734 (bkc (x := 1) (c := 1) (by decide)) (by decide)
          refine lv_iconst (v := 1) hx hb dX4_reckonMinutes_56 (by decide) ?_
          refine cutW 116 (fun H locs ls st => ∃ (v_10748 : Int32) (f_10749 : Nat → Int32), ((-2147483648 : Int) ≤ v_10748.toInt ∧ v_10748.toInt ≤ 1000) ∧ st = [] ∧ vPD G A H [(ce_X4 ob ob_planned ob_bestWorth ob_bestOver ob_length ob_order ob_owner ob_weekday ob_spots ob_spot ob_deadline ob_opens ob_closes ob_stays ob_apart ob_minute ob_soonest ob_sums), (ce_i10 y ob_spot fob_spot), (ce_i16 y ob_opens fob_opens), (ce_i16 y ob_closes fob_closes), (ce_i16 y ob_stays fob_stays), (ce_i256 y ob_apart fob_apart), (ce_i10240 y ob_minute f_10749), (ce_i1024 y ob_soonest f_9373)] ∧ va_S A s.heap H locs ∧ lv_has ls 8 [(6, .int v_10697), (5, .int v_10748), (4, .int v_9371), (3, .int v_1001), (0, .ref ob), (1, .int a1), (2, .int a2)]) ?_ (fun J_116_10749 => ?_)
          · rintro H locs ls st ⟨v_10748, f_10749, bv_10748, rfl, ⟨hP, hD⟩, hS, hl⟩
            obtain ⟨v_10750, ev_10750⟩ : ∃ z : Int32, z = v_10697 + 1 := ⟨_, rfl⟩
            have qv_10750 := ba_add ev_10750 nc_10732.1 (bkc (x := 1) (c := 1) (by decide)) (by decide)
            have bv_10750 : (1 : Int) ≤ v_10750.toInt ∧ v_10750.toInt ≤ 10 := bq_add qv_10750 nc_10732.1 (bkc (x := 1) (c := 1) (by decide)) _ _ (by decide)
            have qv_10750 : v_10750.toInt = v_10697.toInt + (1) := qv_10750
            refine lv_iinc (v := v_10750) (lv' := [(6, .int v_10750), (5, .int v_10748), (4, .int v_9371), (3, .int v_1001), (0, .ref ob), (1, .int a1), (2, .int a2)]) hx hb dX4_reckonMinutes_116 hl (k := 0) rfl (ev_10750.symm) (by decide) rfl (fun ls hl => ?_)
            refine lv_goto (tgt := 40) hx hb dX4_reckonMinutes_119 (by decide) ?_
            exact ih_10731 _ (ml_inc (hi := 10) hn_10731 qv_10750 (by decide) ((bw (0) (10) bv_10750 (by decide))).2) _ _ _ _ ⟨v_10750, v_10748, f_10749, rfl, (bw (0) (10) bv_10750 (by decide)), bv_10748, rfl, ⟨hP, hD⟩, hS, lv_sub hl [0, 1, 2, 3, 4, 5, 6] rfl⟩
          · skip
            refine lv_icmp_ne (tgt := 116) hx hb dX4_reckonMinutes_57 (by decide) (fun c_10751 => ?_) (fun c_10751 => ?_)
            · skip
              have nc_10751 := nb_ne (0) (0) c_10751 bv_10734 (k := 1) (by decide) (by decide)
              exact J_116_10749 _ _ _ _ ⟨v_10698, f_10699, bv_10698, rfl, ⟨hP, hD⟩, hS, lv_sub hl [0, 1, 2, 3, 4, 5, 6] rfl⟩
            · skip
              have nc_10751 := nb_eq (1) (1) c_10751 bv_10734 (bkc (x := 1) (c := 1) (by decide)) (by decide)
              refine lv_aload_n hx hb dX4_reckonMinutes_60 rfl (lv_at hl 4 rfl) ?_
              refine lv_aload_n hx hb dX4_reckonMinutes_61 rfl (lv_at hl 4 rfl) ?_
              refine va_get (D := G) (ci := 4) (v := .ref ob_spot) (C := RX4) (T := TX4) (N := 17) hx hb hw0 inA_wsX40 hown hK.1 hP 0 rfl rfl 8 (by decide) (hw0 _ m_829) (fun _ h9 => h9) rfl dX4_reckonMinutes_62 ?_
              refine lv_iload hx hb dX4_reckonMinutes_65 (lv_at hl 0 rfl) ?_
              refine va_iald hx hb hK.1 hP 1 1 rfl rfl (vi nc_10732.1 (by decide)) dX4_reckonMinutes_67 ?_
              refine lv_topi (fun v_10752 ev_10752 => ?_)
              have bv_10752 : (0 : Int) ≤ v_10752.toInt ∧ v_10752.toInt ≤ 15 := rd_b ev_10752 p_fob_spot
              refine lv_aload_n hx hb dX4_reckonMinutes_68 rfl (lv_at hl 4 rfl) ?_
              refine lv_iload_n hx hb dX4_reckonMinutes_69 rfl (lv_at hl 5 rfl) ?_
              refine lv_iload hx hb dX4_reckonMinutes_70 (lv_at hl 2 rfl) ?_
              refine lv_iconst (v := 1) hx hb dX4_reckonMinutes_72 (by decide) ?_
              refine lv_iload hx hb dX4_reckonMinutes_73 (lv_at hl 0 rfl) ?_
              refine lv_ishl hx hb dX4_reckonMinutes_75 ?_
              refine lv_topi (fun v_10753 ev_10753 => ?_)
              have bv_10753 : (1 : Int) ≤ v_10753.toInt ∧ v_10753.toInt ≤ 512 := ba_shl 0 9 ev_10753 nc_10732.1 (by decide)
              refine lv_ixor hx hb dX4_reckonMinutes_76 ?_
              refine lv_topi (fun v_10754 ev_10754 => ?_)
              have bv_10754 : (0 : Int) ≤ v_10754.toInt ∧ v_10754.toInt ≤ 1023 := ba_xor 10 ev_10754 nc_10069.1 bv_10753 (by decide)
              refine lv_aload_n hx hb dX4_reckonMinutes_77 rfl (lv_at hl 4 rfl) ?_
              refine va_get (D := G) (ci := 4) (v := .ref ob_spot) (C := RX4) (T := TX4) (N := 17) hx hb hw0 inA_wsX40 hown hK.1 hP 0 rfl rfl 8 (by decide) (hw0 _ m_829) (fun _ h9 => h9) rfl dX4_reckonMinutes_78 ?_
              refine lv_iload hx hb dX4_reckonMinutes_81 (lv_at hl 0 rfl) ?_
              refine va_iald hx hb hK.1 hP 1 1 rfl rfl (vi nc_10732.1 (by decide)) dX4_reckonMinutes_83 ?_
              refine lv_topi (fun v_10755 ev_10755 => ?_)
              obtain rfl : v_10752 = v_10755 := (ev_10755.trans (ev_10752.symm)).symm
              refine cVim (As := [.int a1, .int v_10754, .int v_10752]) (rest := [.int v_10752, .ref ob]) ⟨hx, hb, hml, hown, hw0⟩ hA hK hP hD hS [true, true, false, false, false, true, true, true] (sX4_arrival l G y _ ob a1 v_10754 v_10752 ob_planned ob_bestWorth ob_bestOver ob_length ob_order ob_owner ob_weekday ob_spots ob_spot ob_deadline ob_opens ob_closes ob_stays ob_apart ob_minute ob_soonest ob_sums fob_spot fob_apart f_10699 f_9373 p_ob_planned p_ob_length (bw (0) (10) nc_10732.2.1 (by decide)) p_fob_spot p_a1 bv_10754 bv_10752) rfl ⟨(callB_of 3 hw0 (gA m_825) rfl rfl rfl (hw0 _ m_839) (hw0 _ m_934) cb_X4_arrival ⟨Nat.le_of_ble_eq_true rfl, Nat.le_of_ble_eq_true rfl⟩), (hw0 _ m_935), (hw0 _ m_936)⟩ (ci := 4) (q := (RX4, TX4, 17)) rfl rfl rfl hl.1 (Nat.le_of_ble_eq_true rfl) dX4_reckonMinutes_84 ⟨Nat.le_of_ble_eq_true rfl, Nat.le_of_ble_eq_true rfl⟩ (fun r_10756 w_10756 H locs hw_10756 hP hD hS => ?_)
              obtain ⟨v_10757, er_10756, rfl⟩ := hw_10756
              subst r_10756
              obtain ⟨hP, hD⟩ : vPD G A H [(ce_X4 ob ob_planned ob_bestWorth ob_bestOver ob_length ob_order ob_owner ob_weekday ob_spots ob_spot ob_deadline ob_opens ob_closes ob_stays ob_apart ob_minute ob_soonest ob_sums), (ce_i10 y ob_spot fob_spot), (ce_i16 y ob_opens fob_opens), (ce_i16 y ob_closes fob_closes), (ce_i16 y ob_stays fob_stays), (ce_i256 y ob_apart fob_apart), (ce_i10240 y ob_minute f_10699), (ce_i1024 y ob_soonest f_9373)] := ⟨hP, hD⟩
              refine cVim (As := [.int v_10752, .int v_10757]) (rest := []) ⟨hx, hb, hml, hown, hw0⟩ hA hK hP hD hS [true, false, true, true, true] (sX4_seen l G y _ ob v_10752 v_10757 ob_planned ob_bestWorth ob_bestOver ob_length ob_order ob_owner ob_weekday ob_spots ob_spot ob_deadline ob_opens ob_closes ob_stays ob_apart ob_minute ob_soonest ob_sums fob_opens fob_closes fob_stays p_ob_planned p_ob_length (bw (0) (10) nc_10732.2.1 (by decide)) bv_10752) rfl ⟨(callB_of 2 hw0 (gA m_937) rfl rfl rfl (hw0 _ m_839) (hw0 _ m_849) cb_X4_seen ⟨Nat.le_of_ble_eq_true rfl, Nat.le_of_ble_eq_true rfl⟩), (hw0 _ m_850), (hw0 _ m_851)⟩ (ci := 4) (q := (RX4, TX4, 17)) rfl rfl rfl hl.1 (Nat.le_of_ble_eq_true rfl) dX4_reckonMinutes_87 ⟨Nat.le_of_ble_eq_true rfl, Nat.le_of_ble_eq_true rfl⟩ (fun r_10758 w_10758 H locs hw_10758 hP hD hS => ?_)
              obtain ⟨v_10759, er_10758, rfl⟩ := hw_10758
              subst r_10758
              obtain ⟨hP, hD⟩ : vPD G A H [(ce_X4 ob ob_planned ob_bestWorth ob_bestOver ob_length ob_order ob_owner ob_weekday ob_spots ob_spot ob_deadline ob_opens ob_closes ob_stays ob_apart ob_minute ob_soonest ob_sums), (ce_i10 y ob_spot fob_spot), (ce_i16 y ob_opens fob_opens), (ce_i16 y ob_closes fob_closes), (ce_i16 y ob_stays fob_stays), (ce_i256 y ob_apart fob_apart), (ce_i10240 y ob_minute f_10699), (ce_i1024 y ob_soonest f_9373)] := ⟨hP, hD⟩
              refine lv_istore (lv' := [(7, .int v_10759), (6, .int v_10697), (5, .int v_10698), (4, .int v_9371), (3, .int v_1001), (0, .ref ob), (1, .int a1), (2, .int a2)]) hx hb dX4_reckonMinutes_90 hl (by decide) rfl (fun ls hl => ?_)
              refine lv_aload_n hx hb dX4_reckonMinutes_92 rfl (lv_at hl 5 rfl) ?_
              refine va_get (D := G) (ci := 4) (v := .ref ob_minute) (C := RX4) (T := TX4) (N := 17) hx hb hw0 inA_wsX40 hown hK.1 hP 0 rfl rfl 14 (by decide) (hw0 _ m_828) (fun _ h9 => h9) rfl dX4_reckonMinutes_93 ?_
              refine lv_iload hx hb dX4_reckonMinutes_96 (lv_at hl 3 rfl) ?_
              refine lv_bipush (v := 10) hx hb dX4_reckonMinutes_98 (by decide) ?_
              refine lv_imul hx hb dX4_reckonMinutes_100 ?_
              refine lv_topi (fun v_10760 ev_10760 => ?_)
              have qv_10760 := ba_mul 10 ev_10760 nc_10069.1 (by decide) (by decide) (by decide)
              have bv_10760 : (10 : Int) ≤ v_10760.toInt ∧ v_10760.toInt ≤ 10230 := qv_10760.2
              refine lv_iload hx hb dX4_reckonMinutes_101 (lv_at hl 1 rfl) ?_
              refine lv_iadd hx hb dX4_reckonMinutes_103 ?_
              refine lv_topi (fun v_10761 ev_10761 => ?_)
              have qv_10761 := ba_add ev_10761 bv_10760 nc_10732.1 (by decide)
              have bv_10761 : (10 : Int) ≤ v_10761.toInt ∧ v_10761.toInt ≤ 10239 := bq_add qv_10761 bv_10760 nc_10732.1 _ _ (by decide)
              refine lv_iload hx hb dX4_reckonMinutes_104 (lv_at hl 0 rfl) ?_
              refine va_iast hx hb hK.1 hP hD hS 6 1 rfl rfl (vi bv_10761 (by decide)) dX4_reckonMinutes_106 (fun H locs hP hD hS => ?_)
              generalize hf_10762 : (upd f_10699 (v_10761 : Int32).toNatClampNeg v_10759) = f_10762 at hP hD
              obtain ⟨hP, hD⟩ : vPD G A H [(ce_X4 ob ob_planned ob_bestWorth ob_bestOver ob_length ob_order ob_owner ob_weekday ob_spots ob_spot ob_deadline ob_opens ob_closes ob_stays ob_apart ob_minute ob_soonest ob_sums), (ce_i10 y ob_spot fob_spot), (ce_i16 y ob_opens fob_opens), (ce_i16 y ob_closes fob_closes), (ce_i16 y ob_stays fob_stays), (ce_i256 y ob_apart fob_apart), (ce_i10240 y ob_minute f_10762), (ce_i1024 y ob_soonest f_9373)] := ⟨hP, hD⟩
              refine lv_iload hx hb dX4_reckonMinutes_107 (lv_at hl 2 rfl) ?_
              refine lv_iload hx hb dX4_reckonMinutes_109 (lv_at hl 0 rfl) ?_
              refine va_mmin (own := RX4) hx hb (by rw [hml]; exact hl.1.symm) hown (hw0 _ m_824) (hw0 _ m_282) (hw0 _ m_283) (hw0 _ m_284) (Nat.le_of_ble_eq_true rfl) (Nat.le_of_ble_eq_true rfl) (Nat.zero_le _) (Nat.zero_le _) dX4_reckonMinutes_111 ?_
              refine lv_topi (fun v_10763 ev_10763 => ?_)
              have bv_10763 : (-2147483648 : Int) ≤ v_10763.toInt ∧ v_10763.toInt ≤ 1000 := bm_min ev_10763 bv_10698 (btop v_10759) _ _ (by decide)
              refine lv_istore (lv' := [(5, .int v_10763), (7, .int v_10759), (6, .int v_10697), (4, .int v_9371), (3, .int v_1001), (0, .ref ob), (1, .int a1), (2, .int a2)]) hx hb dX4_reckonMinutes_114 hl (by decide) rfl (fun ls hl => ?_)
              exact J_116_10749 _ _ _ _ ⟨v_10763, f_10762, bv_10763, rfl, ⟨hP, hD⟩, hS, lv_sub hl [2, 0, 3, 4, 5, 6, 7] rfl⟩

set_option maxHeartbeats 4000000 in
set_option maxRecDepth 100000 in
theorem sX4_worthOf (l : Launch) (G : va_G) (y : Nat → ClassId) (sz : Nat) (a1 : Int32)  : Met l yX4_worthOf (Cond.code yX4_worthOf cX4_worthOf 3 (some .int) :: wAll) ({ frames := 0, cells := 0, slots := 0, locals := 0 }) (va_Pc [.int a1] (kp G y sz [])) (va_Qi (fun (r : Int32) (w : va_W) => (∃ (v_245 : Int32), r = v_245 ∧ w = [])) (kq G (va_A [] sz)) (va_A [] sz)) 0 0 (va_A [] sz) := by
  refine Met.ofW (cc := cX4_worthOf) (maxL := 3) (ret := (some .int)) (by decide) rfl ?_
  intro p e s m args below meth c s₁ B hml hv
  obtain ⟨rfl, hsz, hP, hK, hD0⟩ := hv
  have hx := B.exec
  have hb := B.bytes
  have hr := B.returns
  have hw0 : ∀ w ∈ wAll, w.before _ s = true := fun w h => atoms_spec (ws := Cond.code yX4_worthOf cX4_worthOf 3 (some .int) :: wAll) B.pre w (List.mem_cons_of_mem _ h)
  have hown : s.vm.findClass RX4 = some m.cls := findClass_of_methodNamed B.named
  subst hsz
  have hD := hD0.self (sz := s.heap.size)
  generalize hAe : va_A [] s.heap.size = A at hD ⊢
  have hA : ∀ q : Nat, s.heap.size ≤ q → A q := fun q h => by rw [← hAe]; exact Or.inr h
  have hS : va_S A s.heap s.heap [] := va_S.rf
  have hP : va_P G vwCl [] s.heap := hP
  have hl := lv_entry ([.int a1]) (n := 3) (Nat.le_of_ble_eq_true rfl)
  rw [lg_entry_eq]
  generalize (lg_sl ([.int a1]) ++ List.replicate (3 - (lg_sl ([.int a1])).length) Slot.unset).toArray = ls at hl ⊢
  have hl : lv_has ls 3 [(0, .int a1)] := hl
  refine lv_iconst (v := 0) hx hb dX4_worthOf_0 (by decide) ?_
  refine lv_istore_n (lv' := [(1, .int 0), (0, .int a1)]) hx hb dX4_worthOf_1 rfl hl (by decide) rfl (fun ls hl => ?_)
  refine lv_iconst (v := 0) hx hb dX4_worthOf_2 (by decide) ?_
  refine lv_istore_n (lv' := [(2, .int 0), (1, .int 0), (0, .int a1)]) hx hb dX4_worthOf_3 rfl hl (by decide) rfl (fun ls hl => ?_)
  refine loopX (fun n H locs ls st => ∃ (v_1099 : Int32) (v_1100 : Int32), (4 - v_1099.toInt).toNat = n ∧ ((0 : Int) ≤ v_1099.toInt ∧ v_1099.toInt ≤ 4) ∧ st = [] ∧ vPD G A H [] ∧ va_S A s.heap H locs ∧ lv_has ls 3 [(2, .int v_1099), (1, .int v_1100), (0, .int a1)]) ?_ (n := (4 - (0 : Int32).toInt).toNat) ⟨0, 0, rfl, (bw (0) (4) (bkc (x := 0) (c := 0) (by decide)) (by decide)), rfl, ⟨hP, hD⟩, hS, lv_sub hl [0, 1, 2] rfl⟩
  rintro n ih_1111 H locs ls st ⟨v_1099, v_1100, hn_1111, bv_1099, rfl, ⟨hP, hD⟩, hS, hl⟩
  refine lv_iload_n hx hb dX4_worthOf_4 rfl (lv_at hl 0 rfl) ?_
  refine lv_iconst (v := 4) hx hb dX4_worthOf_5 (by decide) ?_
  refine lv_icmp_ge (tgt := 30) hx hb dX4_worthOf_6 (by decide) (fun c_1112 => ?_) (fun c_1112 => ?_)
  · skip
    have nc_1112 := nb_le (4) (4) c_1112 (bkc (x := 4) (c := 4) (by decide)) bv_1099 (by decide)
    refine lv_iload_n hx hb dX4_worthOf_30 rfl (lv_at hl 1 rfl) ?_
    exact W.iret (v := v_1100) hx hb hr (fun t ht hW => ⟨⟨v_1100, _, rfl, ⟨v_1100, rfl, rfl⟩, by rw [ht]; exact hP, hD⟩, hS.F ht⟩) hS.2.2 dX4_worthOf_31
  · skip
    have nc_1112 := nb_nle (3) (4) c_1112 bv_1099 (bkc (x := 4) (c := 4) (by decide)) (by decide)
    refine lv_iload_n hx hb dX4_worthOf_9 rfl (lv_at hl 2 rfl) ?_
    refine lv_iload_n hx hb dX4_worthOf_10 rfl (lv_at hl 0 rfl) ?_
    refine lv_ishr hx hb dX4_worthOf_11 ?_
    refine lv_topi (fun v_1113 ev_1113 => ?_)
    refine lv_iconst (v := 1) hx hb dX4_worthOf_12 (by decide) ?_
    refine lv_iand hx hb dX4_worthOf_13 ?_
    refine lv_topi (fun v_1114 ev_1114 => ?_)
    have bv_1114 : (0 : Int) ≤ v_1114.toInt ∧ v_1114.toInt ≤ 1 := ba_andr ev_1114 (bkc (x := 1) (c := 1) (by decide)) (by decide)
    refine lv_iconst (v := 1) hx hb dX4_worthOf_14 (by decide) ?_
    refine cutW 24 (fun H locs ls st => ∃ (v_1118 : Int32), st = [] ∧ vPD G A H [] ∧ va_S A s.heap H locs ∧ lv_has ls 3 [(2, .int v_1099), (1, .int v_1118), (0, .int a1)]) ?_ (fun J_24_1118 => ?_)
    · rintro H locs ls st ⟨v_1118, rfl, ⟨hP, hD⟩, hS, hl⟩
      obtain ⟨v_1119, ev_1119⟩ : ∃ z : Int32, z = v_1099 + 1 := ⟨_, rfl⟩
      have qv_1119 := ba_add ev_1119 nc_1112.1 (bkc (x := 1) (c := 1) (by decide)) (by decide)
      have bv_1119 : (1 : Int) ≤ v_1119.toInt ∧ v_1119.toInt ≤ 4 := bq_add qv_1119 nc_1112.1 (bkc (x := 1) (c := 1) (by decide)) _ _ (by decide)
      have qv_1119 : v_1119.toInt = v_1099.toInt + (1) := qv_1119
      refine lv_iinc (v := v_1119) (lv' := [(2, .int v_1119), (1, .int v_1118), (0, .int a1)]) hx hb dX4_worthOf_24 hl (k := 0) rfl (ev_1119.symm) (by decide) rfl (fun ls hl => ?_)
      refine lv_goto (tgt := 4) hx hb dX4_worthOf_27 (by decide) ?_
      exact ih_1111 _ (ml_inc (hi := 4) hn_1111 qv_1119 (by decide) ((bw (0) (4) bv_1119 (by decide))).2) _ _ _ _ ⟨v_1119, v_1118, rfl, (bw (0) (4) bv_1119 (by decide)), rfl, ⟨hP, hD⟩, hS, lv_sub hl [0, 1, 2] rfl⟩
    · skip
      refine lv_icmp_ne (tgt := 24) hx hb dX4_worthOf_15 (by decide) (fun c_1120 => ?_) (fun c_1120 => ?_)
      · skip
        have nc_1120 := nb_ne (0) (0) c_1120 bv_1114 (k := 1) (by decide) (by decide)
        exact J_24_1118 _ _ _ _ ⟨v_1100, rfl, ⟨hP, hD⟩, hS, lv_sub hl [0, 1, 2] rfl⟩
      · skip
        have nc_1120 := nb_eq (1) (1) c_1120 bv_1114 (bkc (x := 1) (c := 1) (by decide)) (by decide)
        refine lv_iload_n hx hb dX4_worthOf_18 rfl (lv_at hl 1 rfl) ?_
        refine lv_iload_n hx hb dX4_worthOf_19 rfl (lv_at hl 0 rfl) ?_
        refine lv_iconst (v := 1) hx hb dX4_worthOf_20 (by decide) ?_
        refine lv_iadd hx hb dX4_worthOf_21 ?_
        refine lv_topi (fun v_1121 ev_1121 => ?_)
        have qv_1121 := ba_add ev_1121 nc_1112.1 (bkc (x := 1) (c := 1) (by decide)) (by decide)
        have bv_1121 : (1 : Int) ≤ v_1121.toInt ∧ v_1121.toInt ≤ 4 := bq_add qv_1121 nc_1112.1 (bkc (x := 1) (c := 1) (by decide)) _ _ (by decide)
        have qv_1121 : v_1121.toInt = v_1099.toInt + (1) := qv_1121
        refine lv_iadd hx hb dX4_worthOf_22 ?_
        refine lv_topi (fun v_1122 ev_1122 => ?_)
        refine lv_istore_n (lv' := [(1, .int v_1122), (2, .int v_1099), (0, .int a1)]) hx hb dX4_worthOf_23 rfl hl (by decide) rfl (fun ls hl => ?_)
        exact J_24_1118 _ _ _ _ ⟨v_1122, rfl, ⟨hP, hD⟩, hS, lv_sub hl [1, 0, 2] rfl⟩

set_option maxHeartbeats 4000000 in
set_option maxRecDepth 100000 in
theorem sX4_bestSet (l : Launch) (G : va_G) (y : Nat → ClassId) (sz : Nat) (ob : Nat) (o1 : Nat) (a2 : Int32) (ob_planned : Int32) (ob_bestWorth : Int32) (ob_bestOver : Int32) (ob_length : Int32) (ob_order : Nat) (ob_owner : Int32) (ob_weekday : Int32) (ob_spots : Int32) (ob_spot : Nat) (ob_deadline : Nat) (ob_opens : Nat) (ob_closes : Nat) (ob_stays : Nat) (ob_apart : Nat) (ob_minute : Nat) (ob_soonest : Nat) (ob_sums : Nat) (fob_spot : Nat → Int32) (fob_soonest : Nat → Int32) (fob_sums : Nat → Int32) (o1_town : Nat) (o1_code : Nat) (o1_debts : Nat) (o1_deeds : Nat) (o1_knows : Nat) (o1_day : Int32) (o1_paid : Int32) (o1_follows : Nat) (o1_debts_size : Int32) (o1_debts_debtor : Nat) (o1_debts_creditor : Nat) (o1_debts_kind : Nat) (o1_debts_due : Nat) (o1_debts_came : Nat) (o1_debts_open : Nat) (o1_debts_kinds : Nat) (fo1_debts_kinds : Nat → Int32) (p_ob_planned : (0 : Int) ≤ ob_planned.toInt ∧ ob_planned.toInt ≤ 1) (p_ob_length : (0 : Int) ≤ ob_length.toInt ∧ ob_length.toInt ≤ 10) (p_ob_spots : (0 : Int) ≤ ob_spots.toInt ∧ ob_spots.toInt ≤ 10) (p_fob_spot : ∀ i, (0 : Int) ≤ (fob_spot i).toInt ∧ (fob_spot i).toInt ≤ 15) (p_o1_debts_size : (0 : Int) ≤ o1_debts_size.toInt ∧ o1_debts_size.toInt ≤ 600) (p_o1_day : (0 : Int) ≤ o1_day.toInt ∧ o1_day.toInt ≤ 399) (p_a2 : (0 : Int) ≤ a2.toInt ∧ a2.toInt ≤ 15) : Met l yX4_bestSet (Cond.code yX4_bestSet cX4_bestSet 8 (some .int) :: wAll) ({ frames := 1, cells := 0, slots := 0, locals := 22 }) (va_Pc [.ref ob, .ref o1, .int a2] (kp G y sz [(ce_X4 ob ob_planned ob_bestWorth ob_bestOver ob_length ob_order ob_owner ob_weekday ob_spots ob_spot ob_deadline ob_opens ob_closes ob_stays ob_apart ob_minute ob_soonest ob_sums), (ce_i10 y ob_spot fob_spot), (ce_i1024 y ob_soonest fob_soonest), (ce_i1024 y ob_sums fob_sums), (ce_X6 o1 o1_town o1_code o1_debts o1_deeds o1_knows o1_day o1_paid o1_follows), (ce_X1 o1_debts o1_debts_size o1_debts_debtor o1_debts_creditor o1_debts_kind o1_debts_due o1_debts_came o1_debts_open o1_debts_kinds), (ce_i256 y o1_debts_kinds fo1_debts_kinds)])) (va_Qi (fun (r : Int32) (w : va_W) => (∃ (v_1467 : Int32) (v_1468 : Int32) (v_1469 : Int32) (f_1470 : Nat → Int32), ((0 : Int) ≤ v_1467.toInt ∧ v_1467.toInt ≤ 1023) ∧ ((-2147483648 : Int) ≤ v_1469.toInt ∧ v_1469.toInt ≤ 999) ∧ r = v_1467 ∧ w = [(ce_X4 ob ob_planned v_1468 v_1469 ob_length ob_order ob_owner ob_weekday ob_spots ob_spot ob_deadline ob_opens ob_closes ob_stays ob_apart ob_minute ob_soonest ob_sums), (ce_i10 y ob_spot fob_spot), (ce_i1024 y ob_soonest fob_soonest), (ce_i1024 y ob_sums f_1470), (ce_X6 o1 o1_town o1_code o1_debts o1_deeds o1_knows o1_day o1_paid o1_follows), (ce_X1 o1_debts o1_debts_size o1_debts_debtor o1_debts_creditor o1_debts_kind o1_debts_due o1_debts_came o1_debts_open o1_debts_kinds), (ce_i256 y o1_debts_kinds fo1_debts_kinds)])) (kq G (va_A [(ce_X4 ob ob_planned ob_bestWorth ob_bestOver ob_length ob_order ob_owner ob_weekday ob_spots ob_spot ob_deadline ob_opens ob_closes ob_stays ob_apart ob_minute ob_soonest ob_sums), (ce_i10 y ob_spot fob_spot), (ce_i1024 y ob_soonest fob_soonest), (ce_i1024 y ob_sums fob_sums), (ce_X6 o1 o1_town o1_code o1_debts o1_deeds o1_knows o1_day o1_paid o1_follows), (ce_X1 o1_debts o1_debts_size o1_debts_debtor o1_debts_creditor o1_debts_kind o1_debts_due o1_debts_came o1_debts_open o1_debts_kinds), (ce_i256 y o1_debts_kinds fo1_debts_kinds)] sz)) (va_A [(ce_X4 ob ob_planned ob_bestWorth ob_bestOver ob_length ob_order ob_owner ob_weekday ob_spots ob_spot ob_deadline ob_opens ob_closes ob_stays ob_apart ob_minute ob_soonest ob_sums), (ce_i10 y ob_spot fob_spot), (ce_i1024 y ob_soonest fob_soonest), (ce_i1024 y ob_sums fob_sums), (ce_X6 o1 o1_town o1_code o1_debts o1_deeds o1_knows o1_day o1_paid o1_follows), (ce_X1 o1_debts o1_debts_size o1_debts_debtor o1_debts_creditor o1_debts_kind o1_debts_due o1_debts_came o1_debts_open o1_debts_kinds), (ce_i256 y o1_debts_kinds fo1_debts_kinds)] sz)) 0 0 (va_A [(ce_X4 ob ob_planned ob_bestWorth ob_bestOver ob_length ob_order ob_owner ob_weekday ob_spots ob_spot ob_deadline ob_opens ob_closes ob_stays ob_apart ob_minute ob_soonest ob_sums), (ce_i10 y ob_spot fob_spot), (ce_i1024 y ob_soonest fob_soonest), (ce_i1024 y ob_sums fob_sums), (ce_X6 o1 o1_town o1_code o1_debts o1_deeds o1_knows o1_day o1_paid o1_follows), (ce_X1 o1_debts o1_debts_size o1_debts_debtor o1_debts_creditor o1_debts_kind o1_debts_due o1_debts_came o1_debts_open o1_debts_kinds), (ce_i256 y o1_debts_kinds fo1_debts_kinds)] sz) := by
  refine Met.ofW (cc := cX4_bestSet) (maxL := 8) (ret := (some .int)) (by decide) rfl ?_
  intro p e s m args below meth c s₁ B hml hv
  obtain ⟨rfl, hsz, hP, hK, hD0⟩ := hv
  have hx := B.exec
  have hb := B.bytes
  have hr := B.returns
  have hw0 : ∀ w ∈ wAll, w.before _ s = true := fun w h => atoms_spec (ws := Cond.code yX4_bestSet cX4_bestSet 8 (some .int) :: wAll) B.pre w (List.mem_cons_of_mem _ h)
  have hown : s.vm.findClass RX4 = some m.cls := findClass_of_methodNamed B.named
  subst hsz
  have hD := hD0.self (sz := s.heap.size)
  generalize hAe : va_A [(ce_X4 ob ob_planned ob_bestWorth ob_bestOver ob_length ob_order ob_owner ob_weekday ob_spots ob_spot ob_deadline ob_opens ob_closes ob_stays ob_apart ob_minute ob_soonest ob_sums), (ce_i10 y ob_spot fob_spot), (ce_i1024 y ob_soonest fob_soonest), (ce_i1024 y ob_sums fob_sums), (ce_X6 o1 o1_town o1_code o1_debts o1_deeds o1_knows o1_day o1_paid o1_follows), (ce_X1 o1_debts o1_debts_size o1_debts_debtor o1_debts_creditor o1_debts_kind o1_debts_due o1_debts_came o1_debts_open o1_debts_kinds), (ce_i256 y o1_debts_kinds fo1_debts_kinds)] s.heap.size = A at hD ⊢
  have hA : ∀ q : Nat, s.heap.size ≤ q → A q := fun q h => by rw [← hAe]; exact Or.inr h
  have hS : va_S A s.heap s.heap [] := va_S.rf
  have hP : va_P G vwCl [(ce_X4 ob ob_planned ob_bestWorth ob_bestOver ob_length ob_order ob_owner ob_weekday ob_spots ob_spot ob_deadline ob_opens ob_closes ob_stays ob_apart ob_minute ob_soonest ob_sums), (ce_i10 y ob_spot fob_spot), (ce_i1024 y ob_soonest fob_soonest), (ce_i1024 y ob_sums fob_sums), (ce_X6 o1 o1_town o1_code o1_debts o1_deeds o1_knows o1_day o1_paid o1_follows), (ce_X1 o1_debts o1_debts_size o1_debts_debtor o1_debts_creditor o1_debts_kind o1_debts_due o1_debts_came o1_debts_open o1_debts_kinds), (ce_i256 y o1_debts_kinds fo1_debts_kinds)] s.heap := hP
  have hl := lv_entry ([.ref ob, .ref o1, .int a2]) (n := 8) (Nat.le_of_ble_eq_true rfl)
  rw [lg_entry_eq]
  generalize (lg_sl ([.ref ob, .ref o1, .int a2]) ++ List.replicate (8 - (lg_sl ([.ref ob, .ref o1, .int a2])).length) Slot.unset).toArray = ls at hl ⊢
  have hl : lv_has ls 8 [(0, .ref ob), (1, .ref o1), (2, .int a2)] := hl
  refine lv_aload_n hx hb dX4_bestSet_0 rfl (lv_at hl 0 rfl) ?_
  refine lv_iconst (v := 0) hx hb dX4_bestSet_1 (by decide) ?_
  refine va_put (D := G) (ci := 4) (v := .int 0) (ty := .int) (C := RX4) (T := TX4) (N := 17) hx hb hw0 inA_wsX40 tyX4 tyX4_ok nmX4 hown hK.1 hP hD hS 0 rfl rfl 1 (by decide) (hw0 _ m_831) (fun _ h9 => h9) rfl fd_X4_1 rfl rfl (Nat.le_of_ble_eq_true rfl) dX4_bestSet_2 (fun H locs hP hD hS => ?_)
  obtain ⟨hP, hD⟩ : vPD G A H [(ce_X4 ob ob_planned 0 ob_bestOver ob_length ob_order ob_owner ob_weekday ob_spots ob_spot ob_deadline ob_opens ob_closes ob_stays ob_apart ob_minute ob_soonest ob_sums), (ce_i10 y ob_spot fob_spot), (ce_i1024 y ob_soonest fob_soonest), (ce_i1024 y ob_sums fob_sums), (ce_X6 o1 o1_town o1_code o1_debts o1_deeds o1_knows o1_day o1_paid o1_follows), (ce_X1 o1_debts o1_debts_size o1_debts_debtor o1_debts_creditor o1_debts_kind o1_debts_due o1_debts_came o1_debts_open o1_debts_kinds), (ce_i256 y o1_debts_kinds fo1_debts_kinds)] := ⟨hP, hD⟩
  refine lv_aload_n hx hb dX4_bestSet_5 rfl (lv_at hl 0 rfl) ?_
  refine lv_iconst (v := 0) hx hb dX4_bestSet_6 (by decide) ?_
  refine va_put (D := G) (ci := 4) (v := .int 0) (ty := .int) (C := RX4) (T := TX4) (N := 17) hx hb hw0 inA_wsX40 tyX4 tyX4_ok nmX4 hown hK.1 hP hD hS 0 rfl rfl 2 (by decide) (hw0 _ m_832) (fun _ h9 => h9) rfl fd_X4_2 rfl rfl (Nat.le_of_ble_eq_true rfl) dX4_bestSet_7 (fun H locs hP hD hS => ?_)
  obtain ⟨hP, hD⟩ : vPD G A H [(ce_X4 ob ob_planned 0 0 ob_length ob_order ob_owner ob_weekday ob_spots ob_spot ob_deadline ob_opens ob_closes ob_stays ob_apart ob_minute ob_soonest ob_sums), (ce_i10 y ob_spot fob_spot), (ce_i1024 y ob_soonest fob_soonest), (ce_i1024 y ob_sums fob_sums), (ce_X6 o1 o1_town o1_code o1_debts o1_deeds o1_knows o1_day o1_paid o1_follows), (ce_X1 o1_debts o1_debts_size o1_debts_debtor o1_debts_creditor o1_debts_kind o1_debts_due o1_debts_came o1_debts_open o1_debts_kinds), (ce_i256 y o1_debts_kinds fo1_debts_kinds)] := ⟨hP, hD⟩
  refine lv_iconst (v := 0) hx hb dX4_bestSet_10 (by decide) ?_
  refine lv_istore_n (lv' := [(3, .int 0), (0, .ref ob), (1, .ref o1), (2, .int a2)]) hx hb dX4_bestSet_11 rfl hl (by decide) rfl (fun ls hl => ?_)
  refine lv_iconst (v := 1) hx hb dX4_bestSet_12 (by decide) ?_
  refine lv_aload_n hx hb dX4_bestSet_13 rfl (lv_at hl 1 rfl) ?_
  refine va_get (D := G) (ci := 4) (v := .int ob_spots) (C := RX4) (T := TX4) (N := 17) hx hb hw0 inA_wsX40 hown hK.1 hP 0 rfl rfl 7 (by decide) (hw0 _ m_827) (fun _ h9 => h9) rfl dX4_bestSet_14 ?_
  refine lv_ishl hx hb dX4_bestSet_17 ?_
  refine lv_topi (fun v_1001 ev_1001 => ?_)
  have bv_1001 : (1 : Int) ≤ v_1001.toInt ∧ v_1001.toInt ≤ 1024 := ba_shl 0 10 ev_1001 p_ob_spots (by decide)
  refine lv_istore (lv' := [(4, .int v_1001), (3, .int 0), (0, .ref ob), (1, .ref o1), (2, .int a2)]) hx hb dX4_bestSet_18 hl (by decide) rfl (fun ls hl => ?_)
  refine lv_aload_n hx hb dX4_bestSet_20 rfl (lv_at hl 2 rfl) ?_
  refine va_get (D := G) (ci := 4) (v := .ref ob_sums) (C := RX4) (T := TX4) (N := 17) hx hb hw0 inA_wsX40 hown hK.1 hP 0 rfl rfl 16 (by decide) (hw0 _ m_823) (fun _ h9 => h9) rfl dX4_bestSet_21 ?_
  refine lv_iconst (v := 0) hx hb dX4_bestSet_24 (by decide) ?_
  refine lv_iconst (v := 0) hx hb dX4_bestSet_25 (by decide) ?_
  refine va_iast hx hb hK.1 hP hD hS 3 1 rfl rfl (vi (bkc (x := 0) (c := 0) (by decide)) (by decide)) dX4_bestSet_26 (fun H locs hP hD hS => ?_)
  generalize hf_1002 : (upd fob_sums (0 : Int32).toNatClampNeg 0) = f_1002 at hP hD
  obtain ⟨hP, hD⟩ : vPD G A H [(ce_X4 ob ob_planned 0 0 ob_length ob_order ob_owner ob_weekday ob_spots ob_spot ob_deadline ob_opens ob_closes ob_stays ob_apart ob_minute ob_soonest ob_sums), (ce_i10 y ob_spot fob_spot), (ce_i1024 y ob_soonest fob_soonest), (ce_i1024 y ob_sums f_1002), (ce_X6 o1 o1_town o1_code o1_debts o1_deeds o1_knows o1_day o1_paid o1_follows), (ce_X1 o1_debts o1_debts_size o1_debts_debtor o1_debts_creditor o1_debts_kind o1_debts_due o1_debts_came o1_debts_open o1_debts_kinds), (ce_i256 y o1_debts_kinds fo1_debts_kinds)] := ⟨hP, hD⟩
  refine lv_iconst (v := 1) hx hb dX4_bestSet_27 (by decide) ?_
  refine lv_istore (lv' := [(5, .int 1), (4, .int v_1001), (3, .int 0), (0, .ref ob), (1, .ref o1), (2, .int a2)]) hx hb dX4_bestSet_28 hl (by decide) rfl (fun ls hl => ?_)
  refine loopX (fun n H locs ls st => ∃ (v_1633 : Int32) (v_1634 : Int32) (v_1635 : Int32) (v_1636 : Int32) (f_1637 : Nat → Int32), (1024 - v_1633.toInt).toNat = n ∧ ((1 : Int) ≤ v_1633.toInt ∧ v_1633.toInt ≤ 1024) ∧ ((0 : Int) ≤ v_1634.toInt ∧ v_1634.toInt ≤ 1023) ∧ ((-2147483648 : Int) ≤ v_1636.toInt ∧ v_1636.toInt ≤ 999) ∧ st = [] ∧ vPD G A H [(ce_X4 ob ob_planned v_1635 v_1636 ob_length ob_order ob_owner ob_weekday ob_spots ob_spot ob_deadline ob_opens ob_closes ob_stays ob_apart ob_minute ob_soonest ob_sums), (ce_i10 y ob_spot fob_spot), (ce_i1024 y ob_soonest fob_soonest), (ce_i1024 y ob_sums f_1637), (ce_X6 o1 o1_town o1_code o1_debts o1_deeds o1_knows o1_day o1_paid o1_follows), (ce_X1 o1_debts o1_debts_size o1_debts_debtor o1_debts_creditor o1_debts_kind o1_debts_due o1_debts_came o1_debts_open o1_debts_kinds), (ce_i256 y o1_debts_kinds fo1_debts_kinds)] ∧ va_S A s.heap H locs ∧ lv_has ls 8 [(5, .int v_1633), (4, .int v_1001), (3, .int v_1634), (0, .ref ob), (1, .ref o1), (2, .int a2)]) ?_ (n := (1024 - (1 : Int32).toInt).toNat) ⟨1, 0, 0, 0, f_1002, rfl, (bw (1) (1024) (bkc (x := 1) (c := 1) (by decide)) (by decide)), (bw (0) (1023) (bkc (x := 0) (c := 0) (by decide)) (by decide)), (bw (-2147483648) (999) (bkc (x := 0) (c := 0) (by decide)) (by decide)), rfl, ⟨hP, hD⟩, hS, lv_sub hl [0, 1, 2, 3, 4, 5] rfl⟩
  rintro n ih_1685 H locs ls st ⟨v_1633, v_1634, v_1635, v_1636, f_1637, hn_1685, bv_1633, bv_1634, bv_1636, rfl, ⟨hP, hD⟩, hS, hl⟩
  refine lv_iload hx hb dX4_bestSet_30 (lv_at hl 0 rfl) ?_
  refine lv_iload hx hb dX4_bestSet_32 (lv_at hl 1 rfl) ?_
  refine lv_icmp_ge (tgt := 180) hx hb dX4_bestSet_34 (by decide) (fun c_1686 => ?_) (fun c_1686 => ?_)
  · skip
    have nc_1686 := nb_le (1024) (1) c_1686 bv_1001 bv_1633 (by decide)
    refine lv_iload_n hx hb dX4_bestSet_180 rfl (lv_at hl 2 rfl) ?_
    exact W.iret (v := v_1634) hx hb hr (fun t ht hW => ⟨⟨v_1634, _, rfl, ⟨v_1634, v_1635, v_1636, f_1637, bv_1634, bv_1636, rfl, rfl⟩, by rw [ht]; exact hP, hD⟩, hS.F ht⟩) hS.2.2 dX4_bestSet_181
  · skip
    have nc_1686 := nb_nle (1023) (2) c_1686 bv_1633 bv_1001 (by decide)
    refine lv_iload hx hb dX4_bestSet_37 (lv_at hl 0 rfl) ?_
    refine cSim (As := [.int v_1633]) (rest := []) ⟨hx, hb, hml, hown, hw0⟩ hA hK hP hD hS [] (sJ6_numberOfTrailingZeros_0f7a4 l G y _ v_1633 nc_1686.1) rfl ⟨(callB_of 1 hw0 (gA m_30) rfl rfl rfl (hw0 _ m_834) (hw0 _ m_833) cb_J6_numberOfTrailingZeros_0f7a4 ⟨Nat.le_of_ble_eq_true rfl, Nat.le_of_ble_eq_true rfl⟩), (hw0 _ m_835)⟩ rfl hl.1 (Nat.le_of_ble_eq_true rfl) dX4_bestSet_39 ⟨Nat.le_of_ble_eq_true rfl, Nat.le_of_ble_eq_true rfl⟩ (fun r_1687 w_1687 H locs hw_1687 hP hD hS => ?_)
    obtain ⟨v_1688, bv_1688, er_1687, rfl⟩ := hw_1687
    subst r_1687
    obtain ⟨hP, hD⟩ : vPD G A H [(ce_X4 ob ob_planned v_1635 v_1636 ob_length ob_order ob_owner ob_weekday ob_spots ob_spot ob_deadline ob_opens ob_closes ob_stays ob_apart ob_minute ob_soonest ob_sums), (ce_i10 y ob_spot fob_spot), (ce_i1024 y ob_soonest fob_soonest), (ce_i1024 y ob_sums f_1637), (ce_X6 o1 o1_town o1_code o1_debts o1_deeds o1_knows o1_day o1_paid o1_follows), (ce_X1 o1_debts o1_debts_size o1_debts_debtor o1_debts_creditor o1_debts_kind o1_debts_due o1_debts_came o1_debts_open o1_debts_kinds), (ce_i256 y o1_debts_kinds fo1_debts_kinds)] := ⟨hP, hD⟩
    refine lv_istore (lv' := [(6, .int v_1688), (5, .int v_1633), (4, .int v_1001), (3, .int v_1634), (0, .ref ob), (1, .ref o1), (2, .int a2)]) hx hb dX4_bestSet_42 hl (by decide) rfl (fun ls hl => ?_)
    refine lv_aload_n hx hb dX4_bestSet_44 rfl (lv_at hl 4 rfl) ?_
    refine va_get (D := G) (ci := 4) (v := .ref ob_sums) (C := RX4) (T := TX4) (N := 17) hx hb hw0 inA_wsX40 hown hK.1 hP 0 rfl rfl 16 (by decide) (hw0 _ m_823) (fun _ h9 => h9) rfl dX4_bestSet_45 ?_
    refine lv_iload hx hb dX4_bestSet_48 (lv_at hl 1 rfl) ?_
    refine lv_aload_n hx hb dX4_bestSet_50 rfl (lv_at hl 4 rfl) ?_
    refine va_get (D := G) (ci := 4) (v := .ref ob_sums) (C := RX4) (T := TX4) (N := 17) hx hb hw0 inA_wsX40 hown hK.1 hP 0 rfl rfl 16 (by decide) (hw0 _ m_823) (fun _ h9 => h9) rfl dX4_bestSet_51 ?_
    refine lv_iload hx hb dX4_bestSet_54 (lv_at hl 1 rfl) ?_
    refine lv_iload hx hb dX4_bestSet_56 (lv_at hl 1 rfl) ?_
    refine lv_iconst (v := 1) hx hb dX4_bestSet_58 (by decide) ?_
    refine lv_isub hx hb dX4_bestSet_59 ?_
    refine lv_topi (fun v_1689 ev_1689 => ?_)
    have qv_1689 := ba_sub ev_1689 nc_1686.1 (bkc (x := 1) (c := 1) (by decide)) (by decide)
    have bv_1689 : (0 : Int) ≤ v_1689.toInt ∧ v_1689.toInt ≤ 1022 := bq_sub qv_1689 nc_1686.1 (bkc (x := 1) (c := 1) (by decide)) _ _ (by decide)
    have qv_1689 : v_1689.toInt = v_1633.toInt - (1) := qv_1689
    refine lv_iand hx hb dX4_bestSet_60 ?_
    refine lv_topi (fun v_1690 ev_1690 => ?_)
    have bv_1690 : (0 : Int) ≤ v_1690.toInt ∧ v_1690.toInt ≤ 1022 := ba_andr ev_1690 bv_1689 (by decide)
    refine va_iald hx hb hK.1 hP 3 1 rfl rfl (vi bv_1690 (by decide)) dX4_bestSet_61 ?_
    refine lv_topi (fun v_1691 ev_1691 => ?_)
    refine lv_aload_n hx hb dX4_bestSet_62 rfl (lv_at hl 5 rfl) ?_
    refine va_get (D := G) (ci := 6) (v := .ref o1_debts) (C := RX6) (T := TX6) (N := 8) hx hb hw0 inA_wsX60 hown hK.1 hP 4 rfl rfl 2 (by decide) (hw0 _ m_836) (fun _ h9 => h9) rfl dX4_bestSet_63 ?_
    refine lv_iload_n hx hb dX4_bestSet_66 rfl (lv_at hl 6 rfl) ?_
    refine lv_aload_n hx hb dX4_bestSet_67 rfl (lv_at hl 4 rfl) ?_
    refine va_get (D := G) (ci := 4) (v := .ref ob_spot) (C := RX4) (T := TX4) (N := 17) hx hb hw0 inA_wsX40 hown hK.1 hP 0 rfl rfl 8 (by decide) (hw0 _ m_829) (fun _ h9 => h9) rfl dX4_bestSet_68 ?_
    refine lv_iload hx hb dX4_bestSet_71 (lv_at hl 0 rfl) ?_
    refine va_iald hx hb hK.1 hP 1 1 rfl rfl (vi bv_1688 (by decide)) dX4_bestSet_73 ?_
    refine lv_topi (fun v_1692 ev_1692 => ?_)
    have bv_1692 : (0 : Int) ≤ v_1692.toInt ∧ v_1692.toInt ≤ 15 := rd_b ev_1692 p_fob_spot
    refine cVim (As := [.int a2, .int v_1692]) (rest := [.int v_1691, .int v_1633, .ref ob_sums]) ⟨hx, hb, hml, hown, hw0⟩ hA hK hP hD hS [false, false, false, false, false, true, true] (sX1_kindsOf l G y _ o1_debts a2 v_1692 o1_debts_size o1_debts_debtor o1_debts_creditor o1_debts_kind o1_debts_due o1_debts_came o1_debts_open o1_debts_kinds fo1_debts_kinds p_o1_debts_size p_a2 bv_1692) rfl ⟨(callB_of 2 hw0 (gA m_323) rfl rfl rfl (hw0 _ m_330) (hw0 _ m_837) cb_X1_kindsOf ⟨Nat.le_of_ble_eq_true rfl, Nat.le_of_ble_eq_true rfl⟩), (hw0 _ m_331), (hw0 _ m_332)⟩ (ci := 1) (q := (RX1, TX1, 8)) rfl rfl rfl hl.1 (Nat.le_of_ble_eq_true rfl) dX4_bestSet_74 ⟨Nat.le_of_ble_eq_true rfl, Nat.le_of_ble_eq_true rfl⟩ (fun r_1693 w_1693 H locs hw_1693 hP hD hS => ?_)
    obtain ⟨v_1694, er_1693, rfl⟩ := hw_1693
    subst r_1693
    obtain ⟨hP, hD⟩ : vPD G A H [(ce_X4 ob ob_planned v_1635 v_1636 ob_length ob_order ob_owner ob_weekday ob_spots ob_spot ob_deadline ob_opens ob_closes ob_stays ob_apart ob_minute ob_soonest ob_sums), (ce_i10 y ob_spot fob_spot), (ce_i1024 y ob_soonest fob_soonest), (ce_i1024 y ob_sums f_1637), (ce_X6 o1 o1_town o1_code o1_debts o1_deeds o1_knows o1_day o1_paid o1_follows), (ce_X1 o1_debts o1_debts_size o1_debts_debtor o1_debts_creditor o1_debts_kind o1_debts_due o1_debts_came o1_debts_open o1_debts_kinds), (ce_i256 y o1_debts_kinds fo1_debts_kinds)] := ⟨hP, hD⟩
    refine cSim (As := [.int v_1694]) (rest := [.int v_1691, .int v_1633, .ref ob_sums]) ⟨hx, hb, hml, hown, hw0⟩ hA hK hP hD hS [] (sX4_worthOf l G y _ v_1694 ) rfl ⟨(callB_of 1 hw0 (gA m_938) rfl rfl rfl (hw0 _ m_839) (hw0 _ m_838) cb_X4_worthOf ⟨Nat.le_of_ble_eq_true rfl, Nat.le_of_ble_eq_true rfl⟩), (hw0 _ m_840)⟩ rfl hl.1 (Nat.le_of_ble_eq_true rfl) dX4_bestSet_77 ⟨Nat.le_of_ble_eq_true rfl, Nat.le_of_ble_eq_true rfl⟩ (fun r_1695 w_1695 H locs hw_1695 hP hD hS => ?_)
    obtain ⟨v_1696, er_1695, rfl⟩ := hw_1695
    subst r_1695
    obtain ⟨hP, hD⟩ : vPD G A H [(ce_X4 ob ob_planned v_1635 v_1636 ob_length ob_order ob_owner ob_weekday ob_spots ob_spot ob_deadline ob_opens ob_closes ob_stays ob_apart ob_minute ob_soonest ob_sums), (ce_i10 y ob_spot fob_spot), (ce_i1024 y ob_soonest fob_soonest), (ce_i1024 y ob_sums f_1637), (ce_X6 o1 o1_town o1_code o1_debts o1_deeds o1_knows o1_day o1_paid o1_follows), (ce_X1 o1_debts o1_debts_size o1_debts_debtor o1_debts_creditor o1_debts_kind o1_debts_due o1_debts_came o1_debts_open o1_debts_kinds), (ce_i256 y o1_debts_kinds fo1_debts_kinds)] := ⟨hP, hD⟩
    refine lv_iadd hx hb dX4_bestSet_80 ?_
    refine lv_topi (fun v_1697 ev_1697 => ?_)
    refine va_iast hx hb hK.1 hP hD hS 3 1 rfl rfl (vi nc_1686.1 (by decide)) dX4_bestSet_81 (fun H locs hP hD hS => ?_)
    generalize hf_1698 : (upd f_1637 (v_1633 : Int32).toNatClampNeg v_1697) = f_1698 at hP hD
    obtain ⟨hP, hD⟩ : vPD G A H [(ce_X4 ob ob_planned v_1635 v_1636 ob_length ob_order ob_owner ob_weekday ob_spots ob_spot ob_deadline ob_opens ob_closes ob_stays ob_apart ob_minute ob_soonest ob_sums), (ce_i10 y ob_spot fob_spot), (ce_i1024 y ob_soonest fob_soonest), (ce_i1024 y ob_sums f_1698), (ce_X6 o1 o1_town o1_code o1_debts o1_deeds o1_knows o1_day o1_paid o1_follows), (ce_X1 o1_debts o1_debts_size o1_debts_debtor o1_debts_creditor o1_debts_kind o1_debts_due o1_debts_came o1_debts_open o1_debts_kinds), (ce_i256 y o1_debts_kinds fo1_debts_kinds)] := ⟨hP, hD⟩
    refine lv_aload_n hx hb dX4_bestSet_82 rfl (lv_at hl 4 rfl) ?_
    refine va_get (D := G) (ci := 4) (v := .ref ob_sums) (C := RX4) (T := TX4) (N := 17) hx hb hw0 inA_wsX40 hown hK.1 hP 0 rfl rfl 16 (by decide) (hw0 _ m_823) (fun _ h9 => h9) rfl dX4_bestSet_83 ?_
    refine lv_iload hx hb dX4_bestSet_86 (lv_at hl 1 rfl) ?_
    refine va_iald hx hb hK.1 hP 3 1 rfl rfl (vi nc_1686.1 (by decide)) dX4_bestSet_88 ?_
    refine lv_topi (fun v_1699 ev_1699 => ?_)
    refine lv_aload_n hx hb dX4_bestSet_89 rfl (lv_at hl 4 rfl) ?_
    refine va_get (D := G) (ci := 4) (v := .int v_1635) (C := RX4) (T := TX4) (N := 17) hx hb hw0 inA_wsX40 hown hK.1 hP 0 rfl rfl 1 (by decide) (hw0 _ m_831) (fun _ h9 => h9) rfl dX4_bestSet_90 ?_
    refine cutW 115 (fun H locs ls st => ∃ (v_1706 : Int32), ((0 : Int) ≤ v_1706.toInt ∧ v_1706.toInt ≤ 1) ∧ st = [.int v_1706] ∧ vPD G A H [(ce_X4 ob ob_planned v_1635 v_1636 ob_length ob_order ob_owner ob_weekday ob_spots ob_spot ob_deadline ob_opens ob_closes ob_stays ob_apart ob_minute ob_soonest ob_sums), (ce_i10 y ob_spot fob_spot), (ce_i1024 y ob_soonest fob_soonest), (ce_i1024 y ob_sums f_1698), (ce_X6 o1 o1_town o1_code o1_debts o1_deeds o1_knows o1_day o1_paid o1_follows), (ce_X1 o1_debts o1_debts_size o1_debts_debtor o1_debts_creditor o1_debts_kind o1_debts_due o1_debts_came o1_debts_open o1_debts_kinds), (ce_i256 y o1_debts_kinds fo1_debts_kinds)] ∧ va_S A s.heap H locs ∧ lv_has ls 8 [(5, .int v_1633), (4, .int v_1001), (3, .int v_1634), (0, .ref ob), (1, .ref o1), (2, .int a2)]) ?_ (fun J_115_1706 => ?_)
    · rintro H locs ls st ⟨v_1706, bv_1706, rfl, ⟨hP, hD⟩, hS, hl⟩
      refine lv_istore (lv' := [(7, .int v_1706), (5, .int v_1633), (4, .int v_1001), (3, .int v_1634), (0, .ref ob), (1, .ref o1), (2, .int a2)]) hx hb dX4_bestSet_115 hl (by decide) rfl (fun ls hl => ?_)
      refine lv_aload_n hx hb dX4_bestSet_117 rfl (lv_at hl 4 rfl) ?_
      refine va_get (D := G) (ci := 4) (v := .ref ob_soonest) (C := RX4) (T := TX4) (N := 17) hx hb hw0 inA_wsX40 hown hK.1 hP 0 rfl rfl 15 (by decide) (hw0 _ m_822) (fun _ h9 => h9) rfl dX4_bestSet_118 ?_
      refine lv_iload hx hb dX4_bestSet_121 (lv_at hl 1 rfl) ?_
      refine va_iald hx hb hK.1 hP 2 1 rfl rfl (vi nc_1686.1 (by decide)) dX4_bestSet_123 ?_
      refine lv_topi (fun v_1707 ev_1707 => ?_)
      refine lv_sipush (v := 1000) hx hb dX4_bestSet_124 (by decide) ?_
      refine cutW 174 (fun H locs ls st => ∃ (v_1716 : Int32) (v_1717 : Int32) (v_1718 : Int32), ((0 : Int) ≤ v_1716.toInt ∧ v_1716.toInt ≤ 1023) ∧ ((-2147483648 : Int) ≤ v_1718.toInt ∧ v_1718.toInt ≤ 999) ∧ st = [] ∧ vPD G A H [(ce_X4 ob ob_planned v_1717 v_1718 ob_length ob_order ob_owner ob_weekday ob_spots ob_spot ob_deadline ob_opens ob_closes ob_stays ob_apart ob_minute ob_soonest ob_sums), (ce_i10 y ob_spot fob_spot), (ce_i1024 y ob_soonest fob_soonest), (ce_i1024 y ob_sums f_1698), (ce_X6 o1 o1_town o1_code o1_debts o1_deeds o1_knows o1_day o1_paid o1_follows), (ce_X1 o1_debts o1_debts_size o1_debts_debtor o1_debts_creditor o1_debts_kind o1_debts_due o1_debts_came o1_debts_open o1_debts_kinds), (ce_i256 y o1_debts_kinds fo1_debts_kinds)] ∧ va_S A s.heap H locs ∧ lv_has ls 8 [(5, .int v_1633), (4, .int v_1001), (3, .int v_1716), (0, .ref ob), (1, .ref o1), (2, .int a2)]) ?_ (fun J_174_1718 => ?_)
      · rintro H locs ls st ⟨v_1716, v_1717, v_1718, bv_1716, bv_1718, rfl, ⟨hP, hD⟩, hS, hl⟩
        obtain ⟨v_1719, ev_1719⟩ : ∃ z : Int32, z = v_1633 + 1 := ⟨_, rfl⟩
        have qv_1719 := ba_add ev_1719 nc_1686.1 (bkc (x := 1) (c := 1) (by decide)) (by decide)
        have bv_1719 : (2 : Int) ≤ v_1719.toInt ∧ v_1719.toInt ≤ 1024 := bq_add qv_1719 nc_1686.1 (bkc (x := 1) (c := 1) (by decide)) _ _ (by decide)
        have qv_1719 : v_1719.toInt = v_1633.toInt + (1) := qv_1719
        refine lv_iinc (v := v_1719) (lv' := [(5, .int v_1719), (4, .int v_1001), (3, .int v_1716), (0, .ref ob), (1, .ref o1), (2, .int a2)]) hx hb dX4_bestSet_174 hl (k := 0) rfl (ev_1719.symm) (by decide) rfl (fun ls hl => ?_)
        refine lv_goto (tgt := 30) hx hb dX4_bestSet_177 (by decide) ?_
        exact ih_1685 _ (ml_inc (hi := 1024) hn_1685 qv_1719 (by decide) ((bw (1) (1024) bv_1719 (by decide))).2) _ _ _ _ ⟨v_1719, v_1716, v_1717, v_1718, f_1698, rfl, (bw (1) (1024) bv_1719 (by decide)), bv_1716, bv_1718, rfl, ⟨hP, hD⟩, hS, lv_sub hl [0, 1, 2, 3, 4, 5] rfl⟩
      · skip
        refine lv_icmp_ge (tgt := 174) hx hb dX4_bestSet_127 (by decide) (fun c_1720 => ?_) (fun c_1720 => ?_)
        · skip
          have nc_1720 := nb_le (1000) (1000) c_1720 (bkc (x := 1000) (c := 1000) (by decide)) (btop v_1707) (by decide)
          exact J_174_1718 _ _ _ _ ⟨v_1634, v_1635, v_1636, bv_1634, bv_1636, rfl, ⟨hP, hD⟩, hS, lv_sub hl [1, 2, 3, 4, 5, 6] rfl⟩
        · skip
          have nc_1720 := nb_nle (999) (1000) c_1720 (btop v_1707) (bkc (x := 1000) (c := 1000) (by decide)) (by decide)
          refine lv_aload_n hx hb dX4_bestSet_130 rfl (lv_at hl 4 rfl) ?_
          refine va_get (D := G) (ci := 4) (v := .ref ob_sums) (C := RX4) (T := TX4) (N := 17) hx hb hw0 inA_wsX40 hown hK.1 hP 0 rfl rfl 16 (by decide) (hw0 _ m_823) (fun _ h9 => h9) rfl dX4_bestSet_131 ?_
          refine lv_iload hx hb dX4_bestSet_134 (lv_at hl 1 rfl) ?_
          refine va_iald hx hb hK.1 hP 3 1 rfl rfl (vi nc_1686.1 (by decide)) dX4_bestSet_136 ?_
          refine lv_topi (fun v_1721 ev_1721 => ?_)
          obtain rfl : v_1699 = v_1721 := (ev_1721.trans (ev_1699.symm)).symm
          refine lv_aload_n hx hb dX4_bestSet_137 rfl (lv_at hl 4 rfl) ?_
          refine va_get (D := G) (ci := 4) (v := .int v_1635) (C := RX4) (T := TX4) (N := 17) hx hb hw0 inA_wsX40 hown hK.1 hP 0 rfl rfl 1 (by decide) (hw0 _ m_831) (fun _ h9 => h9) rfl dX4_bestSet_138 ?_
          refine cutW 149 (fun H locs ls st => st = [] ∧ vPD G A H [(ce_X4 ob ob_planned v_1635 v_1636 ob_length ob_order ob_owner ob_weekday ob_spots ob_spot ob_deadline ob_opens ob_closes ob_stays ob_apart ob_minute ob_soonest ob_sums), (ce_i10 y ob_spot fob_spot), (ce_i1024 y ob_soonest fob_soonest), (ce_i1024 y ob_sums f_1698), (ce_X6 o1 o1_town o1_code o1_debts o1_deeds o1_knows o1_day o1_paid o1_follows), (ce_X1 o1_debts o1_debts_size o1_debts_debtor o1_debts_creditor o1_debts_kind o1_debts_due o1_debts_came o1_debts_open o1_debts_kinds), (ce_i256 y o1_debts_kinds fo1_debts_kinds)] ∧ va_S A s.heap H locs ∧ lv_has ls 8 [(5, .int v_1633), (4, .int v_1001), (0, .ref ob), (1, .ref o1), (2, .int a2)]) ?_ (fun J_149_1723 => ?_)
          · rintro H locs ls st ⟨rfl, ⟨hP, hD⟩, hS, hl⟩
            refine lv_iload hx hb dX4_bestSet_149 (lv_at hl 0 rfl) ?_
            refine lv_istore_n (lv' := [(3, .int v_1633), (5, .int v_1633), (4, .int v_1001), (0, .ref ob), (1, .ref o1), (2, .int a2)]) hx hb dX4_bestSet_151 rfl hl (by decide) rfl (fun ls hl => ?_)
            refine lv_aload_n hx hb dX4_bestSet_152 rfl (lv_at hl 3 rfl) ?_
            refine lv_aload_n hx hb dX4_bestSet_153 rfl (lv_at hl 3 rfl) ?_
            refine va_get (D := G) (ci := 4) (v := .ref ob_sums) (C := RX4) (T := TX4) (N := 17) hx hb hw0 inA_wsX40 hown hK.1 hP 0 rfl rfl 16 (by decide) (hw0 _ m_823) (fun _ h9 => h9) rfl dX4_bestSet_154 ?_
            refine lv_iload hx hb dX4_bestSet_157 (lv_at hl 1 rfl) ?_
            refine va_iald hx hb hK.1 hP 3 1 rfl rfl (vi nc_1686.1 (by decide)) dX4_bestSet_159 ?_
            refine lv_topi (fun v_1724 ev_1724 => ?_)
            obtain rfl : v_1699 = v_1724 := (ev_1724.trans (ev_1699.symm)).symm
            refine va_put (D := G) (ci := 4) (v := .int v_1699) (ty := .int) (C := RX4) (T := TX4) (N := 17) hx hb hw0 inA_wsX40 tyX4 tyX4_ok nmX4 hown hK.1 hP hD hS 0 rfl rfl 1 (by decide) (hw0 _ m_831) (fun _ h9 => h9) rfl fd_X4_1 rfl rfl (Nat.le_of_ble_eq_true rfl) dX4_bestSet_160 (fun H locs hP hD hS => ?_)
            obtain ⟨hP, hD⟩ : vPD G A H [(ce_X4 ob ob_planned v_1699 v_1636 ob_length ob_order ob_owner ob_weekday ob_spots ob_spot ob_deadline ob_opens ob_closes ob_stays ob_apart ob_minute ob_soonest ob_sums), (ce_i10 y ob_spot fob_spot), (ce_i1024 y ob_soonest fob_soonest), (ce_i1024 y ob_sums f_1698), (ce_X6 o1 o1_town o1_code o1_debts o1_deeds o1_knows o1_day o1_paid o1_follows), (ce_X1 o1_debts o1_debts_size o1_debts_debtor o1_debts_creditor o1_debts_kind o1_debts_due o1_debts_came o1_debts_open o1_debts_kinds), (ce_i256 y o1_debts_kinds fo1_debts_kinds)] := ⟨hP, hD⟩
            refine lv_aload_n hx hb dX4_bestSet_163 rfl (lv_at hl 3 rfl) ?_
            refine lv_aload_n hx hb dX4_bestSet_164 rfl (lv_at hl 3 rfl) ?_
            refine va_get (D := G) (ci := 4) (v := .ref ob_soonest) (C := RX4) (T := TX4) (N := 17) hx hb hw0 inA_wsX40 hown hK.1 hP 0 rfl rfl 15 (by decide) (hw0 _ m_822) (fun _ h9 => h9) rfl dX4_bestSet_165 ?_
            refine lv_iload hx hb dX4_bestSet_168 (lv_at hl 1 rfl) ?_
            refine va_iald hx hb hK.1 hP 2 1 rfl rfl (vi nc_1686.1 (by decide)) dX4_bestSet_170 ?_
            refine lv_topi (fun v_1725 ev_1725 => ?_)
            obtain rfl : v_1707 = v_1725 := (ev_1725.trans (ev_1707.symm)).symm
            refine va_put (D := G) (ci := 4) (v := .int v_1707) (ty := .int) (C := RX4) (T := TX4) (N := 17) hx hb hw0 inA_wsX40 tyX4 tyX4_ok nmX4 hown hK.1 hP hD hS 0 rfl rfl 2 (by decide) (hw0 _ m_832) (fun _ h9 => h9) rfl fd_X4_2 rfl rfl (Nat.le_of_ble_eq_true rfl) dX4_bestSet_171 (fun H locs hP hD hS => ?_)
            obtain ⟨hP, hD⟩ : vPD G A H [(ce_X4 ob ob_planned v_1699 v_1707 ob_length ob_order ob_owner ob_weekday ob_spots ob_spot ob_deadline ob_opens ob_closes ob_stays ob_apart ob_minute ob_soonest ob_sums), (ce_i10 y ob_spot fob_spot), (ce_i1024 y ob_soonest fob_soonest), (ce_i1024 y ob_sums f_1698), (ce_X6 o1 o1_town o1_code o1_debts o1_deeds o1_knows o1_day o1_paid o1_follows), (ce_X1 o1_debts o1_debts_size o1_debts_debtor o1_debts_creditor o1_debts_kind o1_debts_due o1_debts_came o1_debts_open o1_debts_kinds), (ce_i256 y o1_debts_kinds fo1_debts_kinds)] := ⟨hP, hD⟩
            exact J_174_1718 _ _ _ _ ⟨v_1633, v_1699, v_1707, (bw (0) (1023) nc_1686.1 (by decide)), nc_1720.1, rfl, ⟨hP, hD⟩, hS, lv_sub hl [1, 2, 0, 3, 4, 5] rfl⟩
          · skip
            refine lv_icmp_gt (tgt := 149) hx hb dX4_bestSet_141 (by decide) (fun c_1726 => ?_) (fun c_1726 => ?_)
            · skip
              have nc_1726 := nb_lt (2147483646) (-2147483647) c_1726 (btop v_1635) (btop v_1699) (by decide)
              exact J_149_1723 _ _ _ _ ⟨rfl, ⟨hP, hD⟩, hS, lv_sub hl [1, 2, 4, 5, 6] rfl⟩
            · skip
              have nc_1726 := nb_nlt (2147483647) (-2147483648) c_1726 (btop v_1699) (btop v_1635) (by decide)
              refine lv_iload hx hb dX4_bestSet_144 (lv_at hl 0 rfl) ?_
              refine lv_if_eq (tgt := 174) hx hb dX4_bestSet_146 (by decide) (fun c_1727 => ?_) (fun c_1727 => ?_)
              · skip
                have nc_1727 := nb_eq (0) (0) c_1727 bv_1706 (bkc (x := 0) (c := 0) (by decide)) (by decide)
                exact J_174_1718 _ _ _ _ ⟨v_1634, v_1635, v_1636, bv_1634, bv_1636, rfl, ⟨hP, hD⟩, hS, lv_sub hl [1, 2, 3, 4, 5, 6] rfl⟩
              · skip
                have nc_1727 := nb_ne (1) (1) c_1727 bv_1706 (k := 0) (by decide) (by decide)
                exact J_149_1723 _ _ _ _ ⟨rfl, ⟨hP, hD⟩, hS, lv_sub hl [1, 2, 4, 5, 6] rfl⟩
    · skip
      refine cutW 114 (fun H locs ls st => st = [] ∧ vPD G A H [(ce_X4 ob ob_planned v_1635 v_1636 ob_length ob_order ob_owner ob_weekday ob_spots ob_spot ob_deadline ob_opens ob_closes ob_stays ob_apart ob_minute ob_soonest ob_sums), (ce_i10 y ob_spot fob_spot), (ce_i1024 y ob_soonest fob_soonest), (ce_i1024 y ob_sums f_1698), (ce_X6 o1 o1_town o1_code o1_debts o1_deeds o1_knows o1_day o1_paid o1_follows), (ce_X1 o1_debts o1_debts_size o1_debts_debtor o1_debts_creditor o1_debts_kind o1_debts_due o1_debts_came o1_debts_open o1_debts_kinds), (ce_i256 y o1_debts_kinds fo1_debts_kinds)] ∧ va_S A s.heap H locs ∧ lv_has ls 8 [(5, .int v_1633), (4, .int v_1001), (3, .int v_1634), (0, .ref ob), (1, .ref o1), (2, .int a2)]) ?_ (fun J_114_1730 => ?_)
      · rintro H locs ls st ⟨rfl, ⟨hP, hD⟩, hS, hl⟩
        refine lv_iconst (v := 0) hx hb dX4_bestSet_114 (by decide) ?_
        exact J_115_1706 _ _ _ _ ⟨0, (bw (0) (1) (bkc (x := 0) (c := 0) (by decide)) (by decide)), rfl, ⟨hP, hD⟩, hS, lv_sub hl [0, 1, 2, 3, 4, 5] rfl⟩
      · skip
        refine lv_icmp_ne (tgt := 114) hx hb dX4_bestSet_93 (by decide) (fun c_1731 => ?_) (fun c_1731 => ?_)
        · skip
          exact J_114_1730 _ _ _ _ ⟨rfl, ⟨hP, hD⟩, hS, lv_sub hl [1, 2, 3, 4, 5, 6] rfl⟩
        · skip
          have nc_1731 := nb_eq (-2147483648) (2147483647) c_1731 (btop v_1699) (btop v_1635) (by decide)
          refine lv_aload_n hx hb dX4_bestSet_96 rfl (lv_at hl 4 rfl) ?_
          refine va_get (D := G) (ci := 4) (v := .ref ob_soonest) (C := RX4) (T := TX4) (N := 17) hx hb hw0 inA_wsX40 hown hK.1 hP 0 rfl rfl 15 (by decide) (hw0 _ m_822) (fun _ h9 => h9) rfl dX4_bestSet_97 ?_
          refine lv_iload hx hb dX4_bestSet_100 (lv_at hl 1 rfl) ?_
          refine va_iald hx hb hK.1 hP 2 1 rfl rfl (vi nc_1686.1 (by decide)) dX4_bestSet_102 ?_
          refine lv_topi (fun v_1732 ev_1732 => ?_)
          refine lv_aload_n hx hb dX4_bestSet_103 rfl (lv_at hl 4 rfl) ?_
          refine va_get (D := G) (ci := 4) (v := .int v_1636) (C := RX4) (T := TX4) (N := 17) hx hb hw0 inA_wsX40 hown hK.1 hP 0 rfl rfl 2 (by decide) (hw0 _ m_832) (fun _ h9 => h9) rfl dX4_bestSet_104 ?_
          refine lv_icmp_ge (tgt := 114) hx hb dX4_bestSet_107 (by decide) (fun c_1733 => ?_) (fun c_1733 => ?_)
          · skip
            have nc_1733 := nb_le (999) (-2147483648) c_1733 bv_1636 (btop v_1732) (by decide)
            exact J_114_1730 _ _ _ _ ⟨rfl, ⟨hP, hD⟩, hS, lv_sub hl [1, 2, 3, 4, 5, 6] rfl⟩
          · skip
            have nc_1733 := nb_nle (998) (-2147483647) c_1733 (btop v_1732) bv_1636 (by decide)
            refine lv_iconst (v := 1) hx hb dX4_bestSet_110 (by decide) ?_
            refine lv_goto (tgt := 115) hx hb dX4_bestSet_111 (by decide) ?_
            exact J_115_1706 _ _ _ _ ⟨1, (bw (0) (1) (bkc (x := 1) (c := 1) (by decide)) (by decide)), rfl, ⟨hP, hD⟩, hS, lv_sub hl [1, 2, 3, 4, 5, 6] rfl⟩

set_option maxHeartbeats 4000000 in
set_option maxRecDepth 100000 in
theorem sX4_latest (l : Launch) (G : va_G) (y : Nat → ClassId) (sz : Nat) (ob : Nat) (a1 : Int32) (a2 : Int32) (ob_planned : Int32) (ob_bestWorth : Int32) (ob_bestOver : Int32) (ob_length : Int32) (ob_order : Nat) (ob_owner : Int32) (ob_weekday : Int32) (ob_spots : Int32) (ob_spot : Nat) (ob_deadline : Nat) (ob_opens : Nat) (ob_closes : Nat) (ob_stays : Nat) (ob_apart : Nat) (ob_minute : Nat) (ob_soonest : Nat) (ob_sums : Nat) (fob_spot : Nat → Int32) (fob_opens : Nat → Int32) (fob_closes : Nat → Int32) (fob_stays : Nat → Int32) (fob_apart : Nat → Int32) (fob_minute : Nat → Int32) (p_ob_planned : (0 : Int) ≤ ob_planned.toInt ∧ ob_planned.toInt ≤ 1) (p_ob_length : (0 : Int) ≤ ob_length.toInt ∧ ob_length.toInt ≤ 10) (p_ob_spots : (0 : Int) ≤ ob_spots.toInt ∧ ob_spots.toInt ≤ 10) (p_fob_spot : ∀ i, (0 : Int) ≤ (fob_spot i).toInt ∧ (fob_spot i).toInt ≤ 15) (p_a1 : (0 : Int) ≤ a1.toInt ∧ a1.toInt ≤ 1023) (p_a2 : (0 : Int) ≤ a2.toInt ∧ a2.toInt ≤ 9) : Met l yX4_latest (Cond.code yX4_latest cX4_latest 8 (some .int) :: wAll) ({ frames := 1, cells := 0, slots := 0, locals := 21 }) (va_Pc [.ref ob, .int a1, .int a2] (kp G y sz [(ce_X4 ob ob_planned ob_bestWorth ob_bestOver ob_length ob_order ob_owner ob_weekday ob_spots ob_spot ob_deadline ob_opens ob_closes ob_stays ob_apart ob_minute ob_soonest ob_sums), (ce_i10 y ob_spot fob_spot), (ce_i16 y ob_opens fob_opens), (ce_i16 y ob_closes fob_closes), (ce_i16 y ob_stays fob_stays), (ce_i256 y ob_apart fob_apart), (ce_i10240 y ob_minute fob_minute)])) (va_Qi (fun (r : Int32) (w : va_W) => (∃ (v_981 : Int32), ((-1 : Int) ≤ v_981.toInt ∧ v_981.toInt ≤ 2147483647) ∧ r = v_981 ∧ w = [(ce_X4 ob ob_planned ob_bestWorth ob_bestOver ob_length ob_order ob_owner ob_weekday ob_spots ob_spot ob_deadline ob_opens ob_closes ob_stays ob_apart ob_minute ob_soonest ob_sums), (ce_i10 y ob_spot fob_spot), (ce_i16 y ob_opens fob_opens), (ce_i16 y ob_closes fob_closes), (ce_i16 y ob_stays fob_stays), (ce_i256 y ob_apart fob_apart), (ce_i10240 y ob_minute fob_minute)])) (kq G (va_A [(ce_X4 ob ob_planned ob_bestWorth ob_bestOver ob_length ob_order ob_owner ob_weekday ob_spots ob_spot ob_deadline ob_opens ob_closes ob_stays ob_apart ob_minute ob_soonest ob_sums), (ce_i10 y ob_spot fob_spot), (ce_i16 y ob_opens fob_opens), (ce_i16 y ob_closes fob_closes), (ce_i16 y ob_stays fob_stays), (ce_i256 y ob_apart fob_apart), (ce_i10240 y ob_minute fob_minute)] sz)) (va_A [(ce_X4 ob ob_planned ob_bestWorth ob_bestOver ob_length ob_order ob_owner ob_weekday ob_spots ob_spot ob_deadline ob_opens ob_closes ob_stays ob_apart ob_minute ob_soonest ob_sums), (ce_i10 y ob_spot fob_spot), (ce_i16 y ob_opens fob_opens), (ce_i16 y ob_closes fob_closes), (ce_i16 y ob_stays fob_stays), (ce_i256 y ob_apart fob_apart), (ce_i10240 y ob_minute fob_minute)] sz)) 0 0 (va_A [(ce_X4 ob ob_planned ob_bestWorth ob_bestOver ob_length ob_order ob_owner ob_weekday ob_spots ob_spot ob_deadline ob_opens ob_closes ob_stays ob_apart ob_minute ob_soonest ob_sums), (ce_i10 y ob_spot fob_spot), (ce_i16 y ob_opens fob_opens), (ce_i16 y ob_closes fob_closes), (ce_i16 y ob_stays fob_stays), (ce_i256 y ob_apart fob_apart), (ce_i10240 y ob_minute fob_minute)] sz) := by
  refine Met.ofW (cc := cX4_latest) (maxL := 8) (ret := (some .int)) (by decide) rfl ?_
  intro p e s m args below meth c s₁ B hml hv
  obtain ⟨rfl, hsz, hP, hK, hD0⟩ := hv
  have hx := B.exec
  have hb := B.bytes
  have hr := B.returns
  have hw0 : ∀ w ∈ wAll, w.before _ s = true := fun w h => atoms_spec (ws := Cond.code yX4_latest cX4_latest 8 (some .int) :: wAll) B.pre w (List.mem_cons_of_mem _ h)
  have hown : s.vm.findClass RX4 = some m.cls := findClass_of_methodNamed B.named
  subst hsz
  have hD := hD0.self (sz := s.heap.size)
  generalize hAe : va_A [(ce_X4 ob ob_planned ob_bestWorth ob_bestOver ob_length ob_order ob_owner ob_weekday ob_spots ob_spot ob_deadline ob_opens ob_closes ob_stays ob_apart ob_minute ob_soonest ob_sums), (ce_i10 y ob_spot fob_spot), (ce_i16 y ob_opens fob_opens), (ce_i16 y ob_closes fob_closes), (ce_i16 y ob_stays fob_stays), (ce_i256 y ob_apart fob_apart), (ce_i10240 y ob_minute fob_minute)] s.heap.size = A at hD ⊢
  have hA : ∀ q : Nat, s.heap.size ≤ q → A q := fun q h => by rw [← hAe]; exact Or.inr h
  have hS : va_S A s.heap s.heap [] := va_S.rf
  have hP : va_P G vwCl [(ce_X4 ob ob_planned ob_bestWorth ob_bestOver ob_length ob_order ob_owner ob_weekday ob_spots ob_spot ob_deadline ob_opens ob_closes ob_stays ob_apart ob_minute ob_soonest ob_sums), (ce_i10 y ob_spot fob_spot), (ce_i16 y ob_opens fob_opens), (ce_i16 y ob_closes fob_closes), (ce_i16 y ob_stays fob_stays), (ce_i256 y ob_apart fob_apart), (ce_i10240 y ob_minute fob_minute)] s.heap := hP
  have hl := lv_entry ([.ref ob, .int a1, .int a2]) (n := 8) (Nat.le_of_ble_eq_true rfl)
  rw [lg_entry_eq]
  generalize (lg_sl ([.ref ob, .int a1, .int a2]) ++ List.replicate (8 - (lg_sl ([.ref ob, .int a1, .int a2])).length) Slot.unset).toArray = ls at hl ⊢
  have hl : lv_has ls 8 [(0, .ref ob), (1, .int a1), (2, .int a2)] := hl
  refine lv_iconst (v := (-1)) hx hb dX4_latest_0 (by decide) ?_
  refine lv_istore_n (lv' := [(3, .int (-1)), (0, .ref ob), (1, .int a1), (2, .int a2)]) hx hb dX4_latest_1 rfl hl (by decide) rfl (fun ls hl => ?_)
  refine lv_iconst (v := 0) hx hb dX4_latest_2 (by decide) ?_
  refine lv_istore (lv' := [(4, .int 0), (3, .int (-1)), (0, .ref ob), (1, .int a1), (2, .int a2)]) hx hb dX4_latest_3 hl (by decide) rfl (fun ls hl => ?_)
  refine loopX (fun n H locs ls st => ∃ (v_1403 : Int32) (v_1404 : Int32), (10 - v_1403.toInt).toNat = n ∧ ((0 : Int) ≤ v_1403.toInt ∧ v_1403.toInt ≤ 10) ∧ ((-1 : Int) ≤ v_1404.toInt ∧ v_1404.toInt ≤ 2147483647) ∧ st = [] ∧ vPD G A H [(ce_X4 ob ob_planned ob_bestWorth ob_bestOver ob_length ob_order ob_owner ob_weekday ob_spots ob_spot ob_deadline ob_opens ob_closes ob_stays ob_apart ob_minute ob_soonest ob_sums), (ce_i10 y ob_spot fob_spot), (ce_i16 y ob_opens fob_opens), (ce_i16 y ob_closes fob_closes), (ce_i16 y ob_stays fob_stays), (ce_i256 y ob_apart fob_apart), (ce_i10240 y ob_minute fob_minute)] ∧ va_S A s.heap H locs ∧ lv_has ls 8 [(4, .int v_1403), (3, .int v_1404), (0, .ref ob), (1, .int a1), (2, .int a2)]) ?_ (n := (10 - (0 : Int32).toInt).toNat) ⟨0, (-1), rfl, (bw (0) (10) (bkc (x := 0) (c := 0) (by decide)) (by decide)), (bw (-1) (2147483647) (bkc (x := (-1)) (c := -1) (by decide)) (by decide)), rfl, ⟨hP, hD⟩, hS, lv_sub hl [0, 1, 2, 3, 4] rfl⟩
  rintro n ih_1447 H locs ls st ⟨v_1403, v_1404, hn_1447, bv_1403, bv_1404, rfl, ⟨hP, hD⟩, hS, hl⟩
  refine lv_iload hx hb dX4_latest_5 (lv_at hl 0 rfl) ?_
  refine lv_aload_n hx hb dX4_latest_7 rfl (lv_at hl 2 rfl) ?_
  refine va_get (D := G) (ci := 4) (v := .int ob_spots) (C := RX4) (T := TX4) (N := 17) hx hb hw0 inA_wsX40 hown hK.1 hP 0 rfl rfl 7 (by decide) (hw0 _ m_827) (fun _ h9 => h9) rfl dX4_latest_8 ?_
  refine lv_icmp_ge (tgt := 117) hx hb dX4_latest_11 (by decide) (fun c_1448 => ?_) (fun c_1448 => ?_)
  · skip
    have nc_1448 := nb_le (10) (0) c_1448 p_ob_spots bv_1403 (by decide)
    refine lv_iload_n hx hb dX4_latest_117 rfl (lv_at hl 1 rfl) ?_
    exact W.iret (v := v_1404) hx hb hr (fun t ht hW => ⟨⟨v_1404, _, rfl, ⟨v_1404, bv_1404, rfl, rfl⟩, by rw [ht]; exact hP, hD⟩, hS.F ht⟩) hS.2.2 dX4_latest_118
  · skip
    have nc_1448 := nb_nle (9) (1) c_1448 bv_1403 p_ob_spots (by decide)
    refine lv_iload_n hx hb dX4_latest_14 rfl (lv_at hl 3 rfl) ?_
    refine lv_iload hx hb dX4_latest_15 (lv_at hl 0 rfl) ?_
    refine lv_ishr hx hb dX4_latest_17 ?_
    refine lv_topi (fun v_1449 ev_1449 => ?_)
    have bv_1449 : (0 : Int) ≤ v_1449.toInt ∧ v_1449.toInt ≤ 1023 := ba_shr ev_1449 p_a1 (by decide)
    refine lv_iconst (v := 1) hx hb dX4_latest_18 (by decide) ?_
    refine lv_iand hx hb dX4_latest_19 ?_
    refine lv_topi (fun v_1450 ev_1450 => ?_)
    have bv_1450 : (0 : Int) ≤ v_1450.toInt ∧ v_1450.toInt ≤ 1 := ba_andr ev_1450 (bkc (x := 1) (c := 1) (by decide)) (by decide)
    refine lv_iconst (v := 1) hx hb dX4_latest_20 (by decide) ?_
    refine cutW 111 (fun H locs ls st => ∃ (v_1470 : Int32), ((-1 : Int) ≤ v_1470.toInt ∧ v_1470.toInt ≤ 2147483647) ∧ st = [] ∧ vPD G A H [(ce_X4 ob ob_planned ob_bestWorth ob_bestOver ob_length ob_order ob_owner ob_weekday ob_spots ob_spot ob_deadline ob_opens ob_closes ob_stays ob_apart ob_minute ob_soonest ob_sums), (ce_i10 y ob_spot fob_spot), (ce_i16 y ob_opens fob_opens), (ce_i16 y ob_closes fob_closes), (ce_i16 y ob_stays fob_stays), (ce_i256 y ob_apart fob_apart), (ce_i10240 y ob_minute fob_minute)] ∧ va_S A s.heap H locs ∧ lv_has ls 8 [(4, .int v_1403), (3, .int v_1470), (0, .ref ob), (1, .int a1), (2, .int a2)]) ?_ (fun J_111_1470 => ?_)
    · rintro H locs ls st ⟨v_1470, bv_1470, rfl, ⟨hP, hD⟩, hS, hl⟩
      obtain ⟨v_1471, ev_1471⟩ : ∃ z : Int32, z = v_1403 + 1 := ⟨_, rfl⟩
      have qv_1471 := ba_add ev_1471 nc_1448.1 (bkc (x := 1) (c := 1) (by decide)) (by decide)
      have bv_1471 : (1 : Int) ≤ v_1471.toInt ∧ v_1471.toInt ≤ 10 := bq_add qv_1471 nc_1448.1 (bkc (x := 1) (c := 1) (by decide)) _ _ (by decide)
      have qv_1471 : v_1471.toInt = v_1403.toInt + (1) := qv_1471
      refine lv_iinc (v := v_1471) (lv' := [(4, .int v_1471), (3, .int v_1470), (0, .ref ob), (1, .int a1), (2, .int a2)]) hx hb dX4_latest_111 hl (k := 0) rfl (ev_1471.symm) (by decide) rfl (fun ls hl => ?_)
      refine lv_goto (tgt := 5) hx hb dX4_latest_114 (by decide) ?_
      exact ih_1447 _ (ml_inc (hi := 10) hn_1447 qv_1471 (by decide) ((bw (0) (10) bv_1471 (by decide))).2) _ _ _ _ ⟨v_1471, v_1470, rfl, (bw (0) (10) bv_1471 (by decide)), bv_1470, rfl, ⟨hP, hD⟩, hS, lv_sub hl [0, 1, 2, 3, 4] rfl⟩
    · skip
      refine lv_icmp_ne (tgt := 111) hx hb dX4_latest_21 (by decide) (fun c_1472 => ?_) (fun c_1472 => ?_)
      · skip
        have nc_1472 := nb_ne (0) (0) c_1472 bv_1450 (k := 1) (by decide) (by decide)
        exact J_111_1470 _ _ _ _ ⟨v_1404, bv_1404, rfl, ⟨hP, hD⟩, hS, lv_sub hl [0, 1, 2, 3, 4] rfl⟩
      · skip
        have nc_1472 := nb_eq (1) (1) c_1472 bv_1450 (bkc (x := 1) (c := 1) (by decide)) (by decide)
        refine lv_aload_n hx hb dX4_latest_24 rfl (lv_at hl 2 rfl) ?_
        refine va_get (D := G) (ci := 4) (v := .ref ob_spot) (C := RX4) (T := TX4) (N := 17) hx hb hw0 inA_wsX40 hown hK.1 hP 0 rfl rfl 8 (by decide) (hw0 _ m_829) (fun _ h9 => h9) rfl dX4_latest_25 ?_
        refine lv_iload hx hb dX4_latest_28 (lv_at hl 0 rfl) ?_
        refine va_iald hx hb hK.1 hP 1 1 rfl rfl (vi nc_1448.1 (by decide)) dX4_latest_30 ?_
        refine lv_topi (fun v_1473 ev_1473 => ?_)
        have bv_1473 : (0 : Int) ≤ v_1473.toInt ∧ v_1473.toInt ≤ 15 := rd_b ev_1473 p_fob_spot
        refine lv_istore (lv' := [(5, .int v_1473), (4, .int v_1403), (3, .int v_1404), (0, .ref ob), (1, .int a1), (2, .int a2)]) hx hb dX4_latest_31 hl (by decide) rfl (fun ls hl => ?_)
        refine lv_aload_n hx hb dX4_latest_33 rfl (lv_at hl 3 rfl) ?_
        refine va_get (D := G) (ci := 4) (v := .ref ob_minute) (C := RX4) (T := TX4) (N := 17) hx hb hw0 inA_wsX40 hown hK.1 hP 0 rfl rfl 14 (by decide) (hw0 _ m_828) (fun _ h9 => h9) rfl dX4_latest_34 ?_
        refine lv_iload_n hx hb dX4_latest_37 rfl (lv_at hl 4 rfl) ?_
        refine lv_iconst (v := 1) hx hb dX4_latest_38 (by decide) ?_
        refine lv_iload hx hb dX4_latest_39 (lv_at hl 1 rfl) ?_
        refine lv_ishl hx hb dX4_latest_41 ?_
        refine lv_topi (fun v_1474 ev_1474 => ?_)
        have bv_1474 : (1 : Int) ≤ v_1474.toInt ∧ v_1474.toInt ≤ 512 := ba_shl 0 9 ev_1474 nc_1448.1 (by decide)
        refine lv_ixor hx hb dX4_latest_42 ?_
        refine lv_topi (fun v_1475 ev_1475 => ?_)
        have bv_1475 : (0 : Int) ≤ v_1475.toInt ∧ v_1475.toInt ≤ 1023 := ba_xor 10 ev_1475 p_a1 bv_1474 (by decide)
        refine lv_bipush (v := 10) hx hb dX4_latest_43 (by decide) ?_
        refine lv_imul hx hb dX4_latest_45 ?_
        refine lv_topi (fun v_1476 ev_1476 => ?_)
        have qv_1476 := ba_mul 10 ev_1476 bv_1475 (by decide) (by decide) (by decide)
        have bv_1476 : (0 : Int) ≤ v_1476.toInt ∧ v_1476.toInt ≤ 10230 := qv_1476.2
        refine lv_iload hx hb dX4_latest_46 (lv_at hl 1 rfl) ?_
        refine lv_iadd hx hb dX4_latest_48 ?_
        refine lv_topi (fun v_1477 ev_1477 => ?_)
        have qv_1477 := ba_add ev_1477 bv_1476 nc_1448.1 (by decide)
        have bv_1477 : (0 : Int) ≤ v_1477.toInt ∧ v_1477.toInt ≤ 10239 := bq_add qv_1477 bv_1476 nc_1448.1 _ _ (by decide)
        refine va_iald hx hb hK.1 hP 6 1 rfl rfl (vi bv_1477 (by decide)) dX4_latest_49 ?_
        refine lv_topi (fun v_1478 ev_1478 => ?_)
        refine lv_istore (lv' := [(6, .int v_1478), (5, .int v_1473), (4, .int v_1403), (3, .int v_1404), (0, .ref ob), (1, .int a1), (2, .int a2)]) hx hb dX4_latest_50 hl (by decide) rfl (fun ls hl => ?_)
        refine lv_iload hx hb dX4_latest_52 (lv_at hl 0 rfl) ?_
        refine lv_aload_n hx hb dX4_latest_54 rfl (lv_at hl 4 rfl) ?_
        refine va_get (D := G) (ci := 4) (v := .ref ob_closes) (C := RX4) (T := TX4) (N := 17) hx hb hw0 inA_wsX40 hown hK.1 hP 0 rfl rfl 11 (by decide) (hw0 _ m_898) (fun _ h9 => h9) rfl dX4_latest_55 ?_
        refine lv_iload hx hb dX4_latest_58 (lv_at hl 1 rfl) ?_
        refine va_iald hx hb hK.1 hP 3 1 rfl rfl (vi bv_1473 (by decide)) dX4_latest_60 ?_
        refine lv_topi (fun v_1479 ev_1479 => ?_)
        refine va_mmin (own := RX4) hx hb (by rw [hml]; exact hl.1.symm) hown (hw0 _ m_824) (hw0 _ m_282) (hw0 _ m_283) (hw0 _ m_284) (Nat.le_of_ble_eq_true rfl) (Nat.le_of_ble_eq_true rfl) (Nat.zero_le _) (Nat.zero_le _) dX4_latest_61 ?_
        refine lv_topi (fun v_1480 ev_1480 => ?_)
        refine lv_aload_n hx hb dX4_latest_64 rfl (lv_at hl 4 rfl) ?_
        refine va_get (D := G) (ci := 4) (v := .ref ob_stays) (C := RX4) (T := TX4) (N := 17) hx hb hw0 inA_wsX40 hown hK.1 hP 0 rfl rfl 12 (by decide) (hw0 _ m_899) (fun _ h9 => h9) rfl dX4_latest_65 ?_
        refine lv_iload hx hb dX4_latest_68 (lv_at hl 1 rfl) ?_
        refine va_iald hx hb hK.1 hP 4 1 rfl rfl (vi bv_1473 (by decide)) dX4_latest_70 ?_
        refine lv_topi (fun v_1481 ev_1481 => ?_)
        refine lv_isub hx hb dX4_latest_71 ?_
        refine lv_topi (fun v_1482 ev_1482 => ?_)
        refine lv_istore (lv' := [(7, .int v_1482), (6, .int v_1478), (5, .int v_1473), (4, .int v_1403), (3, .int v_1404), (0, .ref ob), (1, .int a1), (2, .int a2)]) hx hb dX4_latest_72 hl (by decide) rfl (fun ls hl => ?_)
        refine lv_iload hx hb dX4_latest_74 (lv_at hl 0 rfl) ?_
        refine lv_aload_n hx hb dX4_latest_76 rfl (lv_at hl 5 rfl) ?_
        refine va_get (D := G) (ci := 4) (v := .ref ob_opens) (C := RX4) (T := TX4) (N := 17) hx hb hw0 inA_wsX40 hown hK.1 hP 0 rfl rfl 10 (by decide) (hw0 _ m_897) (fun _ h9 => h9) rfl dX4_latest_77 ?_
        refine lv_iload hx hb dX4_latest_80 (lv_at hl 2 rfl) ?_
        refine va_iald hx hb hK.1 hP 2 1 rfl rfl (vi bv_1473 (by decide)) dX4_latest_82 ?_
        refine lv_topi (fun v_1483 ev_1483 => ?_)
        refine lv_icmp_lt (tgt := 111) hx hb dX4_latest_83 (by decide) (fun c_1484 => ?_) (fun c_1484 => ?_)
        · skip
          have nc_1484 := nb_lt (2147483646) (-2147483647) c_1484 (btop v_1482) (btop v_1483) (by decide)
          exact J_111_1470 _ _ _ _ ⟨v_1404, bv_1404, rfl, ⟨hP, hD⟩, hS, lv_sub hl [3, 4, 5, 6, 7] rfl⟩
        · skip
          have nc_1484 := nb_nlt (2147483647) (-2147483648) c_1484 (btop v_1483) (btop v_1482) (by decide)
          refine lv_iload_n hx hb dX4_latest_86 rfl (lv_at hl 4 rfl) ?_
          refine lv_iload hx hb dX4_latest_87 (lv_at hl 0 rfl) ?_
          refine lv_aload_n hx hb dX4_latest_89 rfl (lv_at hl 5 rfl) ?_
          refine va_get (D := G) (ci := 4) (v := .ref ob_apart) (C := RX4) (T := TX4) (N := 17) hx hb hw0 inA_wsX40 hown hK.1 hP 0 rfl rfl 13 (by decide) (hw0 _ m_826) (fun _ h9 => h9) rfl dX4_latest_90 ?_
          refine lv_aload_n hx hb dX4_latest_93 rfl (lv_at hl 5 rfl) ?_
          refine va_get (D := G) (ci := 4) (v := .ref ob_spot) (C := RX4) (T := TX4) (N := 17) hx hb hw0 inA_wsX40 hown hK.1 hP 0 rfl rfl 8 (by decide) (hw0 _ m_829) (fun _ h9 => h9) rfl dX4_latest_94 ?_
          refine lv_iload_n hx hb dX4_latest_97 rfl (lv_at hl 7 rfl) ?_
          refine va_iald hx hb hK.1 hP 1 1 rfl rfl (vi p_a2 (by decide)) dX4_latest_98 ?_
          refine lv_topi (fun v_1485 ev_1485 => ?_)
          have bv_1485 : (0 : Int) ≤ v_1485.toInt ∧ v_1485.toInt ≤ 15 := rd_b ev_1485 p_fob_spot
          refine lv_bipush (v := 16) hx hb dX4_latest_99 (by decide) ?_
          refine lv_imul hx hb dX4_latest_101 ?_
          refine lv_topi (fun v_1486 ev_1486 => ?_)
          have qv_1486 := ba_mul 16 ev_1486 bv_1485 (by decide) (by decide) (by decide)
          have bv_1486 : (0 : Int) ≤ v_1486.toInt ∧ v_1486.toInt ≤ 240 := qv_1486.2
          refine lv_iload hx hb dX4_latest_102 (lv_at hl 2 rfl) ?_
          refine lv_iadd hx hb dX4_latest_104 ?_
          refine lv_topi (fun v_1487 ev_1487 => ?_)
          have qv_1487 := ba_add ev_1487 bv_1486 bv_1473 (by decide)
          have bv_1487 : (0 : Int) ≤ v_1487.toInt ∧ v_1487.toInt ≤ 255 := bq_add qv_1487 bv_1486 bv_1473 _ _ (by decide)
          refine va_iald hx hb hK.1 hP 5 1 rfl rfl (vi bv_1487 (by decide)) dX4_latest_105 ?_
          refine lv_topi (fun v_1488 ev_1488 => ?_)
          refine lv_isub hx hb dX4_latest_106 ?_
          refine lv_topi (fun v_1489 ev_1489 => ?_)
          refine va_mmax (own := RX4) hx hb (by rw [hml]; exact hl.1.symm) hown (hw0 _ m_906) (hw0 _ m_675) (hw0 _ m_283) (hw0 _ m_676) (Nat.le_of_ble_eq_true rfl) (Nat.le_of_ble_eq_true rfl) (Nat.zero_le _) (Nat.zero_le _) dX4_latest_107 ?_
          refine lv_topi (fun v_1490 ev_1490 => ?_)
          have bv_1490 : (-1 : Int) ≤ v_1490.toInt ∧ v_1490.toInt ≤ 2147483647 := bm_max ev_1490 bv_1404 (btop v_1489) _ _ (by decide)
          refine lv_istore_n (lv' := [(3, .int v_1490), (7, .int v_1482), (6, .int v_1478), (5, .int v_1473), (4, .int v_1403), (0, .ref ob), (1, .int a1), (2, .int a2)]) hx hb dX4_latest_110 rfl hl (by decide) rfl (fun ls hl => ?_)
          exact J_111_1470 _ _ _ _ ⟨v_1490, bv_1490, rfl, ⟨hP, hD⟩, hS, lv_sub hl [4, 0, 5, 6, 7] rfl⟩

set_option maxHeartbeats 4000000 in
set_option maxRecDepth 100000 in
theorem sX4_reckonLatest (l : Launch) (G : va_G) (y : Nat → ClassId) (sz : Nat) (ob : Nat) (a1 : Int32) (a2 : Int32) (ob_planned : Int32) (ob_bestWorth : Int32) (ob_bestOver : Int32) (ob_length : Int32) (ob_order : Nat) (ob_owner : Int32) (ob_weekday : Int32) (ob_spots : Int32) (ob_spot : Nat) (ob_deadline : Nat) (ob_opens : Nat) (ob_closes : Nat) (ob_stays : Nat) (ob_apart : Nat) (ob_minute : Nat) (ob_soonest : Nat) (ob_sums : Nat) (fob_spot : Nat → Int32) (fob_opens : Nat → Int32) (fob_closes : Nat → Int32) (fob_stays : Nat → Int32) (fob_apart : Nat → Int32) (fob_minute : Nat → Int32) (p_ob_planned : (0 : Int) ≤ ob_planned.toInt ∧ ob_planned.toInt ≤ 1) (p_ob_length : (0 : Int) ≤ ob_length.toInt ∧ ob_length.toInt ≤ 10) (p_ob_spots : (0 : Int) ≤ ob_spots.toInt ∧ ob_spots.toInt ≤ 10) (p_fob_spot : ∀ i, (0 : Int) ≤ (fob_spot i).toInt ∧ (fob_spot i).toInt ≤ 15) (p_a1 : (0 : Int) ≤ a1.toInt ∧ a1.toInt ≤ 1023) : Met l yX4_reckonLatest (Cond.code yX4_reckonLatest cX4_reckonLatest 5 none :: wAll) ({ frames := 2, cells := 0, slots := 0, locals := 48 }) (va_Pc [.ref ob, .int a1, .int a2] (kp G y sz [(ce_X4 ob ob_planned ob_bestWorth ob_bestOver ob_length ob_order ob_owner ob_weekday ob_spots ob_spot ob_deadline ob_opens ob_closes ob_stays ob_apart ob_minute ob_soonest ob_sums), (ce_i10 y ob_spot fob_spot), (ce_i16 y ob_opens fob_opens), (ce_i16 y ob_closes fob_closes), (ce_i16 y ob_stays fob_stays), (ce_i256 y ob_apart fob_apart), (ce_i10240 y ob_minute fob_minute)])) (va_Qv (fun (w : va_W) => (∃ (f_16757 : Nat → Int32), w = [(ce_X4 ob ob_planned ob_bestWorth ob_bestOver ob_length ob_order ob_owner ob_weekday ob_spots ob_spot ob_deadline ob_opens ob_closes ob_stays ob_apart ob_minute ob_soonest ob_sums), (ce_i10 y ob_spot fob_spot), (ce_i16 y ob_opens fob_opens), (ce_i16 y ob_closes fob_closes), (ce_i16 y ob_stays fob_stays), (ce_i256 y ob_apart fob_apart), (ce_i10240 y ob_minute f_16757)])) (kq G (va_A [(ce_X4 ob ob_planned ob_bestWorth ob_bestOver ob_length ob_order ob_owner ob_weekday ob_spots ob_spot ob_deadline ob_opens ob_closes ob_stays ob_apart ob_minute ob_soonest ob_sums), (ce_i10 y ob_spot fob_spot), (ce_i16 y ob_opens fob_opens), (ce_i16 y ob_closes fob_closes), (ce_i16 y ob_stays fob_stays), (ce_i256 y ob_apart fob_apart), (ce_i10240 y ob_minute fob_minute)] sz)) (va_A [(ce_X4 ob ob_planned ob_bestWorth ob_bestOver ob_length ob_order ob_owner ob_weekday ob_spots ob_spot ob_deadline ob_opens ob_closes ob_stays ob_apart ob_minute ob_soonest ob_sums), (ce_i10 y ob_spot fob_spot), (ce_i16 y ob_opens fob_opens), (ce_i16 y ob_closes fob_closes), (ce_i16 y ob_stays fob_stays), (ce_i256 y ob_apart fob_apart), (ce_i10240 y ob_minute fob_minute)] sz)) 0 0 (va_A [(ce_X4 ob ob_planned ob_bestWorth ob_bestOver ob_length ob_order ob_owner ob_weekday ob_spots ob_spot ob_deadline ob_opens ob_closes ob_stays ob_apart ob_minute ob_soonest ob_sums), (ce_i10 y ob_spot fob_spot), (ce_i16 y ob_opens fob_opens), (ce_i16 y ob_closes fob_closes), (ce_i16 y ob_stays fob_stays), (ce_i256 y ob_apart fob_apart), (ce_i10240 y ob_minute fob_minute)] sz) := by
  refine Met.ofW (cc := cX4_reckonLatest) (maxL := 5) (ret := none) (by decide) rfl ?_
  intro p e s m args below meth c s₁ B hml hv
  obtain ⟨rfl, hsz, hP, hK, hD0⟩ := hv
  have hx := B.exec
  have hb := B.bytes
  have hr := B.returns
  have hw0 : ∀ w ∈ wAll, w.before _ s = true := fun w h => atoms_spec (ws := Cond.code yX4_reckonLatest cX4_reckonLatest 5 none :: wAll) B.pre w (List.mem_cons_of_mem _ h)
  have hown : s.vm.findClass RX4 = some m.cls := findClass_of_methodNamed B.named
  subst hsz
  have hD := hD0.self (sz := s.heap.size)
  generalize hAe : va_A [(ce_X4 ob ob_planned ob_bestWorth ob_bestOver ob_length ob_order ob_owner ob_weekday ob_spots ob_spot ob_deadline ob_opens ob_closes ob_stays ob_apart ob_minute ob_soonest ob_sums), (ce_i10 y ob_spot fob_spot), (ce_i16 y ob_opens fob_opens), (ce_i16 y ob_closes fob_closes), (ce_i16 y ob_stays fob_stays), (ce_i256 y ob_apart fob_apart), (ce_i10240 y ob_minute fob_minute)] s.heap.size = A at hD ⊢
  have hA : ∀ q : Nat, s.heap.size ≤ q → A q := fun q h => by rw [← hAe]; exact Or.inr h
  have hS : va_S A s.heap s.heap [] := va_S.rf
  have hP : va_P G vwCl [(ce_X4 ob ob_planned ob_bestWorth ob_bestOver ob_length ob_order ob_owner ob_weekday ob_spots ob_spot ob_deadline ob_opens ob_closes ob_stays ob_apart ob_minute ob_soonest ob_sums), (ce_i10 y ob_spot fob_spot), (ce_i16 y ob_opens fob_opens), (ce_i16 y ob_closes fob_closes), (ce_i16 y ob_stays fob_stays), (ce_i256 y ob_apart fob_apart), (ce_i10240 y ob_minute fob_minute)] s.heap := hP
  have hl := lv_entry ([.ref ob, .int a1, .int a2]) (n := 5) (Nat.le_of_ble_eq_true rfl)
  rw [lg_entry_eq]
  generalize (lg_sl ([.ref ob, .int a1, .int a2]) ++ List.replicate (5 - (lg_sl ([.ref ob, .int a1, .int a2])).length) Slot.unset).toArray = ls at hl ⊢
  have hl : lv_has ls 5 [(0, .ref ob), (1, .int a1), (2, .int a2)] := hl
  refine lv_iconst (v := 0) hx hb dX4_reckonLatest_0 (by decide) ?_
  refine lv_istore_n (lv' := [(3, .int 0), (0, .ref ob), (1, .int a1), (2, .int a2)]) hx hb dX4_reckonLatest_1 rfl hl (by decide) rfl (fun ls hl => ?_)
  refine loopX (fun n H locs ls st => ∃ (v_8143 : Int32) (f_8144 : Nat → Int32), (1024 - v_8143.toInt).toNat = n ∧ ((0 : Int) ≤ v_8143.toInt ∧ v_8143.toInt ≤ 1024) ∧ st = [] ∧ vPD G A H [(ce_X4 ob ob_planned ob_bestWorth ob_bestOver ob_length ob_order ob_owner ob_weekday ob_spots ob_spot ob_deadline ob_opens ob_closes ob_stays ob_apart ob_minute ob_soonest ob_sums), (ce_i10 y ob_spot fob_spot), (ce_i16 y ob_opens fob_opens), (ce_i16 y ob_closes fob_closes), (ce_i16 y ob_stays fob_stays), (ce_i256 y ob_apart fob_apart), (ce_i10240 y ob_minute f_8144)] ∧ va_S A s.heap H locs ∧ lv_has ls 5 [(3, .int v_8143), (0, .ref ob), (1, .int a1), (2, .int a2)]) ?_ (n := (1024 - (0 : Int32).toInt).toNat) ⟨0, fob_minute, rfl, (bw (0) (1024) (bkc (x := 0) (c := 0) (by decide)) (by decide)), rfl, ⟨hP, hD⟩, hS, lv_sub hl [0, 1, 2, 3] rfl⟩
  rintro n ih_8761 H locs ls st ⟨v_8143, f_8144, hn_8761, bv_8143, rfl, ⟨hP, hD⟩, hS, hl⟩
  refine lv_iload_n hx hb dX4_reckonLatest_2 rfl (lv_at hl 0 rfl) ?_
  refine lv_iload_n hx hb dX4_reckonLatest_3 rfl (lv_at hl 2 rfl) ?_
  refine lv_icmp_gt (tgt := 80) hx hb dX4_reckonLatest_4 (by decide) (fun c_8762 => ?_) (fun c_8762 => ?_)
  · skip
    have nc_8762 := nb_lt (1023) (1) c_8762 p_a1 bv_8143 (by decide)
    exact W.vret hx hb hr (fun t ht hW => ⟨⟨_, rfl, ⟨f_8144, rfl⟩, by rw [ht]; exact hP, hD⟩, hS.F ht⟩) hS.2.2 dX4_reckonLatest_80
  · skip
    have nc_8762 := nb_nlt (1023) (0) c_8762 bv_8143 p_a1 (by decide)
    refine lv_iload_n hx hb dX4_reckonLatest_7 rfl (lv_at hl 0 rfl) ?_
    refine lv_iload_n hx hb dX4_reckonLatest_8 rfl (lv_at hl 2 rfl) ?_
    refine lv_iconst (v := (-1)) hx hb dX4_reckonLatest_9 (by decide) ?_
    refine lv_ixor hx hb dX4_reckonLatest_10 ?_
    refine lv_topi (fun v_8763 ev_8763 => ?_)
    refine lv_iand hx hb dX4_reckonLatest_11 ?_
    refine lv_topi (fun v_8764 ev_8764 => ?_)
    have bv_8764 : (0 : Int) ≤ v_8764.toInt ∧ v_8764.toInt ≤ 1023 := ba_andl ev_8764 nc_8762.1 (by decide)
    refine cutW 74 (fun H locs ls st => ∃ (f_9071 : Nat → Int32), st = [] ∧ vPD G A H [(ce_X4 ob ob_planned ob_bestWorth ob_bestOver ob_length ob_order ob_owner ob_weekday ob_spots ob_spot ob_deadline ob_opens ob_closes ob_stays ob_apart ob_minute ob_soonest ob_sums), (ce_i10 y ob_spot fob_spot), (ce_i16 y ob_opens fob_opens), (ce_i16 y ob_closes fob_closes), (ce_i16 y ob_stays fob_stays), (ce_i256 y ob_apart fob_apart), (ce_i10240 y ob_minute f_9071)] ∧ va_S A s.heap H locs ∧ lv_has ls 5 [(3, .int v_8143), (0, .ref ob), (1, .int a1), (2, .int a2)]) ?_ (fun J_74_9071 => ?_)
    · rintro H locs ls st ⟨f_9071, rfl, ⟨hP, hD⟩, hS, hl⟩
      obtain ⟨v_9072, ev_9072⟩ : ∃ z : Int32, z = v_8143 + 1 := ⟨_, rfl⟩
      have qv_9072 := ba_add ev_9072 nc_8762.1 (bkc (x := 1) (c := 1) (by decide)) (by decide)
      have bv_9072 : (1 : Int) ≤ v_9072.toInt ∧ v_9072.toInt ≤ 1024 := bq_add qv_9072 nc_8762.1 (bkc (x := 1) (c := 1) (by decide)) _ _ (by decide)
      have qv_9072 : v_9072.toInt = v_8143.toInt + (1) := qv_9072
      refine lv_iinc (v := v_9072) (lv' := [(3, .int v_9072), (0, .ref ob), (1, .int a1), (2, .int a2)]) hx hb dX4_reckonLatest_74 hl (k := 0) rfl (ev_9072.symm) (by decide) rfl (fun ls hl => ?_)
      refine lv_goto (tgt := 2) hx hb dX4_reckonLatest_77 (by decide) ?_
      exact ih_8761 _ (ml_inc (hi := 1024) hn_8761 qv_9072 (by decide) ((bw (0) (1024) bv_9072 (by decide))).2) _ _ _ _ ⟨v_9072, f_9071, rfl, (bw (0) (1024) bv_9072 (by decide)), rfl, ⟨hP, hD⟩, hS, lv_sub hl [0, 1, 2, 3] rfl⟩
    · skip
      refine lv_if_ne (tgt := 74) hx hb dX4_reckonLatest_12 (by decide) (fun c_9073 => ?_) (fun c_9073 => ?_)
      · skip
        have nc_9073 := nb_ne (1) (1023) c_9073 bv_8764 (k := 0) (by decide) (by decide)
        exact J_74_9071 _ _ _ _ ⟨f_8144, rfl, ⟨hP, hD⟩, hS, lv_sub hl [0, 1, 2, 3] rfl⟩
      · skip
        have nc_9073 := nb_eq (0) (0) c_9073 bv_8764 (bkc (x := 0) (c := 0) (by decide)) (by decide)
        refine lv_iconst (v := 0) hx hb dX4_reckonLatest_15 (by decide) ?_
        refine lv_istore (lv' := [(4, .int 0), (3, .int v_8143), (0, .ref ob), (1, .int a1), (2, .int a2)]) hx hb dX4_reckonLatest_16 hl (by decide) rfl (fun ls hl => ?_)
        refine loopX (fun n H locs ls st => ∃ (v_9319 : Int32) (f_9320 : Nat → Int32), (10 - v_9319.toInt).toNat = n ∧ ((0 : Int) ≤ v_9319.toInt ∧ v_9319.toInt ≤ 10) ∧ st = [] ∧ vPD G A H [(ce_X4 ob ob_planned ob_bestWorth ob_bestOver ob_length ob_order ob_owner ob_weekday ob_spots ob_spot ob_deadline ob_opens ob_closes ob_stays ob_apart ob_minute ob_soonest ob_sums), (ce_i10 y ob_spot fob_spot), (ce_i16 y ob_opens fob_opens), (ce_i16 y ob_closes fob_closes), (ce_i16 y ob_stays fob_stays), (ce_i256 y ob_apart fob_apart), (ce_i10240 y ob_minute f_9320)] ∧ va_S A s.heap H locs ∧ lv_has ls 5 [(4, .int v_9319), (3, .int v_8143), (0, .ref ob), (1, .int a1), (2, .int a2)]) ?_ (n := (10 - (0 : Int32).toInt).toNat) ⟨0, f_8144, rfl, (bw (0) (10) (bkc (x := 0) (c := 0) (by decide)) (by decide)), rfl, ⟨hP, hD⟩, hS, lv_sub hl [0, 1, 2, 3, 4] rfl⟩
        rintro n ih_9349 H locs ls st ⟨v_9319, f_9320, hn_9349, bv_9319, rfl, ⟨hP, hD⟩, hS, hl⟩
        refine lv_iload hx hb dX4_reckonLatest_18 (lv_at hl 0 rfl) ?_
        refine lv_aload_n hx hb dX4_reckonLatest_20 rfl (lv_at hl 2 rfl) ?_
        refine va_get (D := G) (ci := 4) (v := .int ob_spots) (C := RX4) (T := TX4) (N := 17) hx hb hw0 inA_wsX40 hown hK.1 hP 0 rfl rfl 7 (by decide) (hw0 _ m_827) (fun _ h9 => h9) rfl dX4_reckonLatest_21 ?_
        refine lv_icmp_ge (tgt := 74) hx hb dX4_reckonLatest_24 (by decide) (fun c_9350 => ?_) (fun c_9350 => ?_)
        · skip
          have nc_9350 := nb_le (10) (0) c_9350 p_ob_spots bv_9319 (by decide)
          exact J_74_9071 _ _ _ _ ⟨f_9320, rfl, ⟨hP, hD⟩, hS, lv_sub hl [1, 2, 3, 4] rfl⟩
        · skip
          have nc_9350 := nb_nle (9) (1) c_9350 bv_9319 p_ob_spots (by decide)
          refine lv_iload_n hx hb dX4_reckonLatest_27 rfl (lv_at hl 3 rfl) ?_
          refine lv_iload_n hx hb dX4_reckonLatest_28 rfl (lv_at hl 1 rfl) ?_
          refine lv_iconst (v := (-1)) hx hb dX4_reckonLatest_29 (by decide) ?_
          refine lv_ixor hx hb dX4_reckonLatest_30 ?_
          refine lv_topi (fun v_9351 ev_9351 => ?_)
          refine lv_iand hx hb dX4_reckonLatest_31 ?_
          refine lv_topi (fun v_9352 ev_9352 => ?_)
          have bv_9352 : (0 : Int) ≤ v_9352.toInt ∧ v_9352.toInt ≤ 1023 := ba_andl ev_9352 nc_8762.2.1 (by decide)
          refine lv_iload hx hb dX4_reckonLatest_32 (lv_at hl 0 rfl) ?_
          refine lv_ishr hx hb dX4_reckonLatest_34 ?_
          refine lv_topi (fun v_9353 ev_9353 => ?_)
          have bv_9353 : (0 : Int) ≤ v_9353.toInt ∧ v_9353.toInt ≤ 1023 := ba_shr ev_9353 bv_9352 (by decide)
          refine lv_iconst (v := 1) hx hb dX4_reckonLatest_35 (by decide) ?_
          refine lv_iand hx hb dX4_reckonLatest_36 ?_
          refine lv_topi (fun v_9354 ev_9354 => ?_)
          have bv_9354 : (0 : Int) ≤ v_9354.toInt ∧ v_9354.toInt ≤ 1 := ba_andr ev_9354 (bkc (x := 1) (c := 1) (by decide)) (by decide)
          refine lv_iconst (v := 1) hx hb dX4_reckonLatest_37 (by decide) ?_
          refine cutW 68 (fun H locs ls st => ∃ (f_9366 : Nat → Int32), st = [] ∧ vPD G A H [(ce_X4 ob ob_planned ob_bestWorth ob_bestOver ob_length ob_order ob_owner ob_weekday ob_spots ob_spot ob_deadline ob_opens ob_closes ob_stays ob_apart ob_minute ob_soonest ob_sums), (ce_i10 y ob_spot fob_spot), (ce_i16 y ob_opens fob_opens), (ce_i16 y ob_closes fob_closes), (ce_i16 y ob_stays fob_stays), (ce_i256 y ob_apart fob_apart), (ce_i10240 y ob_minute f_9366)] ∧ va_S A s.heap H locs ∧ lv_has ls 5 [(4, .int v_9319), (3, .int v_8143), (0, .ref ob), (1, .int a1), (2, .int a2)]) ?_ (fun J_68_9366 => ?_)
          · rintro H locs ls st ⟨f_9366, rfl, ⟨hP, hD⟩, hS, hl⟩
            obtain ⟨v_9367, ev_9367⟩ : ∃ z : Int32, z = v_9319 + 1 := ⟨_, rfl⟩
            have qv_9367 := ba_add ev_9367 nc_9350.1 (bkc (x := 1) (c := 1) (by decide)) (by decide)
            have bv_9367 : (1 : Int) ≤ v_9367.toInt ∧ v_9367.toInt ≤ 10 := bq_add qv_9367 nc_9350.1 (bkc (x := 1) (c := 1) (by decide)) _ _ (by decide)
            have qv_9367 : v_9367.toInt = v_9319.toInt + (1) := qv_9367
            refine lv_iinc (v := v_9367) (lv' := [(4, .int v_9367), (3, .int v_8143), (0, .ref ob), (1, .int a1), (2, .int a2)]) hx hb dX4_reckonLatest_68 hl (k := 0) rfl (ev_9367.symm) (by decide) rfl (fun ls hl => ?_)
            refine lv_goto (tgt := 18) hx hb dX4_reckonLatest_71 (by decide) ?_
            exact ih_9349 _ (ml_inc (hi := 10) hn_9349 qv_9367 (by decide) ((bw (0) (10) bv_9367 (by decide))).2) _ _ _ _ ⟨v_9367, f_9366, rfl, (bw (0) (10) bv_9367 (by decide)), rfl, ⟨hP, hD⟩, hS, lv_sub hl [0, 1, 2, 3, 4] rfl⟩
          · skip
            refine lv_icmp_ne (tgt := 68) hx hb dX4_reckonLatest_38 (by decide) (fun c_9368 => ?_) (fun c_9368 => ?_)
            · skip
              have nc_9368 := nb_ne (0) (0) c_9368 bv_9354 (k := 1) (by decide) (by decide)
              exact J_68_9366 _ _ _ _ ⟨f_9320, rfl, ⟨hP, hD⟩, hS, lv_sub hl [0, 1, 2, 3, 4] rfl⟩
            · skip
              have nc_9368 := nb_eq (1) (1) c_9368 bv_9354 (bkc (x := 1) (c := 1) (by decide)) (by decide)
              refine lv_aload_n hx hb dX4_reckonLatest_41 rfl (lv_at hl 2 rfl) ?_
              refine va_get (D := G) (ci := 4) (v := .ref ob_minute) (C := RX4) (T := TX4) (N := 17) hx hb hw0 inA_wsX40 hown hK.1 hP 0 rfl rfl 14 (by decide) (hw0 _ m_828) (fun _ h9 => h9) rfl dX4_reckonLatest_42 ?_
              refine lv_iload_n hx hb dX4_reckonLatest_45 rfl (lv_at hl 1 rfl) ?_
              refine lv_bipush (v := 10) hx hb dX4_reckonLatest_46 (by decide) ?_
              refine lv_imul hx hb dX4_reckonLatest_48 ?_
              refine lv_topi (fun v_9369 ev_9369 => ?_)
              have qv_9369 := ba_mul 10 ev_9369 nc_8762.1 (by decide) (by decide) (by decide)
              have bv_9369 : (0 : Int) ≤ v_9369.toInt ∧ v_9369.toInt ≤ 10230 := qv_9369.2
              refine lv_iload hx hb dX4_reckonLatest_49 (lv_at hl 0 rfl) ?_
              refine lv_iadd hx hb dX4_reckonLatest_51 ?_
              refine lv_topi (fun v_9370 ev_9370 => ?_)
              have qv_9370 := ba_add ev_9370 bv_9369 nc_9350.1 (by decide)
              have bv_9370 : (0 : Int) ≤ v_9370.toInt ∧ v_9370.toInt ≤ 10239 := bq_add qv_9370 bv_9369 nc_9350.1 _ _ (by decide)
              refine lv_iload_n hx hb dX4_reckonLatest_52 rfl (lv_at hl 1 rfl) ?_
              refine cutW 67 (fun H locs ls st => ∃ (v_9374 : Int32), st = [.int v_9374, .int v_9370, .ref ob_minute] ∧ vPD G A H [(ce_X4 ob ob_planned ob_bestWorth ob_bestOver ob_length ob_order ob_owner ob_weekday ob_spots ob_spot ob_deadline ob_opens ob_closes ob_stays ob_apart ob_minute ob_soonest ob_sums), (ce_i10 y ob_spot fob_spot), (ce_i16 y ob_opens fob_opens), (ce_i16 y ob_closes fob_closes), (ce_i16 y ob_stays fob_stays), (ce_i256 y ob_apart fob_apart), (ce_i10240 y ob_minute f_9320)] ∧ va_S A s.heap H locs ∧ lv_has ls 5 [(4, .int v_9319), (3, .int v_8143), (0, .ref ob), (1, .int a1), (2, .int a2)]) ?_ (fun J_67_9374 => ?_)
              · rintro H locs ls st ⟨v_9374, rfl, ⟨hP, hD⟩, hS, hl⟩
                refine va_iast hx hb hK.1 hP hD hS 6 1 rfl rfl (vi bv_9370 (by decide)) dX4_reckonLatest_67 (fun H locs hP hD hS => ?_)
                generalize hf_9375 : (upd f_9320 (v_9370 : Int32).toNatClampNeg v_9374) = f_9375 at hP hD
                obtain ⟨hP, hD⟩ : vPD G A H [(ce_X4 ob ob_planned ob_bestWorth ob_bestOver ob_length ob_order ob_owner ob_weekday ob_spots ob_spot ob_deadline ob_opens ob_closes ob_stays ob_apart ob_minute ob_soonest ob_sums), (ce_i10 y ob_spot fob_spot), (ce_i16 y ob_opens fob_opens), (ce_i16 y ob_closes fob_closes), (ce_i16 y ob_stays fob_stays), (ce_i256 y ob_apart fob_apart), (ce_i10240 y ob_minute f_9375)] := ⟨hP, hD⟩
                exact J_68_9366 _ _ _ _ ⟨f_9375, rfl, ⟨hP, hD⟩, hS, lv_sub hl [0, 1, 2, 3, 4] rfl⟩
              · skip
                refine lv_if_ne (tgt := 60) hx hb dX4_reckonLatest_53 (by decide) (fun c_9376 => ?_) (fun c_9376 => ?_)
                · skip
                  have nc_9376 := nb_ne (1) (1023) c_9376 nc_8762.1 (k := 0) (by decide) (by decide)
                  refine lv_aload_n hx hb dX4_reckonLatest_60 rfl (lv_at hl 2 rfl) ?_
                  refine lv_iload_n hx hb dX4_reckonLatest_61 rfl (lv_at hl 1 rfl) ?_
                  refine lv_iload hx hb dX4_reckonLatest_62 (lv_at hl 0 rfl) ?_
                  refine cVim (As := [.int v_8143, .int v_9319]) (rest := [.int v_9370, .ref ob_minute]) ⟨hx, hb, hml, hown, hw0⟩ hA hK hP hD hS [true, true, true, true, true, true, true] (sX4_latest l G y _ ob v_8143 v_9319 ob_planned ob_bestWorth ob_bestOver ob_length ob_order ob_owner ob_weekday ob_spots ob_spot ob_deadline ob_opens ob_closes ob_stays ob_apart ob_minute ob_soonest ob_sums fob_spot fob_opens fob_closes fob_stays fob_apart f_9320 p_ob_planned p_ob_length (bw (0) (10) nc_9350.2.1 (by decide)) p_fob_spot (bw (0) (1023) nc_9376.1 (by decide)) nc_9350.1) rfl ⟨(callB_of 2 hw0 (gA m_905) rfl rfl rfl (hw0 _ m_839) (hw0 _ m_930) cb_X4_latest ⟨Nat.le_of_ble_eq_true rfl, Nat.le_of_ble_eq_true rfl⟩), (hw0 _ m_931), (hw0 _ m_932)⟩ (ci := 4) (q := (RX4, TX4, 17)) rfl rfl rfl hl.1 (Nat.le_of_ble_eq_true rfl) dX4_reckonLatest_64 ⟨Nat.le_of_ble_eq_true rfl, Nat.le_of_ble_eq_true rfl⟩ (fun r_9377 w_9377 H locs hw_9377 hP hD hS => ?_)
                  obtain ⟨v_9378, bv_9378, er_9377, rfl⟩ := hw_9377
                  subst r_9377
                  obtain ⟨hP, hD⟩ : vPD G A H [(ce_X4 ob ob_planned ob_bestWorth ob_bestOver ob_length ob_order ob_owner ob_weekday ob_spots ob_spot ob_deadline ob_opens ob_closes ob_stays ob_apart ob_minute ob_soonest ob_sums), (ce_i10 y ob_spot fob_spot), (ce_i16 y ob_opens fob_opens), (ce_i16 y ob_closes fob_closes), (ce_i16 y ob_stays fob_stays), (ce_i256 y ob_apart fob_apart), (ce_i10240 y ob_minute f_9320)] := ⟨hP, hD⟩
                  exact J_67_9374 _ _ _ _ ⟨v_9378, rfl, ⟨hP, hD⟩, hS, lv_sub hl [0, 1, 2, 3, 4] rfl⟩
                · skip
                  have nc_9376 := nb_eq (0) (0) c_9376 nc_8762.1 (bkc (x := 0) (c := 0) (by decide)) (by decide)
                  refine lv_iload_n hx hb dX4_reckonLatest_56 rfl (lv_at hl 4 rfl) ?_
                  refine lv_goto (tgt := 67) hx hb dX4_reckonLatest_57 (by decide) ?_
                  exact J_67_9374 _ _ _ _ ⟨a2, rfl, ⟨hP, hD⟩, hS, lv_sub hl [0, 1, 2, 3, 4] rfl⟩

set_option maxHeartbeats 4000000 in
set_option maxRecDepth 100000 in
theorem sX4_putInOrder (l : Launch) (G : va_G) (y : Nat → ClassId) (sz : Nat) (ob : Nat) (a1 : Int32) (a2 : Int32) (ob_planned : Int32) (ob_bestWorth : Int32) (ob_bestOver : Int32) (ob_length : Int32) (ob_order : Nat) (ob_owner : Int32) (ob_weekday : Int32) (ob_spots : Int32) (ob_spot : Nat) (ob_deadline : Nat) (ob_opens : Nat) (ob_closes : Nat) (ob_stays : Nat) (ob_apart : Nat) (ob_minute : Nat) (ob_soonest : Nat) (ob_sums : Nat) (fob_order : Nat → Int32) (fob_spot : Nat → Int32) (fob_opens : Nat → Int32) (fob_closes : Nat → Int32) (fob_stays : Nat → Int32) (fob_apart : Nat → Int32) (fob_minute : Nat → Int32) (p_ob_planned : (0 : Int) ≤ ob_planned.toInt ∧ ob_planned.toInt ≤ 1) (p_ob_length : (0 : Int) ≤ ob_length.toInt ∧ ob_length.toInt ≤ 10) (p_ob_spots : (0 : Int) ≤ ob_spots.toInt ∧ ob_spots.toInt ≤ 10) (p_fob_spot : ∀ i, (0 : Int) ≤ (fob_spot i).toInt ∧ (fob_spot i).toInt ≤ 15) (p_a1 : (0 : Int) ≤ a1.toInt ∧ a1.toInt ≤ 15) (p_a2 : (0 : Int) ≤ a2.toInt ∧ a2.toInt ≤ 1023) : Met l yX4_putInOrder (Cond.code yX4_putInOrder cX4_putInOrder 10 none :: wAll) ({ frames := 2, cells := 0, slots := 0, locals := 44 }) (va_Pc [.ref ob, .int a1, .int a2] (kp G y sz [(ce_X4 ob ob_planned ob_bestWorth ob_bestOver ob_length ob_order ob_owner ob_weekday ob_spots ob_spot ob_deadline ob_opens ob_closes ob_stays ob_apart ob_minute ob_soonest ob_sums), (ce_i10 y ob_order fob_order), (ce_i10 y ob_spot fob_spot), (ce_i16 y ob_opens fob_opens), (ce_i16 y ob_closes fob_closes), (ce_i16 y ob_stays fob_stays), (ce_i256 y ob_apart fob_apart), (ce_i10240 y ob_minute fob_minute)])) (va_Qv (fun (w : va_W) => (∃ (v_22899 : Int32) (f_22900 : Nat → Int32), ((0 : Int) ≤ v_22899.toInt ∧ v_22899.toInt ≤ 10) ∧ w = [(ce_X4 ob ob_planned ob_bestWorth ob_bestOver v_22899 ob_order ob_owner ob_weekday ob_spots ob_spot ob_deadline ob_opens ob_closes ob_stays ob_apart ob_minute ob_soonest ob_sums), (ce_i10 y ob_order f_22900), (ce_i10 y ob_spot fob_spot), (ce_i16 y ob_opens fob_opens), (ce_i16 y ob_closes fob_closes), (ce_i16 y ob_stays fob_stays), (ce_i256 y ob_apart fob_apart), (ce_i10240 y ob_minute fob_minute)])) (kq G (va_A [(ce_X4 ob ob_planned ob_bestWorth ob_bestOver ob_length ob_order ob_owner ob_weekday ob_spots ob_spot ob_deadline ob_opens ob_closes ob_stays ob_apart ob_minute ob_soonest ob_sums), (ce_i10 y ob_order fob_order), (ce_i10 y ob_spot fob_spot), (ce_i16 y ob_opens fob_opens), (ce_i16 y ob_closes fob_closes), (ce_i16 y ob_stays fob_stays), (ce_i256 y ob_apart fob_apart), (ce_i10240 y ob_minute fob_minute)] sz)) (va_A [(ce_X4 ob ob_planned ob_bestWorth ob_bestOver ob_length ob_order ob_owner ob_weekday ob_spots ob_spot ob_deadline ob_opens ob_closes ob_stays ob_apart ob_minute ob_soonest ob_sums), (ce_i10 y ob_order fob_order), (ce_i10 y ob_spot fob_spot), (ce_i16 y ob_opens fob_opens), (ce_i16 y ob_closes fob_closes), (ce_i16 y ob_stays fob_stays), (ce_i256 y ob_apart fob_apart), (ce_i10240 y ob_minute fob_minute)] sz)) 0 0 (va_A [(ce_X4 ob ob_planned ob_bestWorth ob_bestOver ob_length ob_order ob_owner ob_weekday ob_spots ob_spot ob_deadline ob_opens ob_closes ob_stays ob_apart ob_minute ob_soonest ob_sums), (ce_i10 y ob_order fob_order), (ce_i10 y ob_spot fob_spot), (ce_i16 y ob_opens fob_opens), (ce_i16 y ob_closes fob_closes), (ce_i16 y ob_stays fob_stays), (ce_i256 y ob_apart fob_apart), (ce_i10240 y ob_minute fob_minute)] sz) := by
  refine Met.ofW (cc := cX4_putInOrder) (maxL := 10) (ret := none) (by decide) rfl ?_
  intro p e s m args below meth c s₁ B hml hv
  obtain ⟨rfl, hsz, hP, hK, hD0⟩ := hv
  have hx := B.exec
  have hb := B.bytes
  have hr := B.returns
  have hw0 : ∀ w ∈ wAll, w.before _ s = true := fun w h => atoms_spec (ws := Cond.code yX4_putInOrder cX4_putInOrder 10 none :: wAll) B.pre w (List.mem_cons_of_mem _ h)
  have hown : s.vm.findClass RX4 = some m.cls := findClass_of_methodNamed B.named
  subst hsz
  have hD := hD0.self (sz := s.heap.size)
  generalize hAe : va_A [(ce_X4 ob ob_planned ob_bestWorth ob_bestOver ob_length ob_order ob_owner ob_weekday ob_spots ob_spot ob_deadline ob_opens ob_closes ob_stays ob_apart ob_minute ob_soonest ob_sums), (ce_i10 y ob_order fob_order), (ce_i10 y ob_spot fob_spot), (ce_i16 y ob_opens fob_opens), (ce_i16 y ob_closes fob_closes), (ce_i16 y ob_stays fob_stays), (ce_i256 y ob_apart fob_apart), (ce_i10240 y ob_minute fob_minute)] s.heap.size = A at hD ⊢
  have hA : ∀ q : Nat, s.heap.size ≤ q → A q := fun q h => by rw [← hAe]; exact Or.inr h
  have hS : va_S A s.heap s.heap [] := va_S.rf
  have hP : va_P G vwCl [(ce_X4 ob ob_planned ob_bestWorth ob_bestOver ob_length ob_order ob_owner ob_weekday ob_spots ob_spot ob_deadline ob_opens ob_closes ob_stays ob_apart ob_minute ob_soonest ob_sums), (ce_i10 y ob_order fob_order), (ce_i10 y ob_spot fob_spot), (ce_i16 y ob_opens fob_opens), (ce_i16 y ob_closes fob_closes), (ce_i16 y ob_stays fob_stays), (ce_i256 y ob_apart fob_apart), (ce_i10240 y ob_minute fob_minute)] s.heap := hP
  have hl := lv_entry ([.ref ob, .int a1, .int a2]) (n := 10) (Nat.le_of_ble_eq_true rfl)
  rw [lg_entry_eq]
  generalize (lg_sl ([.ref ob, .int a1, .int a2]) ++ List.replicate (10 - (lg_sl ([.ref ob, .int a1, .int a2])).length) Slot.unset).toArray = ls at hl ⊢
  have hl : lv_has ls 10 [(0, .ref ob), (1, .int a1), (2, .int a2)] := hl
  refine lv_aload_n hx hb dX4_putInOrder_0 rfl (lv_at hl 0 rfl) ?_
  refine lv_iconst (v := 0) hx hb dX4_putInOrder_1 (by decide) ?_
  refine va_put (D := G) (ci := 4) (v := .int 0) (ty := .int) (C := RX4) (T := TX4) (N := 17) hx hb hw0 inA_wsX40 tyX4 tyX4_ok nmX4 hown hK.1 hP hD hS 0 rfl rfl 3 (by decide) (hw0 _ m_928) (fun _ h9 => h9) rfl fd_X4_3 rfl rfl (Nat.le_of_ble_eq_true rfl) dX4_putInOrder_2 (fun H locs hP hD hS => ?_)
  obtain ⟨hP, hD⟩ : vPD G A H [(ce_X4 ob ob_planned ob_bestWorth ob_bestOver 0 ob_order ob_owner ob_weekday ob_spots ob_spot ob_deadline ob_opens ob_closes ob_stays ob_apart ob_minute ob_soonest ob_sums), (ce_i10 y ob_order fob_order), (ce_i10 y ob_spot fob_spot), (ce_i16 y ob_opens fob_opens), (ce_i16 y ob_closes fob_closes), (ce_i16 y ob_stays fob_stays), (ce_i256 y ob_apart fob_apart), (ce_i10240 y ob_minute fob_minute)] := ⟨hP, hD⟩
  refine lv_iload_n hx hb dX4_putInOrder_5 rfl (lv_at hl 2 rfl) ?_
  refine lv_istore_n (lv' := [(3, .int a2), (0, .ref ob), (1, .int a1), (2, .int a2)]) hx hb dX4_putInOrder_6 rfl hl (by decide) rfl (fun ls hl => ?_)
  refine lv_iload_n hx hb dX4_putInOrder_7 rfl (lv_at hl 2 rfl) ?_
  refine lv_istore (lv' := [(4, .int a1), (3, .int a2), (0, .ref ob), (1, .int a1), (2, .int a2)]) hx hb dX4_putInOrder_8 hl (by decide) rfl (fun ls hl => ?_)
  refine lv_iconst (v := 0) hx hb dX4_putInOrder_10 (by decide) ?_
  refine lv_istore (lv' := [(5, .int 0), (4, .int a1), (3, .int a2), (0, .ref ob), (1, .int a1), (2, .int a2)]) hx hb dX4_putInOrder_11 hl (by decide) rfl (fun ls hl => ?_)
  refine lv_iconst (v := 0) hx hb dX4_putInOrder_13 (by decide) ?_
  refine lv_istore (lv' := [(6, .int 0), (5, .int 0), (4, .int a1), (3, .int a2), (0, .ref ob), (1, .int a1), (2, .int a2)]) hx hb dX4_putInOrder_14 hl (by decide) rfl (fun ls hl => ?_)
  refine loopX (fun n H locs ls st => ∃ (v_10362 : Int32) (v_10363 : Int32) (v_10364 : Int32) (v_10365 : Int32) (v_10366 : Int32) (f_10367 : Nat → Int32), (10 - v_10362.toInt).toNat = n ∧ ((0 : Int) ≤ v_10362.toInt ∧ v_10362.toInt ≤ 10) ∧ ((0 : Int) ≤ v_10364.toInt ∧ v_10364.toInt ≤ 15) ∧ ((0 : Int) ≤ v_10365.toInt ∧ v_10365.toInt ≤ 1023) ∧ ((0 : Int) ≤ v_10366.toInt ∧ v_10366.toInt ≤ 10) ∧ (v_10366.toInt ≤ v_10362.toInt) ∧ st = [] ∧ vPD G A H [(ce_X4 ob ob_planned ob_bestWorth ob_bestOver v_10366 ob_order ob_owner ob_weekday ob_spots ob_spot ob_deadline ob_opens ob_closes ob_stays ob_apart ob_minute ob_soonest ob_sums), (ce_i10 y ob_order f_10367), (ce_i10 y ob_spot fob_spot), (ce_i16 y ob_opens fob_opens), (ce_i16 y ob_closes fob_closes), (ce_i16 y ob_stays fob_stays), (ce_i256 y ob_apart fob_apart), (ce_i10240 y ob_minute fob_minute)] ∧ va_S A s.heap H locs ∧ lv_has ls 10 [(6, .int v_10362), (5, .int v_10363), (4, .int v_10364), (3, .int v_10365), (0, .ref ob)]) ?_ (n := (10 - (0 : Int32).toInt).toNat) ⟨0, 0, a1, a2, 0, fob_order, rfl, (bw (0) (10) (bkc (x := 0) (c := 0) (by decide)) (by decide)), p_a1, p_a2, (bw (0) (10) (bkc (x := 0) (c := 0) (by decide)) (by decide)), (by have h90 : Int32.toInt 0 = 0 := (by decide); omega), rfl, ⟨hP, hD⟩, hS, lv_sub hl [0, 1, 2, 3, 4] rfl⟩
  rintro n ih_11408 H locs ls st ⟨v_10362, v_10363, v_10364, v_10365, v_10366, f_10367, hn_11408, bv_10362, bv_10364, bv_10365, bv_10366, rl10367_0, rfl, ⟨hP, hD⟩, hS, hl⟩
  refine lv_iload hx hb dX4_putInOrder_16 (lv_at hl 0 rfl) ?_
  refine lv_aload_n hx hb dX4_putInOrder_18 rfl (lv_at hl 4 rfl) ?_
  refine va_get (D := G) (ci := 4) (v := .int ob_spots) (C := RX4) (T := TX4) (N := 17) hx hb hw0 inA_wsX40 hown hK.1 hP 0 rfl rfl 7 (by decide) (hw0 _ m_827) (fun _ h9 => h9) rfl dX4_putInOrder_19 ?_
  refine lv_icmp_ge (tgt := 170) hx hb dX4_putInOrder_22 (by decide) (fun c_11409 => ?_) (fun c_11409 => ?_)
  · skip
    have nc_11409 := nb_le (10) (0) c_11409 p_ob_spots bv_10362 (by decide)
    exact W.vret hx hb hr (fun t ht hW => ⟨⟨_, rfl, ⟨v_10366, f_10367, bv_10366, rfl⟩, by rw [ht]; exact hP, hD⟩, hS.F ht⟩) hS.2.2 dX4_putInOrder_170
  · skip
    have nc_11409 := nb_nle (9) (1) c_11409 bv_10362 p_ob_spots (by decide)
    refine lv_iload_n hx hb dX4_putInOrder_25 rfl (lv_at hl 3 rfl) ?_
    refine lv_if_eq (tgt := 170) hx hb dX4_putInOrder_26 (by decide) (fun c_11410 => ?_) (fun c_11410 => ?_)
    · skip
      have nc_11410 := nb_eq (0) (0) c_11410 bv_10365 (bkc (x := 0) (c := 0) (by decide)) (by decide)
      exact W.vret hx hb hr (fun t ht hW => ⟨⟨_, rfl, ⟨v_10366, f_10367, bv_10366, rfl⟩, by rw [ht]; exact hP, hD⟩, hS.F ht⟩) hS.2.2 dX4_putInOrder_170
    · skip
      have nc_11410 := nb_ne (1) (1023) c_11410 bv_10365 (k := 0) (by decide) (by decide)
      refine lv_iconst (v := 0) hx hb dX4_putInOrder_29 (by decide) ?_
      refine lv_istore (lv' := [(7, .int 0), (6, .int v_10362), (5, .int v_10363), (4, .int v_10364), (3, .int v_10365), (0, .ref ob)]) hx hb dX4_putInOrder_30 hl (by decide) rfl (fun ls hl => ?_)
      refine loopX (fun n H locs ls st => ∃ (v_12261 : Int32), (10 - v_12261.toInt).toNat = n ∧ ((0 : Int) ≤ v_12261.toInt ∧ v_12261.toInt ≤ 10) ∧ (v_10366.toInt ≤ v_10362.toInt) ∧ st = [] ∧ vPD G A H [(ce_X4 ob ob_planned ob_bestWorth ob_bestOver v_10366 ob_order ob_owner ob_weekday ob_spots ob_spot ob_deadline ob_opens ob_closes ob_stays ob_apart ob_minute ob_soonest ob_sums), (ce_i10 y ob_order f_10367), (ce_i10 y ob_spot fob_spot), (ce_i16 y ob_opens fob_opens), (ce_i16 y ob_closes fob_closes), (ce_i16 y ob_stays fob_stays), (ce_i256 y ob_apart fob_apart), (ce_i10240 y ob_minute fob_minute)] ∧ va_S A s.heap H locs ∧ lv_has ls 10 [(7, .int v_12261), (6, .int v_10362), (5, .int v_10363), (4, .int v_10364), (3, .int v_10365), (0, .ref ob)]) ?_ (n := (10 - (0 : Int32).toInt).toNat) ⟨0, rfl, (bw (0) (10) (bkc (x := 0) (c := 0) (by decide)) (by decide)), (by have h90 : Int32.toInt 0 = 0 := (by decide); omega), rfl, ⟨hP, hD⟩, hS, lv_sub hl [0, 1, 2, 3, 4, 5] rfl⟩
      rintro n ih_12355 H locs ls st ⟨v_12261, hn_12355, bv_12261, rl12261_0, rfl, ⟨hP, hD⟩, hS, hl⟩
      refine lv_iload hx hb dX4_putInOrder_32 (lv_at hl 0 rfl) ?_
      refine lv_aload_n hx hb dX4_putInOrder_34 rfl (lv_at hl 5 rfl) ?_
      refine va_get (D := G) (ci := 4) (v := .int ob_spots) (C := RX4) (T := TX4) (N := 17) hx hb hw0 inA_wsX40 hown hK.1 hP 0 rfl rfl 7 (by decide) (hw0 _ m_827) (fun _ h9 => h9) rfl dX4_putInOrder_35 ?_
      refine cutW 164 (fun H locs ls st => ∃ (v_12400 : Int32) (v_12401 : Int32) (v_12402 : Int32) (v_12403 : Int32) (f_12404 : Nat → Int32), ((0 : Int) ≤ v_12401.toInt ∧ v_12401.toInt ≤ 15) ∧ ((0 : Int) ≤ v_12402.toInt ∧ v_12402.toInt ≤ 1023) ∧ ((0 : Int) ≤ v_12403.toInt ∧ v_12403.toInt ≤ 10) ∧ (v_12403.toInt ≤ v_10362.toInt + 1) ∧ st = [] ∧ vPD G A H [(ce_X4 ob ob_planned ob_bestWorth ob_bestOver v_12403 ob_order ob_owner ob_weekday ob_spots ob_spot ob_deadline ob_opens ob_closes ob_stays ob_apart ob_minute ob_soonest ob_sums), (ce_i10 y ob_order f_12404), (ce_i10 y ob_spot fob_spot), (ce_i16 y ob_opens fob_opens), (ce_i16 y ob_closes fob_closes), (ce_i16 y ob_stays fob_stays), (ce_i256 y ob_apart fob_apart), (ce_i10240 y ob_minute fob_minute)] ∧ va_S A s.heap H locs ∧ lv_has ls 10 [(6, .int v_10362), (5, .int v_12400), (4, .int v_12401), (3, .int v_12402), (0, .ref ob)]) ?_ (fun J_164_12404 => ?_)
      · rintro H locs ls st ⟨v_12400, v_12401, v_12402, v_12403, f_12404, bv_12401, bv_12402, bv_12403, rl12404_0, rfl, ⟨hP, hD⟩, hS, hl⟩
        obtain ⟨v_12405, ev_12405⟩ : ∃ z : Int32, z = v_10362 + 1 := ⟨_, rfl⟩
        have qv_12405 := ba_add ev_12405 nc_11409.1 (bkc (x := 1) (c := 1) (by decide)) (by decide)
        have bv_12405 : (1 : Int) ≤ v_12405.toInt ∧ v_12405.toInt ≤ 10 := bq_add qv_12405 nc_11409.1 (bkc (x := 1) (c := 1) (by decide)) _ _ (by decide)
        have qv_12405 : v_12405.toInt = v_10362.toInt + (1) := qv_12405
        refine lv_iinc (v := v_12405) (lv' := [(6, .int v_12405), (5, .int v_12400), (4, .int v_12401), (3, .int v_12402), (0, .ref ob)]) hx hb dX4_putInOrder_164 hl (k := 0) rfl (ev_12405.symm) (by decide) rfl (fun ls hl => ?_)
        refine lv_goto (tgt := 16) hx hb dX4_putInOrder_167 (by decide) ?_
        exact ih_11408 _ (ml_inc (hi := 10) hn_11408 qv_12405 (by decide) ((bw (0) (10) bv_12405 (by decide))).2) _ _ _ _ ⟨v_12405, v_12400, v_12401, v_12402, v_12403, f_12404, rfl, (bw (0) (10) bv_12405 (by decide)), bv_12401, bv_12402, bv_12403, (by omega), rfl, ⟨hP, hD⟩, hS, lv_sub hl [0, 1, 2, 3, 4] rfl⟩
      · skip
        refine lv_icmp_ge (tgt := 164) hx hb dX4_putInOrder_38 (by decide) (fun c_12406 => ?_) (fun c_12406 => ?_)
        · skip
          have nc_12406 := nb_le (10) (1) c_12406 nc_11409.2.1 bv_12261 (by decide)
          exact J_164_12404 _ _ _ _ ⟨v_10363, v_10364, v_10365, v_10366, f_10367, bv_10364, (bw (0) (1023) nc_11410.1 (by decide)), bv_10366, (by omega), rfl, ⟨hP, hD⟩, hS, lv_sub hl [1, 2, 3, 4, 5] rfl⟩
        · skip
          have nc_12406 := nb_nle (9) (1) c_12406 bv_12261 nc_11409.2.1 (by decide)
          refine lv_iload_n hx hb dX4_putInOrder_41 rfl (lv_at hl 4 rfl) ?_
          refine lv_iload hx hb dX4_putInOrder_42 (lv_at hl 0 rfl) ?_
          refine lv_ishr hx hb dX4_putInOrder_44 ?_
          refine lv_topi (fun v_12407 ev_12407 => ?_)
          have bv_12407 : (0 : Int) ≤ v_12407.toInt ∧ v_12407.toInt ≤ 1023 := ba_shr ev_12407 nc_11410.1 (by decide)
          refine lv_iconst (v := 1) hx hb dX4_putInOrder_45 (by decide) ?_
          refine lv_iand hx hb dX4_putInOrder_46 ?_
          refine lv_topi (fun v_12408 ev_12408 => ?_)
          have bv_12408 : (0 : Int) ≤ v_12408.toInt ∧ v_12408.toInt ≤ 1 := ba_andr ev_12408 (bkc (x := 1) (c := 1) (by decide)) (by decide)
          refine cutW 158 (fun H locs ls st => (v_10366.toInt ≤ v_10362.toInt) ∧ st = [] ∧ vPD G A H [(ce_X4 ob ob_planned ob_bestWorth ob_bestOver v_10366 ob_order ob_owner ob_weekday ob_spots ob_spot ob_deadline ob_opens ob_closes ob_stays ob_apart ob_minute ob_soonest ob_sums), (ce_i10 y ob_order f_10367), (ce_i10 y ob_spot fob_spot), (ce_i16 y ob_opens fob_opens), (ce_i16 y ob_closes fob_closes), (ce_i16 y ob_stays fob_stays), (ce_i256 y ob_apart fob_apart), (ce_i10240 y ob_minute fob_minute)] ∧ va_S A s.heap H locs ∧ lv_has ls 10 [(7, .int v_12261), (6, .int v_10362), (5, .int v_10363), (4, .int v_10364), (3, .int v_10365), (0, .ref ob)]) ?_ (fun J_158_12428 => ?_)
          · rintro H locs ls st ⟨rl12428_0, rfl, ⟨hP, hD⟩, hS, hl⟩
            obtain ⟨v_12429, ev_12429⟩ : ∃ z : Int32, z = v_12261 + 1 := ⟨_, rfl⟩
            have qv_12429 := ba_add ev_12429 nc_12406.1 (bkc (x := 1) (c := 1) (by decide)) (by decide)
            have bv_12429 : (1 : Int) ≤ v_12429.toInt ∧ v_12429.toInt ≤ 10 := bq_add qv_12429 nc_12406.1 (bkc (x := 1) (c := 1) (by decide)) _ _ (by decide)
            have qv_12429 : v_12429.toInt = v_12261.toInt + (1) := qv_12429
            refine lv_iinc (v := v_12429) (lv' := [(7, .int v_12429), (6, .int v_10362), (5, .int v_10363), (4, .int v_10364), (3, .int v_10365), (0, .ref ob)]) hx hb dX4_putInOrder_158 hl (k := 0) rfl (ev_12429.symm) (by decide) rfl (fun ls hl => ?_)
            refine lv_goto (tgt := 32) hx hb dX4_putInOrder_161 (by decide) ?_
            exact ih_12355 _ (ml_inc (hi := 10) hn_12355 qv_12429 (by decide) ((bw (0) (10) bv_12429 (by decide))).2) _ _ _ _ ⟨v_12429, rfl, (bw (0) (10) bv_12429 (by decide)), (by omega), rfl, ⟨hP, hD⟩, hS, lv_sub hl [0, 1, 2, 3, 4, 5] rfl⟩
          · skip
            refine lv_if_ne (tgt := 53) hx hb dX4_putInOrder_47 (by decide) (fun c_12430 => ?_) (fun c_12430 => ?_)
            · skip
              have nc_12430 := nb_ne (1) (1) c_12430 bv_12408 (k := 0) (by decide) (by decide)
              refine lv_aload_n hx hb dX4_putInOrder_53 rfl (lv_at hl 5 rfl) ?_
              refine lv_aload_n hx hb dX4_putInOrder_54 rfl (lv_at hl 5 rfl) ?_
              refine va_get (D := G) (ci := 4) (v := .ref ob_spot) (C := RX4) (T := TX4) (N := 17) hx hb hw0 inA_wsX40 hown hK.1 hP 0 rfl rfl 8 (by decide) (hw0 _ m_829) (fun _ h9 => h9) rfl dX4_putInOrder_55 ?_
              refine lv_iload hx hb dX4_putInOrder_58 (lv_at hl 0 rfl) ?_
              refine va_iald hx hb hK.1 hP 2 1 rfl rfl (vi nc_12406.1 (by decide)) dX4_putInOrder_60 ?_
              refine lv_topi (fun v_12431 ev_12431 => ?_)
              have bv_12431 : (0 : Int) ≤ v_12431.toInt ∧ v_12431.toInt ≤ 15 := rd_b ev_12431 p_fob_spot
              refine lv_iload hx hb dX4_putInOrder_61 (lv_at hl 2 rfl) ?_
              refine lv_aload_n hx hb dX4_putInOrder_63 rfl (lv_at hl 5 rfl) ?_
              refine va_get (D := G) (ci := 4) (v := .ref ob_apart) (C := RX4) (T := TX4) (N := 17) hx hb hw0 inA_wsX40 hown hK.1 hP 0 rfl rfl 13 (by decide) (hw0 _ m_826) (fun _ h9 => h9) rfl dX4_putInOrder_64 ?_
              refine lv_iload hx hb dX4_putInOrder_67 (lv_at hl 3 rfl) ?_
              refine lv_bipush (v := 16) hx hb dX4_putInOrder_69 (by decide) ?_
              refine lv_imul hx hb dX4_putInOrder_71 ?_
              refine lv_topi (fun v_12432 ev_12432 => ?_)
              have qv_12432 := ba_mul 16 ev_12432 bv_10364 (by decide) (by decide) (by decide)
              have bv_12432 : (0 : Int) ≤ v_12432.toInt ∧ v_12432.toInt ≤ 240 := qv_12432.2
              refine lv_aload_n hx hb dX4_putInOrder_72 rfl (lv_at hl 5 rfl) ?_
              refine va_get (D := G) (ci := 4) (v := .ref ob_spot) (C := RX4) (T := TX4) (N := 17) hx hb hw0 inA_wsX40 hown hK.1 hP 0 rfl rfl 8 (by decide) (hw0 _ m_829) (fun _ h9 => h9) rfl dX4_putInOrder_73 ?_
              refine lv_iload hx hb dX4_putInOrder_76 (lv_at hl 0 rfl) ?_
              refine va_iald hx hb hK.1 hP 2 1 rfl rfl (vi nc_12406.1 (by decide)) dX4_putInOrder_78 ?_
              refine lv_topi (fun v_12433 ev_12433 => ?_)
              obtain rfl : v_12431 = v_12433 := (ev_12433.trans (ev_12431.symm)).symm
              refine lv_iadd hx hb dX4_putInOrder_79 ?_
              refine lv_topi (fun v_12434 ev_12434 => ?_)
              have qv_12434 := ba_add ev_12434 bv_12432 bv_12431 (by decide)
              have bv_12434 : (0 : Int) ≤ v_12434.toInt ∧ v_12434.toInt ≤ 255 := bq_add qv_12434 bv_12432 bv_12431 _ _ (by decide)
              refine va_iald hx hb hK.1 hP 6 1 rfl rfl (vi bv_12434 (by decide)) dX4_putInOrder_80 ?_
              refine lv_topi (fun v_12435 ev_12435 => ?_)
              refine lv_iadd hx hb dX4_putInOrder_81 ?_
              refine lv_topi (fun v_12436 ev_12436 => ?_)
              refine cVim (As := [.int v_12431, .int v_12436]) (rest := []) ⟨hx, hb, hml, hown, hw0⟩ hA hK hP hD hS [true, false, false, true, true, true] (sX4_seen l G y _ ob v_12431 v_12436 ob_planned ob_bestWorth ob_bestOver v_10366 ob_order ob_owner ob_weekday ob_spots ob_spot ob_deadline ob_opens ob_closes ob_stays ob_apart ob_minute ob_soonest ob_sums fob_opens fob_closes fob_stays p_ob_planned bv_10366 (bw (0) (10) nc_12406.2.1 (by decide)) bv_12431) rfl ⟨(callB_of 2 hw0 (gA m_937) rfl rfl rfl (hw0 _ m_839) (hw0 _ m_849) cb_X4_seen ⟨Nat.le_of_ble_eq_true rfl, Nat.le_of_ble_eq_true rfl⟩), (hw0 _ m_850), (hw0 _ m_851)⟩ (ci := 4) (q := (RX4, TX4, 17)) rfl rfl rfl hl.1 (Nat.le_of_ble_eq_true rfl) dX4_putInOrder_82 ⟨Nat.le_of_ble_eq_true rfl, Nat.le_of_ble_eq_true rfl⟩ (fun r_12437 w_12437 H locs hw_12437 hP hD hS => ?_)
              obtain ⟨v_12438, er_12437, rfl⟩ := hw_12437
              subst r_12437
              obtain ⟨hP, hD⟩ : vPD G A H [(ce_X4 ob ob_planned ob_bestWorth ob_bestOver v_10366 ob_order ob_owner ob_weekday ob_spots ob_spot ob_deadline ob_opens ob_closes ob_stays ob_apart ob_minute ob_soonest ob_sums), (ce_i10 y ob_order f_10367), (ce_i10 y ob_spot fob_spot), (ce_i16 y ob_opens fob_opens), (ce_i16 y ob_closes fob_closes), (ce_i16 y ob_stays fob_stays), (ce_i256 y ob_apart fob_apart), (ce_i10240 y ob_minute fob_minute)] := ⟨hP, hD⟩
              refine lv_istore (lv' := [(8, .int v_12438), (7, .int v_12261), (6, .int v_10362), (5, .int v_10363), (4, .int v_10364), (3, .int v_10365), (0, .ref ob)]) hx hb dX4_putInOrder_85 hl (by decide) rfl (fun ls hl => ?_)
              refine lv_iload_n hx hb dX4_putInOrder_87 rfl (lv_at hl 5 rfl) ?_
              refine lv_iconst (v := 1) hx hb dX4_putInOrder_88 (by decide) ?_
              refine lv_iload hx hb dX4_putInOrder_89 (lv_at hl 1 rfl) ?_
              refine lv_ishl hx hb dX4_putInOrder_91 ?_
              refine lv_topi (fun v_12439 ev_12439 => ?_)
              have bv_12439 : (1 : Int) ≤ v_12439.toInt ∧ v_12439.toInt ≤ 512 := ba_shl 0 9 ev_12439 nc_12406.1 (by decide)
              refine lv_ixor hx hb dX4_putInOrder_92 ?_
              refine lv_topi (fun v_12440 ev_12440 => ?_)
              have bv_12440 : (0 : Int) ≤ v_12440.toInt ∧ v_12440.toInt ≤ 1023 := ba_xor 10 ev_12440 nc_11410.1 bv_12439 (by decide)
              refine lv_istore (lv' := [(9, .int v_12440), (8, .int v_12438), (7, .int v_12261), (6, .int v_10362), (5, .int v_10363), (4, .int v_10364), (3, .int v_10365), (0, .ref ob)]) hx hb dX4_putInOrder_93 hl (by decide) rfl (fun ls hl => ?_)
              refine lv_iload hx hb dX4_putInOrder_95 (lv_at hl 1 rfl) ?_
              refine lv_aload_n hx hb dX4_putInOrder_97 rfl (lv_at hl 7 rfl) ?_
              refine va_get (D := G) (ci := 4) (v := .ref ob_minute) (C := RX4) (T := TX4) (N := 17) hx hb hw0 inA_wsX40 hown hK.1 hP 0 rfl rfl 14 (by decide) (hw0 _ m_828) (fun _ h9 => h9) rfl dX4_putInOrder_98 ?_
              refine lv_iload hx hb dX4_putInOrder_101 (lv_at hl 0 rfl) ?_
              refine lv_bipush (v := 10) hx hb dX4_putInOrder_103 (by decide) ?_
              refine lv_imul hx hb dX4_putInOrder_105 ?_
              refine lv_topi (fun v_12441 ev_12441 => ?_)
              have qv_12441 := ba_mul 10 ev_12441 bv_12440 (by decide) (by decide) (by decide)
              have bv_12441 : (0 : Int) ≤ v_12441.toInt ∧ v_12441.toInt ≤ 10230 := qv_12441.2
              refine lv_iload hx hb dX4_putInOrder_106 (lv_at hl 2 rfl) ?_
              refine lv_iadd hx hb dX4_putInOrder_108 ?_
              refine lv_topi (fun v_12442 ev_12442 => ?_)
              have qv_12442 := ba_add ev_12442 bv_12441 nc_12406.1 (by decide)
              have bv_12442 : (0 : Int) ≤ v_12442.toInt ∧ v_12442.toInt ≤ 10239 := bq_add qv_12442 bv_12441 nc_12406.1 _ _ (by decide)
              refine va_iald hx hb hK.1 hP 7 1 rfl rfl (vi bv_12442 (by decide)) dX4_putInOrder_109 ?_
              refine lv_topi (fun v_12443 ev_12443 => ?_)
              refine lv_icmp_gt (tgt := 158) hx hb dX4_putInOrder_110 (by decide) (fun c_12444 => ?_) (fun c_12444 => ?_)
              · skip
                have nc_12444 := nb_lt (2147483646) (-2147483647) c_12444 (btop v_12443) (btop v_12438) (by decide)
                exact J_158_12428 _ _ _ _ ⟨(by omega), rfl, ⟨hP, hD⟩, hS, lv_sub hl [2, 3, 4, 5, 6, 7] rfl⟩
              · skip
                have nc_12444 := nb_nlt (2147483647) (-2147483648) c_12444 (btop v_12438) (btop v_12443) (by decide)
                have h_12445 : (0 : Int) ≤ v_10366.toInt ∧ v_10366.toInt ≤ 9 := by omega
                refine lv_aload_n hx hb dX4_putInOrder_113 rfl (lv_at hl 7 rfl) ?_
                refine va_get (D := G) (ci := 4) (v := .ref ob_order) (C := RX4) (T := TX4) (N := 17) hx hb hw0 inA_wsX40 hown hK.1 hP 0 rfl rfl 4 (by decide) (hw0 _ m_895) (fun _ h9 => h9) rfl dX4_putInOrder_114 ?_
                refine lv_aload_n hx hb dX4_putInOrder_117 rfl (lv_at hl 7 rfl) ?_
                refine va_get (D := G) (ci := 4) (v := .int v_10366) (C := RX4) (T := TX4) (N := 17) hx hb hw0 inA_wsX40 hown hK.1 hP 0 rfl rfl 3 (by decide) (hw0 _ m_928) (fun _ h9 => h9) rfl dX4_putInOrder_118 ?_
                refine lv_aload_n hx hb dX4_putInOrder_121 rfl (lv_at hl 7 rfl) ?_
                refine va_get (D := G) (ci := 4) (v := .ref ob_spot) (C := RX4) (T := TX4) (N := 17) hx hb hw0 inA_wsX40 hown hK.1 hP 0 rfl rfl 8 (by decide) (hw0 _ m_829) (fun _ h9 => h9) rfl dX4_putInOrder_122 ?_
                refine lv_iload hx hb dX4_putInOrder_125 (lv_at hl 2 rfl) ?_
                refine va_iald hx hb hK.1 hP 2 1 rfl rfl (vi nc_12406.1 (by decide)) dX4_putInOrder_127 ?_
                refine lv_topi (fun v_12446 ev_12446 => ?_)
                obtain rfl : v_12431 = v_12446 := (ev_12446.trans (ev_12431.symm)).symm
                refine va_iast hx hb hK.1 hP hD hS 1 1 rfl rfl (vi h_12445 (by decide)) dX4_putInOrder_128 (fun H locs hP hD hS => ?_)
                generalize hf_12447 : (upd f_10367 (v_10366 : Int32).toNatClampNeg v_12431) = f_12447 at hP hD
                obtain ⟨hP, hD⟩ : vPD G A H [(ce_X4 ob ob_planned ob_bestWorth ob_bestOver v_10366 ob_order ob_owner ob_weekday ob_spots ob_spot ob_deadline ob_opens ob_closes ob_stays ob_apart ob_minute ob_soonest ob_sums), (ce_i10 y ob_order f_12447), (ce_i10 y ob_spot fob_spot), (ce_i16 y ob_opens fob_opens), (ce_i16 y ob_closes fob_closes), (ce_i16 y ob_stays fob_stays), (ce_i256 y ob_apart fob_apart), (ce_i10240 y ob_minute fob_minute)] := ⟨hP, hD⟩
                refine lv_aload_n hx hb dX4_putInOrder_129 rfl (lv_at hl 7 rfl) ?_
                refine lv_dup hx hb dX4_putInOrder_130 rfl ?_
                refine va_get (D := G) (ci := 4) (v := .int v_10366) (C := RX4) (T := TX4) (N := 17) hx hb hw0 inA_wsX40 hown hK.1 hP 0 rfl rfl 3 (by decide) (hw0 _ m_928) (fun _ h9 => h9) rfl dX4_putInOrder_131 ?_
                refine lv_iconst (v := 1) hx hb dX4_putInOrder_134 (by decide) ?_
                refine lv_iadd hx hb dX4_putInOrder_135 ?_
                refine lv_topi (fun v_12448 ev_12448 => ?_)
                have qv_12448 := ba_add ev_12448 h_12445 (bkc (x := 1) (c := 1) (by decide)) (by decide)
                have bv_12448 : (1 : Int) ≤ v_12448.toInt ∧ v_12448.toInt ≤ 10 := bq_add qv_12448 h_12445 (bkc (x := 1) (c := 1) (by decide)) _ _ (by decide)
                have qv_12448 : v_12448.toInt = v_10366.toInt + (1) := qv_12448
                refine va_put (D := G) (ci := 4) (v := .int v_12448) (ty := .int) (C := RX4) (T := TX4) (N := 17) hx hb hw0 inA_wsX40 tyX4 tyX4_ok nmX4 hown hK.1 hP hD hS 0 rfl rfl 3 (by decide) (hw0 _ m_928) (fun _ h9 => h9) rfl fd_X4_3 rfl rfl (Nat.le_of_ble_eq_true rfl) dX4_putInOrder_136 (fun H locs hP hD hS => ?_)
                obtain ⟨hP, hD⟩ : vPD G A H [(ce_X4 ob ob_planned ob_bestWorth ob_bestOver v_12448 ob_order ob_owner ob_weekday ob_spots ob_spot ob_deadline ob_opens ob_closes ob_stays ob_apart ob_minute ob_soonest ob_sums), (ce_i10 y ob_order f_12447), (ce_i10 y ob_spot fob_spot), (ce_i16 y ob_opens fob_opens), (ce_i16 y ob_closes fob_closes), (ce_i16 y ob_stays fob_stays), (ce_i256 y ob_apart fob_apart), (ce_i10240 y ob_minute fob_minute)] := ⟨hP, hD⟩
                refine lv_iload hx hb dX4_putInOrder_139 (lv_at hl 0 rfl) ?_
                refine lv_istore_n (lv' := [(3, .int v_12440), (9, .int v_12440), (8, .int v_12438), (7, .int v_12261), (6, .int v_10362), (5, .int v_10363), (4, .int v_10364), (0, .ref ob)]) hx hb dX4_putInOrder_141 rfl hl (by decide) rfl (fun ls hl => ?_)
                refine lv_aload_n hx hb dX4_putInOrder_142 rfl (lv_at hl 7 rfl) ?_
                refine va_get (D := G) (ci := 4) (v := .ref ob_spot) (C := RX4) (T := TX4) (N := 17) hx hb hw0 inA_wsX40 hown hK.1 hP 0 rfl rfl 8 (by decide) (hw0 _ m_829) (fun _ h9 => h9) rfl dX4_putInOrder_143 ?_
                refine lv_iload hx hb dX4_putInOrder_146 (lv_at hl 3 rfl) ?_
                refine va_iald hx hb hK.1 hP 2 1 rfl rfl (vi nc_12406.1 (by decide)) dX4_putInOrder_148 ?_
                refine lv_topi (fun v_12449 ev_12449 => ?_)
                obtain rfl : v_12431 = v_12449 := (ev_12449.trans (ev_12431.symm)).symm
                refine lv_istore (lv' := [(4, .int v_12431), (3, .int v_12440), (9, .int v_12440), (8, .int v_12438), (7, .int v_12261), (6, .int v_10362), (5, .int v_10363), (0, .ref ob)]) hx hb dX4_putInOrder_149 hl (by decide) rfl (fun ls hl => ?_)
                refine lv_iload hx hb dX4_putInOrder_151 (lv_at hl 3 rfl) ?_
                refine lv_istore (lv' := [(5, .int v_12438), (4, .int v_12431), (3, .int v_12440), (9, .int v_12440), (8, .int v_12438), (7, .int v_12261), (6, .int v_10362), (0, .ref ob)]) hx hb dX4_putInOrder_153 hl (by decide) rfl (fun ls hl => ?_)
                refine lv_goto (tgt := 164) hx hb dX4_putInOrder_155 (by decide) ?_
                exact J_164_12404 _ _ _ _ ⟨v_12438, v_12431, v_12440, v_12448, f_12447, bv_12431, bv_12440, (bw (0) (10) bv_12448 (by decide)), (by omega), rfl, ⟨hP, hD⟩, hS, lv_sub hl [6, 0, 1, 2, 7] rfl⟩
            · skip
              have nc_12430 := nb_eq (0) (0) c_12430 bv_12408 (bkc (x := 0) (c := 0) (by decide)) (by decide)
              refine lv_goto (tgt := 158) hx hb dX4_putInOrder_50 (by decide) ?_
              exact J_158_12428 _ _ _ _ ⟨(by omega), rfl, ⟨hP, hD⟩, hS, lv_sub hl [0, 1, 2, 3, 4, 5] rfl⟩

set_option maxHeartbeats 4000000 in
set_option maxRecDepth 100000 in
theorem sX4_plan (l : Launch) (G : va_G) (y : Nat → ClassId) (sz : Nat) (ob : Nat) (o1 : Nat) (a2 : Int32) (a3 : Int32) (ob_planned : Int32) (ob_bestWorth : Int32) (ob_bestOver : Int32) (ob_length : Int32) (ob_order : Nat) (ob_owner : Int32) (ob_weekday : Int32) (ob_spots : Int32) (ob_spot : Nat) (ob_deadline : Nat) (ob_opens : Nat) (ob_closes : Nat) (ob_stays : Nat) (ob_apart : Nat) (ob_minute : Nat) (ob_soonest : Nat) (ob_sums : Nat) (fob_order : Nat → Int32) (fob_spot : Nat → Int32) (fob_opens : Nat → Int32) (fob_closes : Nat → Int32) (fob_stays : Nat → Int32) (fob_apart : Nat → Int32) (fob_minute : Nat → Int32) (fob_soonest : Nat → Int32) (fob_sums : Nat → Int32) (o1_town : Nat) (o1_code : Nat) (o1_debts : Nat) (o1_deeds : Nat) (o1_knows : Nat) (o1_day : Int32) (o1_paid : Int32) (o1_follows : Nat) (o1_town_houses : Int32) (o1_town_fresh : Int32) (o1_town_introducers : Int32) (o1_town_x : Nat) (o1_town_y : Nat) (o1_town_rank : Nat) (o1_town_weekday : Nat) (o1_town_from : Nat) (o1_town_to : Nat) (o1_town_came : Nat) (o1_town_bride : Nat) (o1_town_told : Nat) (fo1_town_x : Nat → Int32) (fo1_town_y : Nat → Int32) (fo1_town_weekday : Nat → Int32) (fo1_town_from : Nat → Int32) (fo1_town_to : Nat → Int32) (o1_debts_size : Int32) (o1_debts_debtor : Nat) (o1_debts_creditor : Nat) (o1_debts_kind : Nat) (o1_debts_due : Nat) (o1_debts_came : Nat) (o1_debts_open : Nat) (o1_debts_kinds : Nat) (fo1_debts_kinds : Nat → Int32) (p_ob_planned : (0 : Int) ≤ ob_planned.toInt ∧ ob_planned.toInt ≤ 1) (p_ob_length : (0 : Int) ≤ ob_length.toInt ∧ ob_length.toInt ≤ 10) (p_ob_spots : (0 : Int) ≤ ob_spots.toInt ∧ ob_spots.toInt ≤ 10) (p_fob_spot : ∀ i, (0 : Int) ≤ (fob_spot i).toInt ∧ (fob_spot i).toInt ≤ 15) (p_o1_town_houses : (0 : Int) ≤ o1_town_houses.toInt ∧ o1_town_houses.toInt ≤ 16) (p_o1_debts_size : (0 : Int) ≤ o1_debts_size.toInt ∧ o1_debts_size.toInt ≤ 600) (p_o1_day : (0 : Int) ≤ o1_day.toInt ∧ o1_day.toInt ≤ 399) (p_a2 : (0 : Int) ≤ a2.toInt ∧ a2.toInt ≤ 15) (p_a3 : (0 : Int) ≤ a3.toInt ∧ a3.toInt ≤ 399) : Met l yX4_plan (Cond.code yX4_plan cX4_plan 5 none :: wAll) ({ frames := 4, cells := 0, slots := 0, locals := 93 }) (va_Pc [.ref ob, .ref o1, .int a2, .int a3] (kp G y sz [(ce_X4 ob ob_planned ob_bestWorth ob_bestOver ob_length ob_order ob_owner ob_weekday ob_spots ob_spot ob_deadline ob_opens ob_closes ob_stays ob_apart ob_minute ob_soonest ob_sums), (ce_i10 y ob_order fob_order), (ce_i10 y ob_spot fob_spot), (ce_i16 y ob_opens fob_opens), (ce_i16 y ob_closes fob_closes), (ce_i16 y ob_stays fob_stays), (ce_i256 y ob_apart fob_apart), (ce_i10240 y ob_minute fob_minute), (ce_i1024 y ob_soonest fob_soonest), (ce_i1024 y ob_sums fob_sums), (ce_X6 o1 o1_town o1_code o1_debts o1_deeds o1_knows o1_day o1_paid o1_follows), (ce_X7 o1_town o1_town_houses o1_town_fresh o1_town_introducers o1_town_x o1_town_y o1_town_rank o1_town_weekday o1_town_from o1_town_to o1_town_came o1_town_bride o1_town_told), (ce_i16 y o1_town_x fo1_town_x), (ce_i16 y o1_town_y fo1_town_y), (ce_i16 y o1_town_weekday fo1_town_weekday), (ce_i16 y o1_town_from fo1_town_from), (ce_i16 y o1_town_to fo1_town_to), (ce_X1 o1_debts o1_debts_size o1_debts_debtor o1_debts_creditor o1_debts_kind o1_debts_due o1_debts_came o1_debts_open o1_debts_kinds), (ce_i256 y o1_debts_kinds fo1_debts_kinds)])) (va_Qv (fun (w : va_W) => (∃ (v_847 : Int32) (v_848 : Int32) (v_849 : Int32) (v_850 : Int32) (v_851 : Int32) (v_852 : Int32) (v_853 : Int32) (f_854 : Nat → Int32) (f_855 : Nat → Int32) (f_856 : Nat → Int32) (f_857 : Nat → Int32) (f_858 : Nat → Int32) (f_859 : Nat → Int32) (f_860 : Nat → Int32) (f_861 : Nat → Int32) (f_862 : Nat → Int32), ((1 : Int) ≤ v_847.toInt ∧ v_847.toInt ≤ 1) ∧ ((0 : Int) ≤ v_850.toInt ∧ v_850.toInt ≤ 10) ∧ ((0 : Int) ≤ v_851.toInt ∧ v_851.toInt ≤ 15) ∧ ((0 : Int) ≤ v_852.toInt ∧ v_852.toInt ≤ 6) ∧ ((0 : Int) ≤ v_853.toInt ∧ v_853.toInt ≤ 10) ∧ (∀ i, (0 : Int) ≤ (f_855 i).toInt ∧ (f_855 i).toInt ≤ 15) ∧ w = [(ce_X4 ob v_847 v_848 v_849 v_850 ob_order v_851 v_852 v_853 ob_spot ob_deadline ob_opens ob_closes ob_stays ob_apart ob_minute ob_soonest ob_sums), (ce_i10 y ob_order f_854), (ce_i10 y ob_spot f_855), (ce_i16 y ob_opens f_856), (ce_i16 y ob_closes f_857), (ce_i16 y ob_stays f_858), (ce_i256 y ob_apart f_859), (ce_i10240 y ob_minute f_860), (ce_i1024 y ob_soonest f_861), (ce_i1024 y ob_sums f_862), (ce_X6 o1 o1_town o1_code o1_debts o1_deeds o1_knows o1_day o1_paid o1_follows), (ce_X7 o1_town o1_town_houses o1_town_fresh o1_town_introducers o1_town_x o1_town_y o1_town_rank o1_town_weekday o1_town_from o1_town_to o1_town_came o1_town_bride o1_town_told), (ce_i16 y o1_town_x fo1_town_x), (ce_i16 y o1_town_y fo1_town_y), (ce_i16 y o1_town_weekday fo1_town_weekday), (ce_i16 y o1_town_from fo1_town_from), (ce_i16 y o1_town_to fo1_town_to), (ce_X1 o1_debts o1_debts_size o1_debts_debtor o1_debts_creditor o1_debts_kind o1_debts_due o1_debts_came o1_debts_open o1_debts_kinds), (ce_i256 y o1_debts_kinds fo1_debts_kinds)])) (kq G (va_A [(ce_X4 ob ob_planned ob_bestWorth ob_bestOver ob_length ob_order ob_owner ob_weekday ob_spots ob_spot ob_deadline ob_opens ob_closes ob_stays ob_apart ob_minute ob_soonest ob_sums), (ce_i10 y ob_order fob_order), (ce_i10 y ob_spot fob_spot), (ce_i16 y ob_opens fob_opens), (ce_i16 y ob_closes fob_closes), (ce_i16 y ob_stays fob_stays), (ce_i256 y ob_apart fob_apart), (ce_i10240 y ob_minute fob_minute), (ce_i1024 y ob_soonest fob_soonest), (ce_i1024 y ob_sums fob_sums), (ce_X6 o1 o1_town o1_code o1_debts o1_deeds o1_knows o1_day o1_paid o1_follows), (ce_X7 o1_town o1_town_houses o1_town_fresh o1_town_introducers o1_town_x o1_town_y o1_town_rank o1_town_weekday o1_town_from o1_town_to o1_town_came o1_town_bride o1_town_told), (ce_i16 y o1_town_x fo1_town_x), (ce_i16 y o1_town_y fo1_town_y), (ce_i16 y o1_town_weekday fo1_town_weekday), (ce_i16 y o1_town_from fo1_town_from), (ce_i16 y o1_town_to fo1_town_to), (ce_X1 o1_debts o1_debts_size o1_debts_debtor o1_debts_creditor o1_debts_kind o1_debts_due o1_debts_came o1_debts_open o1_debts_kinds), (ce_i256 y o1_debts_kinds fo1_debts_kinds)] sz)) (va_A [(ce_X4 ob ob_planned ob_bestWorth ob_bestOver ob_length ob_order ob_owner ob_weekday ob_spots ob_spot ob_deadline ob_opens ob_closes ob_stays ob_apart ob_minute ob_soonest ob_sums), (ce_i10 y ob_order fob_order), (ce_i10 y ob_spot fob_spot), (ce_i16 y ob_opens fob_opens), (ce_i16 y ob_closes fob_closes), (ce_i16 y ob_stays fob_stays), (ce_i256 y ob_apart fob_apart), (ce_i10240 y ob_minute fob_minute), (ce_i1024 y ob_soonest fob_soonest), (ce_i1024 y ob_sums fob_sums), (ce_X6 o1 o1_town o1_code o1_debts o1_deeds o1_knows o1_day o1_paid o1_follows), (ce_X7 o1_town o1_town_houses o1_town_fresh o1_town_introducers o1_town_x o1_town_y o1_town_rank o1_town_weekday o1_town_from o1_town_to o1_town_came o1_town_bride o1_town_told), (ce_i16 y o1_town_x fo1_town_x), (ce_i16 y o1_town_y fo1_town_y), (ce_i16 y o1_town_weekday fo1_town_weekday), (ce_i16 y o1_town_from fo1_town_from), (ce_i16 y o1_town_to fo1_town_to), (ce_X1 o1_debts o1_debts_size o1_debts_debtor o1_debts_creditor o1_debts_kind o1_debts_due o1_debts_came o1_debts_open o1_debts_kinds), (ce_i256 y o1_debts_kinds fo1_debts_kinds)] sz)) 0 0 (va_A [(ce_X4 ob ob_planned ob_bestWorth ob_bestOver ob_length ob_order ob_owner ob_weekday ob_spots ob_spot ob_deadline ob_opens ob_closes ob_stays ob_apart ob_minute ob_soonest ob_sums), (ce_i10 y ob_order fob_order), (ce_i10 y ob_spot fob_spot), (ce_i16 y ob_opens fob_opens), (ce_i16 y ob_closes fob_closes), (ce_i16 y ob_stays fob_stays), (ce_i256 y ob_apart fob_apart), (ce_i10240 y ob_minute fob_minute), (ce_i1024 y ob_soonest fob_soonest), (ce_i1024 y ob_sums fob_sums), (ce_X6 o1 o1_town o1_code o1_debts o1_deeds o1_knows o1_day o1_paid o1_follows), (ce_X7 o1_town o1_town_houses o1_town_fresh o1_town_introducers o1_town_x o1_town_y o1_town_rank o1_town_weekday o1_town_from o1_town_to o1_town_came o1_town_bride o1_town_told), (ce_i16 y o1_town_x fo1_town_x), (ce_i16 y o1_town_y fo1_town_y), (ce_i16 y o1_town_weekday fo1_town_weekday), (ce_i16 y o1_town_from fo1_town_from), (ce_i16 y o1_town_to fo1_town_to), (ce_X1 o1_debts o1_debts_size o1_debts_debtor o1_debts_creditor o1_debts_kind o1_debts_due o1_debts_came o1_debts_open o1_debts_kinds), (ce_i256 y o1_debts_kinds fo1_debts_kinds)] sz) := by
  refine Met.ofW (cc := cX4_plan) (maxL := 5) (ret := none) (by decide) rfl ?_
  intro p e s m args below meth c s₁ B hml hv
  obtain ⟨rfl, hsz, hP, hK, hD0⟩ := hv
  have hx := B.exec
  have hb := B.bytes
  have hr := B.returns
  have hw0 : ∀ w ∈ wAll, w.before _ s = true := fun w h => atoms_spec (ws := Cond.code yX4_plan cX4_plan 5 none :: wAll) B.pre w (List.mem_cons_of_mem _ h)
  have hown : s.vm.findClass RX4 = some m.cls := findClass_of_methodNamed B.named
  subst hsz
  have hD := hD0.self (sz := s.heap.size)
  generalize hAe : va_A [(ce_X4 ob ob_planned ob_bestWorth ob_bestOver ob_length ob_order ob_owner ob_weekday ob_spots ob_spot ob_deadline ob_opens ob_closes ob_stays ob_apart ob_minute ob_soonest ob_sums), (ce_i10 y ob_order fob_order), (ce_i10 y ob_spot fob_spot), (ce_i16 y ob_opens fob_opens), (ce_i16 y ob_closes fob_closes), (ce_i16 y ob_stays fob_stays), (ce_i256 y ob_apart fob_apart), (ce_i10240 y ob_minute fob_minute), (ce_i1024 y ob_soonest fob_soonest), (ce_i1024 y ob_sums fob_sums), (ce_X6 o1 o1_town o1_code o1_debts o1_deeds o1_knows o1_day o1_paid o1_follows), (ce_X7 o1_town o1_town_houses o1_town_fresh o1_town_introducers o1_town_x o1_town_y o1_town_rank o1_town_weekday o1_town_from o1_town_to o1_town_came o1_town_bride o1_town_told), (ce_i16 y o1_town_x fo1_town_x), (ce_i16 y o1_town_y fo1_town_y), (ce_i16 y o1_town_weekday fo1_town_weekday), (ce_i16 y o1_town_from fo1_town_from), (ce_i16 y o1_town_to fo1_town_to), (ce_X1 o1_debts o1_debts_size o1_debts_debtor o1_debts_creditor o1_debts_kind o1_debts_due o1_debts_came o1_debts_open o1_debts_kinds), (ce_i256 y o1_debts_kinds fo1_debts_kinds)] s.heap.size = A at hD ⊢
  have hA : ∀ q : Nat, s.heap.size ≤ q → A q := fun q h => by rw [← hAe]; exact Or.inr h
  have hS : va_S A s.heap s.heap [] := va_S.rf
  have hP : va_P G vwCl [(ce_X4 ob ob_planned ob_bestWorth ob_bestOver ob_length ob_order ob_owner ob_weekday ob_spots ob_spot ob_deadline ob_opens ob_closes ob_stays ob_apart ob_minute ob_soonest ob_sums), (ce_i10 y ob_order fob_order), (ce_i10 y ob_spot fob_spot), (ce_i16 y ob_opens fob_opens), (ce_i16 y ob_closes fob_closes), (ce_i16 y ob_stays fob_stays), (ce_i256 y ob_apart fob_apart), (ce_i10240 y ob_minute fob_minute), (ce_i1024 y ob_soonest fob_soonest), (ce_i1024 y ob_sums fob_sums), (ce_X6 o1 o1_town o1_code o1_debts o1_deeds o1_knows o1_day o1_paid o1_follows), (ce_X7 o1_town o1_town_houses o1_town_fresh o1_town_introducers o1_town_x o1_town_y o1_town_rank o1_town_weekday o1_town_from o1_town_to o1_town_came o1_town_bride o1_town_told), (ce_i16 y o1_town_x fo1_town_x), (ce_i16 y o1_town_y fo1_town_y), (ce_i16 y o1_town_weekday fo1_town_weekday), (ce_i16 y o1_town_from fo1_town_from), (ce_i16 y o1_town_to fo1_town_to), (ce_X1 o1_debts o1_debts_size o1_debts_debtor o1_debts_creditor o1_debts_kind o1_debts_due o1_debts_came o1_debts_open o1_debts_kinds), (ce_i256 y o1_debts_kinds fo1_debts_kinds)] s.heap := hP
  have hl := lv_entry ([.ref ob, .ref o1, .int a2, .int a3]) (n := 5) (Nat.le_of_ble_eq_true rfl)
  rw [lg_entry_eq]
  generalize (lg_sl ([.ref ob, .ref o1, .int a2, .int a3]) ++ List.replicate (5 - (lg_sl ([.ref ob, .ref o1, .int a2, .int a3])).length) Slot.unset).toArray = ls at hl ⊢
  have hl : lv_has ls 5 [(0, .ref ob), (1, .ref o1), (2, .int a2), (3, .int a3)] := hl
  refine lv_aload_n hx hb dX4_plan_0 rfl (lv_at hl 0 rfl) ?_
  refine va_get (D := G) (ci := 4) (v := .int ob_planned) (C := RX4) (T := TX4) (N := 17) hx hb hw0 inA_wsX40 hown hK.1 hP 0 rfl rfl 0 (by decide) (hw0 _ m_865) (fun _ h9 => h9) rfl dX4_plan_1 ?_
  refine cutW 27 (fun H locs ls st => st = [] ∧ vPD G A H [(ce_X4 ob ob_planned ob_bestWorth ob_bestOver ob_length ob_order ob_owner ob_weekday ob_spots ob_spot ob_deadline ob_opens ob_closes ob_stays ob_apart ob_minute ob_soonest ob_sums), (ce_i10 y ob_order fob_order), (ce_i10 y ob_spot fob_spot), (ce_i16 y ob_opens fob_opens), (ce_i16 y ob_closes fob_closes), (ce_i16 y ob_stays fob_stays), (ce_i256 y ob_apart fob_apart), (ce_i10240 y ob_minute fob_minute), (ce_i1024 y ob_soonest fob_soonest), (ce_i1024 y ob_sums fob_sums), (ce_X6 o1 o1_town o1_code o1_debts o1_deeds o1_knows o1_day o1_paid o1_follows), (ce_X7 o1_town o1_town_houses o1_town_fresh o1_town_introducers o1_town_x o1_town_y o1_town_rank o1_town_weekday o1_town_from o1_town_to o1_town_came o1_town_bride o1_town_told), (ce_i16 y o1_town_x fo1_town_x), (ce_i16 y o1_town_y fo1_town_y), (ce_i16 y o1_town_weekday fo1_town_weekday), (ce_i16 y o1_town_from fo1_town_from), (ce_i16 y o1_town_to fo1_town_to), (ce_X1 o1_debts o1_debts_size o1_debts_debtor o1_debts_creditor o1_debts_kind o1_debts_due o1_debts_came o1_debts_open o1_debts_kinds), (ce_i256 y o1_debts_kinds fo1_debts_kinds)] ∧ va_S A s.heap H locs ∧ lv_has ls 5 [(0, .ref ob), (1, .ref o1), (2, .int a2), (3, .int a3)]) ?_ (fun J_27_1004 => ?_)
  · rintro H locs ls st ⟨rfl, ⟨hP, hD⟩, hS, hl⟩
    refine lv_aload_n hx hb dX4_plan_27 rfl (lv_at hl 0 rfl) ?_
    refine lv_iconst (v := 1) hx hb dX4_plan_28 (by decide) ?_
    refine va_put (D := G) (ci := 4) (v := .int 1) (ty := .boolean) (C := RX4) (T := TX4) (N := 17) hx hb hw0 inA_wsX40 tyX4 tyX4_ok nmX4 hown hK.1 hP hD hS 0 rfl rfl 0 (by decide) (hw0 _ m_865) (fun _ h9 => h9) rfl fd_X4_0 rfl rfl (Nat.le_of_ble_eq_true rfl) dX4_plan_29 (fun H locs hP hD hS => ?_)
    obtain ⟨hP, hD⟩ : vPD G A H [(ce_X4 ob 1 ob_bestWorth ob_bestOver ob_length ob_order ob_owner ob_weekday ob_spots ob_spot ob_deadline ob_opens ob_closes ob_stays ob_apart ob_minute ob_soonest ob_sums), (ce_i10 y ob_order fob_order), (ce_i10 y ob_spot fob_spot), (ce_i16 y ob_opens fob_opens), (ce_i16 y ob_closes fob_closes), (ce_i16 y ob_stays fob_stays), (ce_i256 y ob_apart fob_apart), (ce_i10240 y ob_minute fob_minute), (ce_i1024 y ob_soonest fob_soonest), (ce_i1024 y ob_sums fob_sums), (ce_X6 o1 o1_town o1_code o1_debts o1_deeds o1_knows o1_day o1_paid o1_follows), (ce_X7 o1_town o1_town_houses o1_town_fresh o1_town_introducers o1_town_x o1_town_y o1_town_rank o1_town_weekday o1_town_from o1_town_to o1_town_came o1_town_bride o1_town_told), (ce_i16 y o1_town_x fo1_town_x), (ce_i16 y o1_town_y fo1_town_y), (ce_i16 y o1_town_weekday fo1_town_weekday), (ce_i16 y o1_town_from fo1_town_from), (ce_i16 y o1_town_to fo1_town_to), (ce_X1 o1_debts o1_debts_size o1_debts_debtor o1_debts_creditor o1_debts_kind o1_debts_due o1_debts_came o1_debts_open o1_debts_kinds), (ce_i256 y o1_debts_kinds fo1_debts_kinds)] := ⟨hP, hD⟩
    refine lv_aload_n hx hb dX4_plan_32 rfl (lv_at hl 0 rfl) ?_
    refine lv_iload_n hx hb dX4_plan_33 rfl (lv_at hl 2 rfl) ?_
    refine va_put (D := G) (ci := 4) (v := .int a2) (ty := .int) (C := RX4) (T := TX4) (N := 17) hx hb hw0 inA_wsX40 tyX4 tyX4_ok nmX4 hown hK.1 hP hD hS 0 rfl rfl 5 (by decide) (hw0 _ m_866) (fun _ h9 => h9) rfl fd_X4_5 rfl rfl (Nat.le_of_ble_eq_true rfl) dX4_plan_34 (fun H locs hP hD hS => ?_)
    obtain ⟨hP, hD⟩ : vPD G A H [(ce_X4 ob 1 ob_bestWorth ob_bestOver ob_length ob_order a2 ob_weekday ob_spots ob_spot ob_deadline ob_opens ob_closes ob_stays ob_apart ob_minute ob_soonest ob_sums), (ce_i10 y ob_order fob_order), (ce_i10 y ob_spot fob_spot), (ce_i16 y ob_opens fob_opens), (ce_i16 y ob_closes fob_closes), (ce_i16 y ob_stays fob_stays), (ce_i256 y ob_apart fob_apart), (ce_i10240 y ob_minute fob_minute), (ce_i1024 y ob_soonest fob_soonest), (ce_i1024 y ob_sums fob_sums), (ce_X6 o1 o1_town o1_code o1_debts o1_deeds o1_knows o1_day o1_paid o1_follows), (ce_X7 o1_town o1_town_houses o1_town_fresh o1_town_introducers o1_town_x o1_town_y o1_town_rank o1_town_weekday o1_town_from o1_town_to o1_town_came o1_town_bride o1_town_told), (ce_i16 y o1_town_x fo1_town_x), (ce_i16 y o1_town_y fo1_town_y), (ce_i16 y o1_town_weekday fo1_town_weekday), (ce_i16 y o1_town_from fo1_town_from), (ce_i16 y o1_town_to fo1_town_to), (ce_X1 o1_debts o1_debts_size o1_debts_debtor o1_debts_creditor o1_debts_kind o1_debts_due o1_debts_came o1_debts_open o1_debts_kinds), (ce_i256 y o1_debts_kinds fo1_debts_kinds)] := ⟨hP, hD⟩
    refine lv_aload_n hx hb dX4_plan_37 rfl (lv_at hl 0 rfl) ?_
    refine lv_iload_n hx hb dX4_plan_38 rfl (lv_at hl 3 rfl) ?_
    refine lv_bipush (v := 7) hx hb dX4_plan_39 (by decide) ?_
    refine lv_irem hx hb dX4_plan_41 (by decide) ?_
    refine lv_topi (fun v_1005 ev_1005 => ?_)
    have bv_1005 : (0 : Int) ≤ v_1005.toInt ∧ v_1005.toInt ≤ 6 := ba_rem 7 ev_1005 p_a3 (by decide) (by decide) (by decide)
    refine va_put (D := G) (ci := 4) (v := .int v_1005) (ty := .int) (C := RX4) (T := TX4) (N := 17) hx hb hw0 inA_wsX40 tyX4 tyX4_ok nmX4 hown hK.1 hP hD hS 0 rfl rfl 6 (by decide) (hw0 _ m_896) (fun _ h9 => h9) rfl fd_X4_6 rfl rfl (Nat.le_of_ble_eq_true rfl) dX4_plan_42 (fun H locs hP hD hS => ?_)
    obtain ⟨hP, hD⟩ : vPD G A H [(ce_X4 ob 1 ob_bestWorth ob_bestOver ob_length ob_order a2 v_1005 ob_spots ob_spot ob_deadline ob_opens ob_closes ob_stays ob_apart ob_minute ob_soonest ob_sums), (ce_i10 y ob_order fob_order), (ce_i10 y ob_spot fob_spot), (ce_i16 y ob_opens fob_opens), (ce_i16 y ob_closes fob_closes), (ce_i16 y ob_stays fob_stays), (ce_i256 y ob_apart fob_apart), (ce_i10240 y ob_minute fob_minute), (ce_i1024 y ob_soonest fob_soonest), (ce_i1024 y ob_sums fob_sums), (ce_X6 o1 o1_town o1_code o1_debts o1_deeds o1_knows o1_day o1_paid o1_follows), (ce_X7 o1_town o1_town_houses o1_town_fresh o1_town_introducers o1_town_x o1_town_y o1_town_rank o1_town_weekday o1_town_from o1_town_to o1_town_came o1_town_bride o1_town_told), (ce_i16 y o1_town_x fo1_town_x), (ce_i16 y o1_town_y fo1_town_y), (ce_i16 y o1_town_weekday fo1_town_weekday), (ce_i16 y o1_town_from fo1_town_from), (ce_i16 y o1_town_to fo1_town_to), (ce_X1 o1_debts o1_debts_size o1_debts_debtor o1_debts_creditor o1_debts_kind o1_debts_due o1_debts_came o1_debts_open o1_debts_kinds), (ce_i256 y o1_debts_kinds fo1_debts_kinds)] := ⟨hP, hD⟩
    refine lv_aload_n hx hb dX4_plan_45 rfl (lv_at hl 0 rfl) ?_
    refine lv_iconst (v := 0) hx hb dX4_plan_46 (by decide) ?_
    refine va_put (D := G) (ci := 4) (v := .int 0) (ty := .int) (C := RX4) (T := TX4) (N := 17) hx hb hw0 inA_wsX40 tyX4 tyX4_ok nmX4 hown hK.1 hP hD hS 0 rfl rfl 7 (by decide) (hw0 _ m_827) (fun _ h9 => h9) rfl fd_X4_7 rfl rfl (Nat.le_of_ble_eq_true rfl) dX4_plan_47 (fun H locs hP hD hS => ?_)
    obtain ⟨hP, hD⟩ : vPD G A H [(ce_X4 ob 1 ob_bestWorth ob_bestOver ob_length ob_order a2 v_1005 0 ob_spot ob_deadline ob_opens ob_closes ob_stays ob_apart ob_minute ob_soonest ob_sums), (ce_i10 y ob_order fob_order), (ce_i10 y ob_spot fob_spot), (ce_i16 y ob_opens fob_opens), (ce_i16 y ob_closes fob_closes), (ce_i16 y ob_stays fob_stays), (ce_i256 y ob_apart fob_apart), (ce_i10240 y ob_minute fob_minute), (ce_i1024 y ob_soonest fob_soonest), (ce_i1024 y ob_sums fob_sums), (ce_X6 o1 o1_town o1_code o1_debts o1_deeds o1_knows o1_day o1_paid o1_follows), (ce_X7 o1_town o1_town_houses o1_town_fresh o1_town_introducers o1_town_x o1_town_y o1_town_rank o1_town_weekday o1_town_from o1_town_to o1_town_came o1_town_bride o1_town_told), (ce_i16 y o1_town_x fo1_town_x), (ce_i16 y o1_town_y fo1_town_y), (ce_i16 y o1_town_weekday fo1_town_weekday), (ce_i16 y o1_town_from fo1_town_from), (ce_i16 y o1_town_to fo1_town_to), (ce_X1 o1_debts o1_debts_size o1_debts_debtor o1_debts_creditor o1_debts_kind o1_debts_due o1_debts_came o1_debts_open o1_debts_kinds), (ce_i256 y o1_debts_kinds fo1_debts_kinds)] := ⟨hP, hD⟩
    refine lv_iconst (v := 0) hx hb dX4_plan_50 (by decide) ?_
    refine lv_istore (lv' := [(4, .int 0), (0, .ref ob), (1, .ref o1), (2, .int a2), (3, .int a3)]) hx hb dX4_plan_51 hl (by decide) rfl (fun ls hl => ?_)
    refine loopX (fun n H locs ls st => ∃ (v_1345 : Int32) (v_1346 : Int32) (f_1347 : Nat → Int32), (16 - v_1345.toInt).toNat = n ∧ ((0 : Int) ≤ v_1345.toInt ∧ v_1345.toInt ≤ 16) ∧ ((0 : Int) ≤ v_1346.toInt ∧ v_1346.toInt ≤ 10) ∧ (∀ i, (0 : Int) ≤ (f_1347 i).toInt ∧ (f_1347 i).toInt ≤ 15) ∧ st = [] ∧ vPD G A H [(ce_X4 ob 1 ob_bestWorth ob_bestOver ob_length ob_order a2 v_1005 v_1346 ob_spot ob_deadline ob_opens ob_closes ob_stays ob_apart ob_minute ob_soonest ob_sums), (ce_i10 y ob_order fob_order), (ce_i10 y ob_spot f_1347), (ce_i16 y ob_opens fob_opens), (ce_i16 y ob_closes fob_closes), (ce_i16 y ob_stays fob_stays), (ce_i256 y ob_apart fob_apart), (ce_i10240 y ob_minute fob_minute), (ce_i1024 y ob_soonest fob_soonest), (ce_i1024 y ob_sums fob_sums), (ce_X6 o1 o1_town o1_code o1_debts o1_deeds o1_knows o1_day o1_paid o1_follows), (ce_X7 o1_town o1_town_houses o1_town_fresh o1_town_introducers o1_town_x o1_town_y o1_town_rank o1_town_weekday o1_town_from o1_town_to o1_town_came o1_town_bride o1_town_told), (ce_i16 y o1_town_x fo1_town_x), (ce_i16 y o1_town_y fo1_town_y), (ce_i16 y o1_town_weekday fo1_town_weekday), (ce_i16 y o1_town_from fo1_town_from), (ce_i16 y o1_town_to fo1_town_to), (ce_X1 o1_debts o1_debts_size o1_debts_debtor o1_debts_creditor o1_debts_kind o1_debts_due o1_debts_came o1_debts_open o1_debts_kinds), (ce_i256 y o1_debts_kinds fo1_debts_kinds)] ∧ va_S A s.heap H locs ∧ lv_has ls 5 [(4, .int v_1345), (0, .ref ob), (1, .ref o1), (2, .int a2), (3, .int a3)]) ?_ (n := (16 - (0 : Int32).toInt).toNat) ⟨0, 0, fob_spot, rfl, (bw (0) (16) (bkc (x := 0) (c := 0) (by decide)) (by decide)), (bw (0) (10) (bkc (x := 0) (c := 0) (by decide)) (by decide)), p_fob_spot, rfl, ⟨hP, hD⟩, hS, lv_sub hl [0, 1, 2, 3, 4] rfl⟩
    rintro n ih_1373 H locs ls st ⟨v_1345, v_1346, f_1347, hn_1373, bv_1345, bv_1346, bf_1347, rfl, ⟨hP, hD⟩, hS, hl⟩
    refine lv_iload hx hb dX4_plan_53 (lv_at hl 0 rfl) ?_
    refine lv_aload_n hx hb dX4_plan_55 rfl (lv_at hl 2 rfl) ?_
    refine va_get (D := G) (ci := 6) (v := .ref o1_town) (C := RX6) (T := TX6) (N := 8) hx hb hw0 inA_wsX60 hown hK.1 hP 10 rfl rfl 0 (by decide) (hw0 _ m_845) (fun _ h9 => h9) rfl dX4_plan_56 ?_
    refine va_get (D := G) (ci := 7) (v := .int o1_town_houses) (C := RX7) (T := TX7) (N := 12) hx hb hw0 inA_wsX70 hown hK.1 hP 11 rfl rfl 0 (by decide) (hw0 _ m_917) (fun _ h9 => h9) rfl dX4_plan_59 ?_
    refine cutW 114 (fun H locs ls st => st = [] ∧ vPD G A H [(ce_X4 ob 1 ob_bestWorth ob_bestOver ob_length ob_order a2 v_1005 v_1346 ob_spot ob_deadline ob_opens ob_closes ob_stays ob_apart ob_minute ob_soonest ob_sums), (ce_i10 y ob_order fob_order), (ce_i10 y ob_spot f_1347), (ce_i16 y ob_opens fob_opens), (ce_i16 y ob_closes fob_closes), (ce_i16 y ob_stays fob_stays), (ce_i256 y ob_apart fob_apart), (ce_i10240 y ob_minute fob_minute), (ce_i1024 y ob_soonest fob_soonest), (ce_i1024 y ob_sums fob_sums), (ce_X6 o1 o1_town o1_code o1_debts o1_deeds o1_knows o1_day o1_paid o1_follows), (ce_X7 o1_town o1_town_houses o1_town_fresh o1_town_introducers o1_town_x o1_town_y o1_town_rank o1_town_weekday o1_town_from o1_town_to o1_town_came o1_town_bride o1_town_told), (ce_i16 y o1_town_x fo1_town_x), (ce_i16 y o1_town_y fo1_town_y), (ce_i16 y o1_town_weekday fo1_town_weekday), (ce_i16 y o1_town_from fo1_town_from), (ce_i16 y o1_town_to fo1_town_to), (ce_X1 o1_debts o1_debts_size o1_debts_debtor o1_debts_creditor o1_debts_kind o1_debts_due o1_debts_came o1_debts_open o1_debts_kinds), (ce_i256 y o1_debts_kinds fo1_debts_kinds)] ∧ va_S A s.heap H locs ∧ lv_has ls 5 [(0, .ref ob), (1, .ref o1), (2, .int a2), (3, .int a3)]) ?_ (fun J_114_1386 => ?_)
    · rintro H locs ls st ⟨rfl, ⟨hP, hD⟩, hS, hl⟩
      refine lv_aload_n hx hb dX4_plan_114 rfl (lv_at hl 0 rfl) ?_
      refine lv_aload_n hx hb dX4_plan_115 rfl (lv_at hl 1 rfl) ?_
      refine lv_iload_n hx hb dX4_plan_116 rfl (lv_at hl 2 rfl) ?_
      refine cVvm (As := [.ref o1, .int a2]) (rest := []) ⟨hx, hb, hml, hown, hw0⟩ hA hK hP hD hS [true, false, true, true, true, true, true, false, false, false, true, true, true, true, false, true, true, true, true] (sX4_lookAtSpots l G y _ ob o1 a2 1 ob_bestWorth ob_bestOver ob_length ob_order a2 v_1005 v_1346 ob_spot ob_deadline ob_opens ob_closes ob_stays ob_apart ob_minute ob_soonest ob_sums f_1347 fob_opens fob_closes fob_stays fob_apart o1_town o1_code o1_debts o1_deeds o1_knows o1_day o1_paid o1_follows o1_town_houses o1_town_fresh o1_town_introducers o1_town_x o1_town_y o1_town_rank o1_town_weekday o1_town_from o1_town_to o1_town_came o1_town_bride o1_town_told fo1_town_x fo1_town_y fo1_town_from fo1_town_to o1_debts_size o1_debts_debtor o1_debts_creditor o1_debts_kind o1_debts_due o1_debts_came o1_debts_open o1_debts_kinds fo1_debts_kinds (bw (0) (1) (bkc (x := 1) (c := 1) (by decide)) (by decide)) p_ob_length bv_1346 bf_1347 p_o1_town_houses p_o1_debts_size p_o1_day p_a2) rfl ⟨(callB_of 2 hw0 (gA m_910) rfl rfl rfl (hw0 _ m_839) (hw0 _ m_870) cb_X4_lookAtSpots ⟨Nat.le_of_ble_eq_true rfl, Nat.le_of_ble_eq_true rfl⟩), (hw0 _ m_871), (hw0 _ m_872)⟩ (ci := 4) (q := (RX4, TX4, 17)) rfl rfl rfl hl.1 (Nat.le_of_ble_eq_true rfl) dX4_plan_117 ⟨Nat.le_of_ble_eq_true rfl, Nat.le_of_ble_eq_true rfl⟩ (fun w_1387 H locs hw_1387 hP hD hS => ?_)
      obtain ⟨f_1388, f_1389, f_1390, f_1391, rfl⟩ := hw_1387
      obtain ⟨hP, hD⟩ : vPD G A H [(ce_X4 ob 1 ob_bestWorth ob_bestOver ob_length ob_order a2 v_1005 v_1346 ob_spot ob_deadline ob_opens ob_closes ob_stays ob_apart ob_minute ob_soonest ob_sums), (ce_i10 y ob_order fob_order), (ce_i10 y ob_spot f_1347), (ce_i16 y ob_opens f_1388), (ce_i16 y ob_closes f_1389), (ce_i16 y ob_stays f_1390), (ce_i256 y ob_apart f_1391), (ce_i10240 y ob_minute fob_minute), (ce_i1024 y ob_soonest fob_soonest), (ce_i1024 y ob_sums fob_sums), (ce_X6 o1 o1_town o1_code o1_debts o1_deeds o1_knows o1_day o1_paid o1_follows), (ce_X7 o1_town o1_town_houses o1_town_fresh o1_town_introducers o1_town_x o1_town_y o1_town_rank o1_town_weekday o1_town_from o1_town_to o1_town_came o1_town_bride o1_town_told), (ce_i16 y o1_town_x fo1_town_x), (ce_i16 y o1_town_y fo1_town_y), (ce_i16 y o1_town_weekday fo1_town_weekday), (ce_i16 y o1_town_from fo1_town_from), (ce_i16 y o1_town_to fo1_town_to), (ce_X1 o1_debts o1_debts_size o1_debts_debtor o1_debts_creditor o1_debts_kind o1_debts_due o1_debts_came o1_debts_open o1_debts_kinds), (ce_i256 y o1_debts_kinds fo1_debts_kinds)] := ⟨hP, hD⟩
      refine lv_aload_n hx hb dX4_plan_120 rfl (lv_at hl 0 rfl) ?_
      refine lv_iload_n hx hb dX4_plan_121 rfl (lv_at hl 2 rfl) ?_
      refine lv_aload_n hx hb dX4_plan_122 rfl (lv_at hl 0 rfl) ?_
      refine lv_aload_n hx hb dX4_plan_123 rfl (lv_at hl 1 rfl) ?_
      refine lv_iload_n hx hb dX4_plan_124 rfl (lv_at hl 3 rfl) ?_
      refine cVim (As := [.ref o1, .int a3]) (rest := [.int a2, .ref ob]) ⟨hx, hb, hml, hown, hw0⟩ hA hK hP hD hS [true, false, true, false, false, false, false, false, false, false, true, true, false, false, true, false, false, true, true] (sX4_openSpots l G y _ ob o1 a3 1 ob_bestWorth ob_bestOver ob_length ob_order a2 v_1005 v_1346 ob_spot ob_deadline ob_opens ob_closes ob_stays ob_apart ob_minute ob_soonest ob_sums f_1347 o1_town o1_code o1_debts o1_deeds o1_knows o1_day o1_paid o1_follows o1_town_houses o1_town_fresh o1_town_introducers o1_town_x o1_town_y o1_town_rank o1_town_weekday o1_town_from o1_town_to o1_town_came o1_town_bride o1_town_told fo1_town_weekday o1_debts_size o1_debts_debtor o1_debts_creditor o1_debts_kind o1_debts_due o1_debts_came o1_debts_open o1_debts_kinds fo1_debts_kinds (bw (0) (1) (bkc (x := 1) (c := 1) (by decide)) (by decide)) p_ob_length bv_1346 bf_1347 p_o1_town_houses p_o1_debts_size p_o1_day (bw (0) (405) p_a3 (by decide)) p_a2) rfl ⟨(callB_of 2 hw0 (gA m_915) rfl rfl rfl (hw0 _ m_839) (hw0 _ m_876) cb_X4_openSpots ⟨Nat.le_of_ble_eq_true rfl, Nat.le_of_ble_eq_true rfl⟩), (hw0 _ m_877), (hw0 _ m_878)⟩ (ci := 4) (q := (RX4, TX4, 17)) rfl rfl rfl hl.1 (Nat.le_of_ble_eq_true rfl) dX4_plan_125 ⟨Nat.le_of_ble_eq_true rfl, Nat.le_of_ble_eq_true rfl⟩ (fun r_1392 w_1392 H locs hw_1392 hP hD hS => ?_)
      obtain ⟨v_1393, bv_1393, er_1392, rfl⟩ := hw_1392
      subst r_1392
      obtain ⟨hP, hD⟩ : vPD G A H [(ce_X4 ob 1 ob_bestWorth ob_bestOver ob_length ob_order a2 v_1005 v_1346 ob_spot ob_deadline ob_opens ob_closes ob_stays ob_apart ob_minute ob_soonest ob_sums), (ce_i10 y ob_order fob_order), (ce_i10 y ob_spot f_1347), (ce_i16 y ob_opens f_1388), (ce_i16 y ob_closes f_1389), (ce_i16 y ob_stays f_1390), (ce_i256 y ob_apart f_1391), (ce_i10240 y ob_minute fob_minute), (ce_i1024 y ob_soonest fob_soonest), (ce_i1024 y ob_sums fob_sums), (ce_X6 o1 o1_town o1_code o1_debts o1_deeds o1_knows o1_day o1_paid o1_follows), (ce_X7 o1_town o1_town_houses o1_town_fresh o1_town_introducers o1_town_x o1_town_y o1_town_rank o1_town_weekday o1_town_from o1_town_to o1_town_came o1_town_bride o1_town_told), (ce_i16 y o1_town_x fo1_town_x), (ce_i16 y o1_town_y fo1_town_y), (ce_i16 y o1_town_weekday fo1_town_weekday), (ce_i16 y o1_town_from fo1_town_from), (ce_i16 y o1_town_to fo1_town_to), (ce_X1 o1_debts o1_debts_size o1_debts_debtor o1_debts_creditor o1_debts_kind o1_debts_due o1_debts_came o1_debts_open o1_debts_kinds), (ce_i256 y o1_debts_kinds fo1_debts_kinds)] := ⟨hP, hD⟩
      refine cVvm (As := [.int a2, .int v_1393]) (rest := []) ⟨hx, hb, hml, hown, hw0⟩ hA hK hP hD hS [true, false, true, true, true, true, true, true, true] (sX4_reckonMinutes l G y _ ob a2 v_1393 1 ob_bestWorth ob_bestOver ob_length ob_order a2 v_1005 v_1346 ob_spot ob_deadline ob_opens ob_closes ob_stays ob_apart ob_minute ob_soonest ob_sums f_1347 f_1388 f_1389 f_1390 f_1391 fob_minute fob_soonest (bw (0) (1) (bkc (x := 1) (c := 1) (by decide)) (by decide)) p_ob_length bv_1346 bf_1347 p_a2) rfl ⟨(callB_of 2 hw0 (gA m_933) rfl rfl rfl (hw0 _ m_839) (hw0 _ m_873) cb_X4_reckonMinutes ⟨Nat.le_of_ble_eq_true rfl, Nat.le_of_ble_eq_true rfl⟩), (hw0 _ m_874), (hw0 _ m_875)⟩ (ci := 4) (q := (RX4, TX4, 17)) rfl rfl rfl hl.1 (Nat.le_of_ble_eq_true rfl) dX4_plan_128 ⟨Nat.le_of_ble_eq_true rfl, Nat.le_of_ble_eq_true rfl⟩ (fun w_1394 H locs hw_1394 hP hD hS => ?_)
      obtain ⟨f_1395, f_1396, rfl⟩ := hw_1394
      obtain ⟨hP, hD⟩ : vPD G A H [(ce_X4 ob 1 ob_bestWorth ob_bestOver ob_length ob_order a2 v_1005 v_1346 ob_spot ob_deadline ob_opens ob_closes ob_stays ob_apart ob_minute ob_soonest ob_sums), (ce_i10 y ob_order fob_order), (ce_i10 y ob_spot f_1347), (ce_i16 y ob_opens f_1388), (ce_i16 y ob_closes f_1389), (ce_i16 y ob_stays f_1390), (ce_i256 y ob_apart f_1391), (ce_i10240 y ob_minute f_1395), (ce_i1024 y ob_soonest f_1396), (ce_i1024 y ob_sums fob_sums), (ce_X6 o1 o1_town o1_code o1_debts o1_deeds o1_knows o1_day o1_paid o1_follows), (ce_X7 o1_town o1_town_houses o1_town_fresh o1_town_introducers o1_town_x o1_town_y o1_town_rank o1_town_weekday o1_town_from o1_town_to o1_town_came o1_town_bride o1_town_told), (ce_i16 y o1_town_x fo1_town_x), (ce_i16 y o1_town_y fo1_town_y), (ce_i16 y o1_town_weekday fo1_town_weekday), (ce_i16 y o1_town_from fo1_town_from), (ce_i16 y o1_town_to fo1_town_to), (ce_X1 o1_debts o1_debts_size o1_debts_debtor o1_debts_creditor o1_debts_kind o1_debts_due o1_debts_came o1_debts_open o1_debts_kinds), (ce_i256 y o1_debts_kinds fo1_debts_kinds)] := ⟨hP, hD⟩
      refine lv_aload_n hx hb dX4_plan_131 rfl (lv_at hl 0 rfl) ?_
      refine lv_aload_n hx hb dX4_plan_132 rfl (lv_at hl 1 rfl) ?_
      refine lv_iload_n hx hb dX4_plan_133 rfl (lv_at hl 2 rfl) ?_
      refine cVim (As := [.ref o1, .int a2]) (rest := []) ⟨hx, hb, hml, hown, hw0⟩ hA hK hP hD hS [true, false, true, false, false, false, false, false, true, true, true, false, false, false, false, false, false, true, true] (sX4_bestSet l G y _ ob o1 a2 1 ob_bestWorth ob_bestOver ob_length ob_order a2 v_1005 v_1346 ob_spot ob_deadline ob_opens ob_closes ob_stays ob_apart ob_minute ob_soonest ob_sums f_1347 f_1396 fob_sums o1_town o1_code o1_debts o1_deeds o1_knows o1_day o1_paid o1_follows o1_debts_size o1_debts_debtor o1_debts_creditor o1_debts_kind o1_debts_due o1_debts_came o1_debts_open o1_debts_kinds fo1_debts_kinds (bw (0) (1) (bkc (x := 1) (c := 1) (by decide)) (by decide)) p_ob_length bv_1346 bf_1347 p_o1_debts_size p_o1_day p_a2) rfl ⟨(callB_of 2 hw0 (gA m_830) rfl rfl rfl (hw0 _ m_839) (hw0 _ m_918) cb_X4_bestSet ⟨Nat.le_of_ble_eq_true rfl, Nat.le_of_ble_eq_true rfl⟩), (hw0 _ m_919), (hw0 _ m_920)⟩ (ci := 4) (q := (RX4, TX4, 17)) rfl rfl rfl hl.1 (Nat.le_of_ble_eq_true rfl) dX4_plan_134 ⟨Nat.le_of_ble_eq_true rfl, Nat.le_of_ble_eq_true rfl⟩ (fun r_1397 w_1397 H locs hw_1397 hP hD hS => ?_)
      obtain ⟨v_1398, v_1399, v_1400, f_1401, bv_1398, bv_1400, er_1397, rfl⟩ := hw_1397
      subst r_1397
      obtain ⟨hP, hD⟩ : vPD G A H [(ce_X4 ob 1 v_1399 v_1400 ob_length ob_order a2 v_1005 v_1346 ob_spot ob_deadline ob_opens ob_closes ob_stays ob_apart ob_minute ob_soonest ob_sums), (ce_i10 y ob_order fob_order), (ce_i10 y ob_spot f_1347), (ce_i16 y ob_opens f_1388), (ce_i16 y ob_closes f_1389), (ce_i16 y ob_stays f_1390), (ce_i256 y ob_apart f_1391), (ce_i10240 y ob_minute f_1395), (ce_i1024 y ob_soonest f_1396), (ce_i1024 y ob_sums f_1401), (ce_X6 o1 o1_town o1_code o1_debts o1_deeds o1_knows o1_day o1_paid o1_follows), (ce_X7 o1_town o1_town_houses o1_town_fresh o1_town_introducers o1_town_x o1_town_y o1_town_rank o1_town_weekday o1_town_from o1_town_to o1_town_came o1_town_bride o1_town_told), (ce_i16 y o1_town_x fo1_town_x), (ce_i16 y o1_town_y fo1_town_y), (ce_i16 y o1_town_weekday fo1_town_weekday), (ce_i16 y o1_town_from fo1_town_from), (ce_i16 y o1_town_to fo1_town_to), (ce_X1 o1_debts o1_debts_size o1_debts_debtor o1_debts_creditor o1_debts_kind o1_debts_due o1_debts_came o1_debts_open o1_debts_kinds), (ce_i256 y o1_debts_kinds fo1_debts_kinds)] := ⟨hP, hD⟩
      refine lv_istore (lv' := [(4, .int v_1398), (0, .ref ob), (1, .ref o1), (2, .int a2), (3, .int a3)]) hx hb dX4_plan_137 hl (by decide) rfl (fun ls hl => ?_)
      refine lv_aload_n hx hb dX4_plan_139 rfl (lv_at hl 1 rfl) ?_
      refine lv_iload hx hb dX4_plan_140 (lv_at hl 0 rfl) ?_
      refine lv_aload_n hx hb dX4_plan_142 rfl (lv_at hl 1 rfl) ?_
      refine va_get (D := G) (ci := 4) (v := .int v_1400) (C := RX4) (T := TX4) (N := 17) hx hb hw0 inA_wsX40 hown hK.1 hP 0 rfl rfl 2 (by decide) (hw0 _ m_832) (fun _ h9 => h9) rfl dX4_plan_143 ?_
      refine cVvm (As := [.int v_1398, .int v_1400]) (rest := []) ⟨hx, hb, hml, hown, hw0⟩ hA hK hP hD hS [true, false, true, true, true, true, true, true] (sX4_reckonLatest l G y _ ob v_1398 v_1400 1 v_1399 v_1400 ob_length ob_order a2 v_1005 v_1346 ob_spot ob_deadline ob_opens ob_closes ob_stays ob_apart ob_minute ob_soonest ob_sums f_1347 f_1388 f_1389 f_1390 f_1391 f_1395 (bw (0) (1) (bkc (x := 1) (c := 1) (by decide)) (by decide)) p_ob_length bv_1346 bf_1347 bv_1398) rfl ⟨(callB_of 2 hw0 (gA m_929) rfl rfl rfl (hw0 _ m_839) (hw0 _ m_921) cb_X4_reckonLatest ⟨Nat.le_of_ble_eq_true rfl, Nat.le_of_ble_eq_true rfl⟩), (hw0 _ m_922), (hw0 _ m_923)⟩ (ci := 4) (q := (RX4, TX4, 17)) rfl rfl rfl hl.1 (Nat.le_of_ble_eq_true rfl) dX4_plan_146 ⟨Nat.le_of_ble_eq_true rfl, Nat.le_of_ble_eq_true rfl⟩ (fun w_1402 H locs hw_1402 hP hD hS => ?_)
      obtain ⟨f_1403, rfl⟩ := hw_1402
      obtain ⟨hP, hD⟩ : vPD G A H [(ce_X4 ob 1 v_1399 v_1400 ob_length ob_order a2 v_1005 v_1346 ob_spot ob_deadline ob_opens ob_closes ob_stays ob_apart ob_minute ob_soonest ob_sums), (ce_i10 y ob_order fob_order), (ce_i10 y ob_spot f_1347), (ce_i16 y ob_opens f_1388), (ce_i16 y ob_closes f_1389), (ce_i16 y ob_stays f_1390), (ce_i256 y ob_apart f_1391), (ce_i10240 y ob_minute f_1403), (ce_i1024 y ob_soonest f_1396), (ce_i1024 y ob_sums f_1401), (ce_X6 o1 o1_town o1_code o1_debts o1_deeds o1_knows o1_day o1_paid o1_follows), (ce_X7 o1_town o1_town_houses o1_town_fresh o1_town_introducers o1_town_x o1_town_y o1_town_rank o1_town_weekday o1_town_from o1_town_to o1_town_came o1_town_bride o1_town_told), (ce_i16 y o1_town_x fo1_town_x), (ce_i16 y o1_town_y fo1_town_y), (ce_i16 y o1_town_weekday fo1_town_weekday), (ce_i16 y o1_town_from fo1_town_from), (ce_i16 y o1_town_to fo1_town_to), (ce_X1 o1_debts o1_debts_size o1_debts_debtor o1_debts_creditor o1_debts_kind o1_debts_due o1_debts_came o1_debts_open o1_debts_kinds), (ce_i256 y o1_debts_kinds fo1_debts_kinds)] := ⟨hP, hD⟩
      refine lv_aload_n hx hb dX4_plan_149 rfl (lv_at hl 1 rfl) ?_
      refine lv_iload_n hx hb dX4_plan_150 rfl (lv_at hl 3 rfl) ?_
      refine lv_iload hx hb dX4_plan_151 (lv_at hl 0 rfl) ?_
      refine cVvm (As := [.int a2, .int v_1398]) (rest := []) ⟨hx, hb, hml, hown, hw0⟩ hA hK hP hD hS [true, true, true, true, true, true, true, true] (sX4_putInOrder l G y _ ob a2 v_1398 1 v_1399 v_1400 ob_length ob_order a2 v_1005 v_1346 ob_spot ob_deadline ob_opens ob_closes ob_stays ob_apart ob_minute ob_soonest ob_sums fob_order f_1347 f_1388 f_1389 f_1390 f_1391 f_1403 (bw (0) (1) (bkc (x := 1) (c := 1) (by decide)) (by decide)) p_ob_length bv_1346 bf_1347 p_a2 bv_1398) rfl ⟨(callB_of 2 hw0 (gA m_927) rfl rfl rfl (hw0 _ m_839) (hw0 _ m_924) cb_X4_putInOrder ⟨Nat.le_of_ble_eq_true rfl, Nat.le_of_ble_eq_true rfl⟩), (hw0 _ m_925), (hw0 _ m_926)⟩ (ci := 4) (q := (RX4, TX4, 17)) rfl rfl rfl hl.1 (Nat.le_of_ble_eq_true rfl) dX4_plan_153 ⟨Nat.le_of_ble_eq_true rfl, Nat.le_of_ble_eq_true rfl⟩ (fun w_1404 H locs hw_1404 hP hD hS => ?_)
      obtain ⟨v_1405, f_1406, bv_1405, rfl⟩ := hw_1404
      obtain ⟨hP, hD⟩ : vPD G A H [(ce_X4 ob 1 v_1399 v_1400 v_1405 ob_order a2 v_1005 v_1346 ob_spot ob_deadline ob_opens ob_closes ob_stays ob_apart ob_minute ob_soonest ob_sums), (ce_i10 y ob_order f_1406), (ce_i10 y ob_spot f_1347), (ce_i16 y ob_opens f_1388), (ce_i16 y ob_closes f_1389), (ce_i16 y ob_stays f_1390), (ce_i256 y ob_apart f_1391), (ce_i10240 y ob_minute f_1403), (ce_i1024 y ob_soonest f_1396), (ce_i1024 y ob_sums f_1401), (ce_X6 o1 o1_town o1_code o1_debts o1_deeds o1_knows o1_day o1_paid o1_follows), (ce_X7 o1_town o1_town_houses o1_town_fresh o1_town_introducers o1_town_x o1_town_y o1_town_rank o1_town_weekday o1_town_from o1_town_to o1_town_came o1_town_bride o1_town_told), (ce_i16 y o1_town_x fo1_town_x), (ce_i16 y o1_town_y fo1_town_y), (ce_i16 y o1_town_weekday fo1_town_weekday), (ce_i16 y o1_town_from fo1_town_from), (ce_i16 y o1_town_to fo1_town_to), (ce_X1 o1_debts o1_debts_size o1_debts_debtor o1_debts_creditor o1_debts_kind o1_debts_due o1_debts_came o1_debts_open o1_debts_kinds), (ce_i256 y o1_debts_kinds fo1_debts_kinds)] := ⟨hP, hD⟩
      exact W.vret hx hb hr (fun t ht hW => ⟨⟨_, rfl, ⟨1, v_1399, v_1400, v_1405, a2, v_1005, v_1346, f_1406, f_1347, f_1388, f_1389, f_1390, f_1391, f_1403, f_1396, f_1401, (bkc (x := 1) (c := 1) (by decide)), bv_1405, p_a2, bv_1005, bv_1346, bf_1347, rfl⟩, by rw [ht]; exact hP, hD⟩, hS.F ht⟩) hS.2.2 dX4_plan_156
    · skip
      refine lv_icmp_ge (tgt := 114) hx hb dX4_plan_62 (by decide) (fun c_1407 => ?_) (fun c_1407 => ?_)
      · skip
        have nc_1407 := nb_le (16) (0) c_1407 p_o1_town_houses bv_1345 (by decide)
        exact J_114_1386 _ _ _ _ ⟨rfl, ⟨hP, hD⟩, hS, lv_sub hl [1, 2, 3, 4] rfl⟩
      · skip
        have nc_1407 := nb_nle (15) (1) c_1407 bv_1345 p_o1_town_houses (by decide)
        refine lv_aload_n hx hb dX4_plan_65 rfl (lv_at hl 1 rfl) ?_
        refine va_get (D := G) (ci := 4) (v := .int v_1346) (C := RX4) (T := TX4) (N := 17) hx hb hw0 inA_wsX40 hown hK.1 hP 0 rfl rfl 7 (by decide) (hw0 _ m_827) (fun _ h9 => h9) rfl dX4_plan_66 ?_
        refine lv_bipush (v := 10) hx hb dX4_plan_69 (by decide) ?_
        refine lv_icmp_ge (tgt := 114) hx hb dX4_plan_71 (by decide) (fun c_1408 => ?_) (fun c_1408 => ?_)
        · skip
          have nc_1408 := nb_le (10) (10) c_1408 (bkc (x := 10) (c := 10) (by decide)) bv_1346 (by decide)
          exact J_114_1386 _ _ _ _ ⟨rfl, ⟨hP, hD⟩, hS, lv_sub hl [1, 2, 3, 4] rfl⟩
        · skip
          have nc_1408 := nb_nle (9) (10) c_1408 bv_1346 (bkc (x := 10) (c := 10) (by decide)) (by decide)
          refine lv_aload_n hx hb dX4_plan_74 rfl (lv_at hl 2 rfl) ?_
          refine va_get (D := G) (ci := 6) (v := .ref o1_debts) (C := RX6) (T := TX6) (N := 8) hx hb hw0 inA_wsX60 hown hK.1 hP 10 rfl rfl 2 (by decide) (hw0 _ m_836) (fun _ h9 => h9) rfl dX4_plan_75 ?_
          refine lv_iload_n hx hb dX4_plan_78 rfl (lv_at hl 3 rfl) ?_
          refine lv_iload hx hb dX4_plan_79 (lv_at hl 0 rfl) ?_
          refine cVim (As := [.int a2, .int v_1345]) (rest := []) ⟨hx, hb, hml, hown, hw0⟩ hA hK hP hD hS [false, false, false, false, false, false, false, false, false, false, false, false, false, false, false, false, false, true, true] (sX1_kindsOf l G y _ o1_debts a2 v_1345 o1_debts_size o1_debts_debtor o1_debts_creditor o1_debts_kind o1_debts_due o1_debts_came o1_debts_open o1_debts_kinds fo1_debts_kinds p_o1_debts_size p_a2 nc_1407.1) rfl ⟨(callB_of 2 hw0 (gA m_323) rfl rfl rfl (hw0 _ m_330) (hw0 _ m_837) cb_X1_kindsOf ⟨Nat.le_of_ble_eq_true rfl, Nat.le_of_ble_eq_true rfl⟩), (hw0 _ m_331), (hw0 _ m_332)⟩ (ci := 1) (q := (RX1, TX1, 8)) rfl rfl rfl hl.1 (Nat.le_of_ble_eq_true rfl) dX4_plan_81 ⟨Nat.le_of_ble_eq_true rfl, Nat.le_of_ble_eq_true rfl⟩ (fun r_1409 w_1409 H locs hw_1409 hP hD hS => ?_)
          obtain ⟨v_1410, er_1409, rfl⟩ := hw_1409
          subst r_1409
          obtain ⟨hP, hD⟩ : vPD G A H [(ce_X4 ob 1 ob_bestWorth ob_bestOver ob_length ob_order a2 v_1005 v_1346 ob_spot ob_deadline ob_opens ob_closes ob_stays ob_apart ob_minute ob_soonest ob_sums), (ce_i10 y ob_order fob_order), (ce_i10 y ob_spot f_1347), (ce_i16 y ob_opens fob_opens), (ce_i16 y ob_closes fob_closes), (ce_i16 y ob_stays fob_stays), (ce_i256 y ob_apart fob_apart), (ce_i10240 y ob_minute fob_minute), (ce_i1024 y ob_soonest fob_soonest), (ce_i1024 y ob_sums fob_sums), (ce_X6 o1 o1_town o1_code o1_debts o1_deeds o1_knows o1_day o1_paid o1_follows), (ce_X7 o1_town o1_town_houses o1_town_fresh o1_town_introducers o1_town_x o1_town_y o1_town_rank o1_town_weekday o1_town_from o1_town_to o1_town_came o1_town_bride o1_town_told), (ce_i16 y o1_town_x fo1_town_x), (ce_i16 y o1_town_y fo1_town_y), (ce_i16 y o1_town_weekday fo1_town_weekday), (ce_i16 y o1_town_from fo1_town_from), (ce_i16 y o1_town_to fo1_town_to), (ce_X1 o1_debts o1_debts_size o1_debts_debtor o1_debts_creditor o1_debts_kind o1_debts_due o1_debts_came o1_debts_open o1_debts_kinds), (ce_i256 y o1_debts_kinds fo1_debts_kinds)] := ⟨hP, hD⟩
          refine cutW 108 (fun H locs ls st => ∃ (v_1414 : Int32) (f_1415 : Nat → Int32), ((0 : Int) ≤ v_1414.toInt ∧ v_1414.toInt ≤ 10) ∧ (∀ i, (0 : Int) ≤ (f_1415 i).toInt ∧ (f_1415 i).toInt ≤ 15) ∧ st = [] ∧ vPD G A H [(ce_X4 ob 1 ob_bestWorth ob_bestOver ob_length ob_order a2 v_1005 v_1414 ob_spot ob_deadline ob_opens ob_closes ob_stays ob_apart ob_minute ob_soonest ob_sums), (ce_i10 y ob_order fob_order), (ce_i10 y ob_spot f_1415), (ce_i16 y ob_opens fob_opens), (ce_i16 y ob_closes fob_closes), (ce_i16 y ob_stays fob_stays), (ce_i256 y ob_apart fob_apart), (ce_i10240 y ob_minute fob_minute), (ce_i1024 y ob_soonest fob_soonest), (ce_i1024 y ob_sums fob_sums), (ce_X6 o1 o1_town o1_code o1_debts o1_deeds o1_knows o1_day o1_paid o1_follows), (ce_X7 o1_town o1_town_houses o1_town_fresh o1_town_introducers o1_town_x o1_town_y o1_town_rank o1_town_weekday o1_town_from o1_town_to o1_town_came o1_town_bride o1_town_told), (ce_i16 y o1_town_x fo1_town_x), (ce_i16 y o1_town_y fo1_town_y), (ce_i16 y o1_town_weekday fo1_town_weekday), (ce_i16 y o1_town_from fo1_town_from), (ce_i16 y o1_town_to fo1_town_to), (ce_X1 o1_debts o1_debts_size o1_debts_debtor o1_debts_creditor o1_debts_kind o1_debts_due o1_debts_came o1_debts_open o1_debts_kinds), (ce_i256 y o1_debts_kinds fo1_debts_kinds)] ∧ va_S A s.heap H locs ∧ lv_has ls 5 [(4, .int v_1345), (0, .ref ob), (1, .ref o1), (2, .int a2), (3, .int a3)]) ?_ (fun J_108_1415 => ?_)
          · rintro H locs ls st ⟨v_1414, f_1415, bv_1414, bf_1415, rfl, ⟨hP, hD⟩, hS, hl⟩
            obtain ⟨v_1416, ev_1416⟩ : ∃ z : Int32, z = v_1345 + 1 := ⟨_, rfl⟩
            have qv_1416 := ba_add ev_1416 nc_1407.1 (bkc (x := 1) (c := 1) (by decide)) (by decide)
            have bv_1416 : (1 : Int) ≤ v_1416.toInt ∧ v_1416.toInt ≤ 16 := bq_add qv_1416 nc_1407.1 (bkc (x := 1) (c := 1) (by decide)) _ _ (by decide)
            have qv_1416 : v_1416.toInt = v_1345.toInt + (1) := qv_1416
            refine lv_iinc (v := v_1416) (lv' := [(4, .int v_1416), (0, .ref ob), (1, .ref o1), (2, .int a2), (3, .int a3)]) hx hb dX4_plan_108 hl (k := 0) rfl (ev_1416.symm) (by decide) rfl (fun ls hl => ?_)
            refine lv_goto (tgt := 53) hx hb dX4_plan_111 (by decide) ?_
            exact ih_1373 _ (ml_inc (hi := 16) hn_1373 qv_1416 (by decide) ((bw (0) (16) bv_1416 (by decide))).2) _ _ _ _ ⟨v_1416, v_1414, f_1415, rfl, (bw (0) (16) bv_1416 (by decide)), bv_1414, bf_1415, rfl, ⟨hP, hD⟩, hS, lv_sub hl [0, 1, 2, 3, 4] rfl⟩
          · skip
            refine lv_if_eq (tgt := 108) hx hb dX4_plan_84 (by decide) (fun c_1417 => ?_) (fun c_1417 => ?_)
            · skip
              have nc_1417 := nb_eq (0) (0) c_1417 (btop v_1410) (bkc (x := 0) (c := 0) (by decide)) (by decide)
              exact J_108_1415 _ _ _ _ ⟨v_1346, f_1347, (bw (0) (10) nc_1408.1 (by decide)), bf_1347, rfl, ⟨hP, hD⟩, hS, lv_sub hl [0, 1, 2, 3, 4] rfl⟩
            · skip
              have nc_1417 := nb_ne (-2147483648) (2147483647) c_1417 (btop v_1410) (k := 0) (by decide) (by decide)
              refine lv_aload_n hx hb dX4_plan_87 rfl (lv_at hl 1 rfl) ?_
              refine va_get (D := G) (ci := 4) (v := .ref ob_spot) (C := RX4) (T := TX4) (N := 17) hx hb hw0 inA_wsX40 hown hK.1 hP 0 rfl rfl 8 (by decide) (hw0 _ m_829) (fun _ h9 => h9) rfl dX4_plan_88 ?_
              refine lv_aload_n hx hb dX4_plan_91 rfl (lv_at hl 1 rfl) ?_
              refine va_get (D := G) (ci := 4) (v := .int v_1346) (C := RX4) (T := TX4) (N := 17) hx hb hw0 inA_wsX40 hown hK.1 hP 0 rfl rfl 7 (by decide) (hw0 _ m_827) (fun _ h9 => h9) rfl dX4_plan_92 ?_
              refine lv_iload hx hb dX4_plan_95 (lv_at hl 0 rfl) ?_
              refine va_iast hx hb hK.1 hP hD hS 2 1 rfl rfl (vi nc_1408.1 (by decide)) dX4_plan_97 (fun H locs hP hD hS => ?_)
              generalize hf_1418 : (upd f_1347 (v_1346 : Int32).toNatClampNeg v_1345) = f_1418 at hP hD
              have bf_1418 : ∀ i, (0 : Int) ≤ (f_1418 i).toInt ∧ (f_1418 i).toInt ≤ 15 := hf_1418 ▸ up_b bf_1347 nc_1407.1
              obtain ⟨hP, hD⟩ : vPD G A H [(ce_X4 ob 1 ob_bestWorth ob_bestOver ob_length ob_order a2 v_1005 v_1346 ob_spot ob_deadline ob_opens ob_closes ob_stays ob_apart ob_minute ob_soonest ob_sums), (ce_i10 y ob_order fob_order), (ce_i10 y ob_spot f_1418), (ce_i16 y ob_opens fob_opens), (ce_i16 y ob_closes fob_closes), (ce_i16 y ob_stays fob_stays), (ce_i256 y ob_apart fob_apart), (ce_i10240 y ob_minute fob_minute), (ce_i1024 y ob_soonest fob_soonest), (ce_i1024 y ob_sums fob_sums), (ce_X6 o1 o1_town o1_code o1_debts o1_deeds o1_knows o1_day o1_paid o1_follows), (ce_X7 o1_town o1_town_houses o1_town_fresh o1_town_introducers o1_town_x o1_town_y o1_town_rank o1_town_weekday o1_town_from o1_town_to o1_town_came o1_town_bride o1_town_told), (ce_i16 y o1_town_x fo1_town_x), (ce_i16 y o1_town_y fo1_town_y), (ce_i16 y o1_town_weekday fo1_town_weekday), (ce_i16 y o1_town_from fo1_town_from), (ce_i16 y o1_town_to fo1_town_to), (ce_X1 o1_debts o1_debts_size o1_debts_debtor o1_debts_creditor o1_debts_kind o1_debts_due o1_debts_came o1_debts_open o1_debts_kinds), (ce_i256 y o1_debts_kinds fo1_debts_kinds)] := ⟨hP, hD⟩
              refine lv_aload_n hx hb dX4_plan_98 rfl (lv_at hl 1 rfl) ?_
              refine lv_dup hx hb dX4_plan_99 rfl ?_
              refine va_get (D := G) (ci := 4) (v := .int v_1346) (C := RX4) (T := TX4) (N := 17) hx hb hw0 inA_wsX40 hown hK.1 hP 0 rfl rfl 7 (by decide) (hw0 _ m_827) (fun _ h9 => h9) rfl dX4_plan_100 ?_
              refine lv_iconst (v := 1) hx hb dX4_plan_103 (by decide) ?_
              refine lv_iadd hx hb dX4_plan_104 ?_
              refine lv_topi (fun v_1419 ev_1419 => ?_)
              have qv_1419 := ba_add ev_1419 nc_1408.1 (bkc (x := 1) (c := 1) (by decide)) (by decide)
              have bv_1419 : (1 : Int) ≤ v_1419.toInt ∧ v_1419.toInt ≤ 10 := bq_add qv_1419 nc_1408.1 (bkc (x := 1) (c := 1) (by decide)) _ _ (by decide)
              have qv_1419 : v_1419.toInt = v_1346.toInt + (1) := qv_1419
              refine va_put (D := G) (ci := 4) (v := .int v_1419) (ty := .int) (C := RX4) (T := TX4) (N := 17) hx hb hw0 inA_wsX40 tyX4 tyX4_ok nmX4 hown hK.1 hP hD hS 0 rfl rfl 7 (by decide) (hw0 _ m_827) (fun _ h9 => h9) rfl fd_X4_7 rfl rfl (Nat.le_of_ble_eq_true rfl) dX4_plan_105 (fun H locs hP hD hS => ?_)
              obtain ⟨hP, hD⟩ : vPD G A H [(ce_X4 ob 1 ob_bestWorth ob_bestOver ob_length ob_order a2 v_1005 v_1419 ob_spot ob_deadline ob_opens ob_closes ob_stays ob_apart ob_minute ob_soonest ob_sums), (ce_i10 y ob_order fob_order), (ce_i10 y ob_spot f_1418), (ce_i16 y ob_opens fob_opens), (ce_i16 y ob_closes fob_closes), (ce_i16 y ob_stays fob_stays), (ce_i256 y ob_apart fob_apart), (ce_i10240 y ob_minute fob_minute), (ce_i1024 y ob_soonest fob_soonest), (ce_i1024 y ob_sums fob_sums), (ce_X6 o1 o1_town o1_code o1_debts o1_deeds o1_knows o1_day o1_paid o1_follows), (ce_X7 o1_town o1_town_houses o1_town_fresh o1_town_introducers o1_town_x o1_town_y o1_town_rank o1_town_weekday o1_town_from o1_town_to o1_town_came o1_town_bride o1_town_told), (ce_i16 y o1_town_x fo1_town_x), (ce_i16 y o1_town_y fo1_town_y), (ce_i16 y o1_town_weekday fo1_town_weekday), (ce_i16 y o1_town_from fo1_town_from), (ce_i16 y o1_town_to fo1_town_to), (ce_X1 o1_debts o1_debts_size o1_debts_debtor o1_debts_creditor o1_debts_kind o1_debts_due o1_debts_came o1_debts_open o1_debts_kinds), (ce_i256 y o1_debts_kinds fo1_debts_kinds)] := ⟨hP, hD⟩
              exact J_108_1415 _ _ _ _ ⟨v_1419, f_1418, (bw (0) (10) bv_1419 (by decide)), bf_1418, rfl, ⟨hP, hD⟩, hS, lv_sub hl [0, 1, 2, 3, 4] rfl⟩
  · skip
    refine lv_if_eq (tgt := 27) hx hb dX4_plan_4 (by decide) (fun c_1420 => ?_) (fun c_1420 => ?_)
    · skip
      have nc_1420 := nb_eq (0) (0) c_1420 p_ob_planned (bkc (x := 0) (c := 0) (by decide)) (by decide)
      exact J_27_1004 _ _ _ _ ⟨rfl, ⟨hP, hD⟩, hS, lv_sub hl [0, 1, 2, 3] rfl⟩
    · skip
      have nc_1420 := nb_ne (1) (1) c_1420 p_ob_planned (k := 0) (by decide) (by decide)
      refine lv_aload_n hx hb dX4_plan_7 rfl (lv_at hl 0 rfl) ?_
      refine va_get (D := G) (ci := 4) (v := .int ob_owner) (C := RX4) (T := TX4) (N := 17) hx hb hw0 inA_wsX40 hown hK.1 hP 0 rfl rfl 5 (by decide) (hw0 _ m_866) (fun _ h9 => h9) rfl dX4_plan_8 ?_
      refine lv_iload_n hx hb dX4_plan_11 rfl (lv_at hl 2 rfl) ?_
      refine lv_icmp_ne (tgt := 27) hx hb dX4_plan_12 (by decide) (fun c_1421 => ?_) (fun c_1421 => ?_)
      · skip
        exact J_27_1004 _ _ _ _ ⟨rfl, ⟨hP, hD⟩, hS, lv_sub hl [0, 1, 2, 3] rfl⟩
      · skip
        have nc_1421 := nb_eq (0) (15) c_1421 (btop ob_owner) p_a2 (by decide)
        refine lv_aload_n hx hb dX4_plan_15 rfl (lv_at hl 0 rfl) ?_
        refine va_get (D := G) (ci := 4) (v := .int ob_weekday) (C := RX4) (T := TX4) (N := 17) hx hb hw0 inA_wsX40 hown hK.1 hP 0 rfl rfl 6 (by decide) (hw0 _ m_896) (fun _ h9 => h9) rfl dX4_plan_16 ?_
        refine lv_iload_n hx hb dX4_plan_19 rfl (lv_at hl 3 rfl) ?_
        refine lv_bipush (v := 7) hx hb dX4_plan_20 (by decide) ?_
        refine lv_irem hx hb dX4_plan_22 (by decide) ?_
        refine lv_topi (fun v_1422 ev_1422 => ?_)
        have bv_1422 : (0 : Int) ≤ v_1422.toInt ∧ v_1422.toInt ≤ 6 := ba_rem 7 ev_1422 p_a3 (by decide) (by decide) (by decide)
        refine lv_icmp_ne (tgt := 27) hx hb dX4_plan_23 (by decide) (fun c_1423 => ?_) (fun c_1423 => ?_)
        · skip
          exact J_27_1004 _ _ _ _ ⟨rfl, ⟨hP, hD⟩, hS, lv_sub hl [0, 1, 2, 3] rfl⟩
        · skip
          have nc_1423 := nb_eq (0) (6) c_1423 (btop ob_weekday) bv_1422 (by decide)
          exact W.vret hx hb hr (fun t ht hW => ⟨⟨_, rfl, ⟨ob_planned, ob_bestWorth, ob_bestOver, ob_length, ob_owner, ob_weekday, ob_spots, fob_order, fob_spot, fob_opens, fob_closes, fob_stays, fob_apart, fob_minute, fob_soonest, fob_sums, nc_1420.1, p_ob_length, nc_1421.1, nc_1423.1, p_ob_spots, p_fob_spot, rfl⟩, by rw [ht]; exact hP, hD⟩, hS.F ht⟩) hS.2.2 dX4_plan_26

set_option maxHeartbeats 4000000 in
set_option maxRecDepth 100000 in
theorem sX4_canWalk (l : Launch) (G : va_G) (y : Nat → ClassId) (sz : Nat) (ob : Nat) (o1 : Nat) (a2 : Int32) (a3 : Int32) (o4 : Nat) (ob_planned : Int32) (ob_bestWorth : Int32) (ob_bestOver : Int32) (ob_length : Int32) (ob_order : Nat) (ob_owner : Int32) (ob_weekday : Int32) (ob_spots : Int32) (ob_spot : Nat) (ob_deadline : Nat) (ob_opens : Nat) (ob_closes : Nat) (ob_stays : Nat) (ob_apart : Nat) (ob_minute : Nat) (ob_soonest : Nat) (ob_sums : Nat) (fob_opens : Nat → Int32) (fob_closes : Nat → Int32) (fob_stays : Nat → Int32) (o1_town : Nat) (o1_code : Nat) (o1_debts : Nat) (o1_deeds : Nat) (o1_knows : Nat) (o1_day : Int32) (o1_paid : Int32) (o1_follows : Nat) (o1_town_houses : Int32) (o1_town_fresh : Int32) (o1_town_introducers : Int32) (o1_town_x : Nat) (o1_town_y : Nat) (o1_town_rank : Nat) (o1_town_weekday : Nat) (o1_town_from : Nat) (o1_town_to : Nat) (o1_town_came : Nat) (o1_town_bride : Nat) (o1_town_told : Nat) (fo1_town_x : Nat → Int32) (fo1_town_y : Nat → Int32) (fo1_town_weekday : Nat → Int32) (fo1_town_from : Nat → Int32) (fo1_town_to : Nat → Int32) (o1_debts_size : Int32) (o1_debts_debtor : Nat) (o1_debts_creditor : Nat) (o1_debts_kind : Nat) (o1_debts_due : Nat) (o1_debts_came : Nat) (o1_debts_open : Nat) (o1_debts_kinds : Nat) (fo1_debts_kinds : Nat → Int32) (o4_filled : Int32) (o4_width : Int32) (o4_size : Int32) (o4_numbers : Nat) (fo4_numbers : Nat → Int64) (p_ob_planned : (0 : Int) ≤ ob_planned.toInt ∧ ob_planned.toInt ≤ 1) (p_ob_length : (0 : Int) ≤ ob_length.toInt ∧ ob_length.toInt ≤ 10) (p_ob_spots : (0 : Int) ≤ ob_spots.toInt ∧ ob_spots.toInt ≤ 10) (p_o1_town_houses : (0 : Int) ≤ o1_town_houses.toInt ∧ o1_town_houses.toInt ≤ 16) (p_o1_debts_size : (0 : Int) ≤ o1_debts_size.toInt ∧ o1_debts_size.toInt ≤ 600) (p_o1_day : (0 : Int) ≤ o1_day.toInt ∧ o1_day.toInt ≤ 399) (p_a2 : (0 : Int) ≤ a2.toInt ∧ a2.toInt ≤ 15) (p_a3 : (0 : Int) ≤ a3.toInt ∧ a3.toInt ≤ 399) (p_o4_filled : (0 : Int) ≤ o4_filled.toInt ∧ o4_filled.toInt ≤ 1) (p_o4_size : (0 : Int) ≤ o4_size.toInt ∧ o4_size.toInt ≤ 60) : Met l yX4_canWalk (Cond.code yX4_canWalk cX4_canWalk 10 (some .boolean) :: wAll) ({ frames := 3, cells := 0, slots := 0, locals := 68 }) (va_Pc [.ref ob, .ref o1, .int a2, .int a3, .ref o4] (kp G y sz [(ce_X4 ob ob_planned ob_bestWorth ob_bestOver ob_length ob_order ob_owner ob_weekday ob_spots ob_spot ob_deadline ob_opens ob_closes ob_stays ob_apart ob_minute ob_soonest ob_sums), (ce_i16 y ob_opens fob_opens), (ce_i16 y ob_closes fob_closes), (ce_i16 y ob_stays fob_stays), (ce_X6 o1 o1_town o1_code o1_debts o1_deeds o1_knows o1_day o1_paid o1_follows), (ce_X7 o1_town o1_town_houses o1_town_fresh o1_town_introducers o1_town_x o1_town_y o1_town_rank o1_town_weekday o1_town_from o1_town_to o1_town_came o1_town_bride o1_town_told), (ce_i16 y o1_town_x fo1_town_x), (ce_i16 y o1_town_y fo1_town_y), (ce_i16 y o1_town_weekday fo1_town_weekday), (ce_i16 y o1_town_from fo1_town_from), (ce_i16 y o1_town_to fo1_town_to), (ce_X1 o1_debts o1_debts_size o1_debts_debtor o1_debts_creditor o1_debts_kind o1_debts_due o1_debts_came o1_debts_open o1_debts_kinds), (ce_i256 y o1_debts_kinds fo1_debts_kinds), (ce_X5 o4 o4_filled o4_width o4_size o4_numbers), (ce_l60 y o4_numbers fo4_numbers)])) (va_Qi (fun (r : Int32) (w : va_W) => (∃ (f_1533 : Nat → Int32) (f_1534 : Nat → Int32) (f_1535 : Nat → Int32), ((1 : Int) ≤ o4_size.toInt ∧ o4_size.toInt ≤ 60) ∧ r = 0 ∧ w = [(ce_X4 ob ob_planned ob_bestWorth ob_bestOver ob_length ob_order ob_owner ob_weekday ob_spots ob_spot ob_deadline ob_opens ob_closes ob_stays ob_apart ob_minute ob_soonest ob_sums), (ce_i16 y ob_opens f_1533), (ce_i16 y ob_closes f_1534), (ce_i16 y ob_stays f_1535), (ce_X6 o1 o1_town o1_code o1_debts o1_deeds o1_knows o1_day o1_paid o1_follows), (ce_X7 o1_town o1_town_houses o1_town_fresh o1_town_introducers o1_town_x o1_town_y o1_town_rank o1_town_weekday o1_town_from o1_town_to o1_town_came o1_town_bride o1_town_told), (ce_i16 y o1_town_x fo1_town_x), (ce_i16 y o1_town_y fo1_town_y), (ce_i16 y o1_town_weekday fo1_town_weekday), (ce_i16 y o1_town_from fo1_town_from), (ce_i16 y o1_town_to fo1_town_to), (ce_X1 o1_debts o1_debts_size o1_debts_debtor o1_debts_creditor o1_debts_kind o1_debts_due o1_debts_came o1_debts_open o1_debts_kinds), (ce_i256 y o1_debts_kinds fo1_debts_kinds), (ce_X5 o4 o4_filled o4_width o4_size o4_numbers), (ce_l60 y o4_numbers fo4_numbers)]) ∨ (∃ (f_1536 : Nat → Int32) (f_1537 : Nat → Int32) (f_1538 : Nat → Int32), r = 1 ∧ w = [(ce_X4 ob ob_planned ob_bestWorth ob_bestOver ob_length ob_order ob_owner ob_weekday ob_spots ob_spot ob_deadline ob_opens ob_closes ob_stays ob_apart ob_minute ob_soonest ob_sums), (ce_i16 y ob_opens f_1536), (ce_i16 y ob_closes f_1537), (ce_i16 y ob_stays f_1538), (ce_X6 o1 o1_town o1_code o1_debts o1_deeds o1_knows o1_day o1_paid o1_follows), (ce_X7 o1_town o1_town_houses o1_town_fresh o1_town_introducers o1_town_x o1_town_y o1_town_rank o1_town_weekday o1_town_from o1_town_to o1_town_came o1_town_bride o1_town_told), (ce_i16 y o1_town_x fo1_town_x), (ce_i16 y o1_town_y fo1_town_y), (ce_i16 y o1_town_weekday fo1_town_weekday), (ce_i16 y o1_town_from fo1_town_from), (ce_i16 y o1_town_to fo1_town_to), (ce_X1 o1_debts o1_debts_size o1_debts_debtor o1_debts_creditor o1_debts_kind o1_debts_due o1_debts_came o1_debts_open o1_debts_kinds), (ce_i256 y o1_debts_kinds fo1_debts_kinds), (ce_X5 o4 o4_filled o4_width o4_size o4_numbers), (ce_l60 y o4_numbers fo4_numbers)])) (kq G (va_A [(ce_X4 ob ob_planned ob_bestWorth ob_bestOver ob_length ob_order ob_owner ob_weekday ob_spots ob_spot ob_deadline ob_opens ob_closes ob_stays ob_apart ob_minute ob_soonest ob_sums), (ce_i16 y ob_opens fob_opens), (ce_i16 y ob_closes fob_closes), (ce_i16 y ob_stays fob_stays), (ce_X6 o1 o1_town o1_code o1_debts o1_deeds o1_knows o1_day o1_paid o1_follows), (ce_X7 o1_town o1_town_houses o1_town_fresh o1_town_introducers o1_town_x o1_town_y o1_town_rank o1_town_weekday o1_town_from o1_town_to o1_town_came o1_town_bride o1_town_told), (ce_i16 y o1_town_x fo1_town_x), (ce_i16 y o1_town_y fo1_town_y), (ce_i16 y o1_town_weekday fo1_town_weekday), (ce_i16 y o1_town_from fo1_town_from), (ce_i16 y o1_town_to fo1_town_to), (ce_X1 o1_debts o1_debts_size o1_debts_debtor o1_debts_creditor o1_debts_kind o1_debts_due o1_debts_came o1_debts_open o1_debts_kinds), (ce_i256 y o1_debts_kinds fo1_debts_kinds), (ce_X5 o4 o4_filled o4_width o4_size o4_numbers), (ce_l60 y o4_numbers fo4_numbers)] sz)) (va_A [(ce_X4 ob ob_planned ob_bestWorth ob_bestOver ob_length ob_order ob_owner ob_weekday ob_spots ob_spot ob_deadline ob_opens ob_closes ob_stays ob_apart ob_minute ob_soonest ob_sums), (ce_i16 y ob_opens fob_opens), (ce_i16 y ob_closes fob_closes), (ce_i16 y ob_stays fob_stays), (ce_X6 o1 o1_town o1_code o1_debts o1_deeds o1_knows o1_day o1_paid o1_follows), (ce_X7 o1_town o1_town_houses o1_town_fresh o1_town_introducers o1_town_x o1_town_y o1_town_rank o1_town_weekday o1_town_from o1_town_to o1_town_came o1_town_bride o1_town_told), (ce_i16 y o1_town_x fo1_town_x), (ce_i16 y o1_town_y fo1_town_y), (ce_i16 y o1_town_weekday fo1_town_weekday), (ce_i16 y o1_town_from fo1_town_from), (ce_i16 y o1_town_to fo1_town_to), (ce_X1 o1_debts o1_debts_size o1_debts_debtor o1_debts_creditor o1_debts_kind o1_debts_due o1_debts_came o1_debts_open o1_debts_kinds), (ce_i256 y o1_debts_kinds fo1_debts_kinds), (ce_X5 o4 o4_filled o4_width o4_size o4_numbers), (ce_l60 y o4_numbers fo4_numbers)] sz)) 0 0 (va_A [(ce_X4 ob ob_planned ob_bestWorth ob_bestOver ob_length ob_order ob_owner ob_weekday ob_spots ob_spot ob_deadline ob_opens ob_closes ob_stays ob_apart ob_minute ob_soonest ob_sums), (ce_i16 y ob_opens fob_opens), (ce_i16 y ob_closes fob_closes), (ce_i16 y ob_stays fob_stays), (ce_X6 o1 o1_town o1_code o1_debts o1_deeds o1_knows o1_day o1_paid o1_follows), (ce_X7 o1_town o1_town_houses o1_town_fresh o1_town_introducers o1_town_x o1_town_y o1_town_rank o1_town_weekday o1_town_from o1_town_to o1_town_came o1_town_bride o1_town_told), (ce_i16 y o1_town_x fo1_town_x), (ce_i16 y o1_town_y fo1_town_y), (ce_i16 y o1_town_weekday fo1_town_weekday), (ce_i16 y o1_town_from fo1_town_from), (ce_i16 y o1_town_to fo1_town_to), (ce_X1 o1_debts o1_debts_size o1_debts_debtor o1_debts_creditor o1_debts_kind o1_debts_due o1_debts_came o1_debts_open o1_debts_kinds), (ce_i256 y o1_debts_kinds fo1_debts_kinds), (ce_X5 o4 o4_filled o4_width o4_size o4_numbers), (ce_l60 y o4_numbers fo4_numbers)] sz) := by
  refine Met.ofW (cc := cX4_canWalk) (maxL := 10) (ret := (some .boolean)) (by decide) rfl ?_
  intro p e s m args below meth c s₁ B hml hv
  obtain ⟨rfl, hsz, hP, hK, hD0⟩ := hv
  have hx := B.exec
  have hb := B.bytes
  have hr := B.returns
  have hw0 : ∀ w ∈ wAll, w.before _ s = true := fun w h => atoms_spec (ws := Cond.code yX4_canWalk cX4_canWalk 10 (some .boolean) :: wAll) B.pre w (List.mem_cons_of_mem _ h)
  have hown : s.vm.findClass RX4 = some m.cls := findClass_of_methodNamed B.named
  subst hsz
  have hD := hD0.self (sz := s.heap.size)
  generalize hAe : va_A [(ce_X4 ob ob_planned ob_bestWorth ob_bestOver ob_length ob_order ob_owner ob_weekday ob_spots ob_spot ob_deadline ob_opens ob_closes ob_stays ob_apart ob_minute ob_soonest ob_sums), (ce_i16 y ob_opens fob_opens), (ce_i16 y ob_closes fob_closes), (ce_i16 y ob_stays fob_stays), (ce_X6 o1 o1_town o1_code o1_debts o1_deeds o1_knows o1_day o1_paid o1_follows), (ce_X7 o1_town o1_town_houses o1_town_fresh o1_town_introducers o1_town_x o1_town_y o1_town_rank o1_town_weekday o1_town_from o1_town_to o1_town_came o1_town_bride o1_town_told), (ce_i16 y o1_town_x fo1_town_x), (ce_i16 y o1_town_y fo1_town_y), (ce_i16 y o1_town_weekday fo1_town_weekday), (ce_i16 y o1_town_from fo1_town_from), (ce_i16 y o1_town_to fo1_town_to), (ce_X1 o1_debts o1_debts_size o1_debts_debtor o1_debts_creditor o1_debts_kind o1_debts_due o1_debts_came o1_debts_open o1_debts_kinds), (ce_i256 y o1_debts_kinds fo1_debts_kinds), (ce_X5 o4 o4_filled o4_width o4_size o4_numbers), (ce_l60 y o4_numbers fo4_numbers)] s.heap.size = A at hD ⊢
  have hA : ∀ q : Nat, s.heap.size ≤ q → A q := fun q h => by rw [← hAe]; exact Or.inr h
  have hS : va_S A s.heap s.heap [] := va_S.rf
  have hP : va_P G vwCl [(ce_X4 ob ob_planned ob_bestWorth ob_bestOver ob_length ob_order ob_owner ob_weekday ob_spots ob_spot ob_deadline ob_opens ob_closes ob_stays ob_apart ob_minute ob_soonest ob_sums), (ce_i16 y ob_opens fob_opens), (ce_i16 y ob_closes fob_closes), (ce_i16 y ob_stays fob_stays), (ce_X6 o1 o1_town o1_code o1_debts o1_deeds o1_knows o1_day o1_paid o1_follows), (ce_X7 o1_town o1_town_houses o1_town_fresh o1_town_introducers o1_town_x o1_town_y o1_town_rank o1_town_weekday o1_town_from o1_town_to o1_town_came o1_town_bride o1_town_told), (ce_i16 y o1_town_x fo1_town_x), (ce_i16 y o1_town_y fo1_town_y), (ce_i16 y o1_town_weekday fo1_town_weekday), (ce_i16 y o1_town_from fo1_town_from), (ce_i16 y o1_town_to fo1_town_to), (ce_X1 o1_debts o1_debts_size o1_debts_debtor o1_debts_creditor o1_debts_kind o1_debts_due o1_debts_came o1_debts_open o1_debts_kinds), (ce_i256 y o1_debts_kinds fo1_debts_kinds), (ce_X5 o4 o4_filled o4_width o4_size o4_numbers), (ce_l60 y o4_numbers fo4_numbers)] s.heap := hP
  have hl := lv_entry ([.ref ob, .ref o1, .int a2, .int a3, .ref o4]) (n := 10) (Nat.le_of_ble_eq_true rfl)
  rw [lg_entry_eq]
  generalize (lg_sl ([.ref ob, .ref o1, .int a2, .int a3, .ref o4]) ++ List.replicate (10 - (lg_sl ([.ref ob, .ref o1, .int a2, .int a3, .ref o4])).length) Slot.unset).toArray = ls at hl ⊢
  have hl : lv_has ls 10 [(0, .ref ob), (1, .ref o1), (2, .int a2), (3, .int a3), (4, .ref o4)] := hl
  refine lv_iconst (v := 0) hx hb dX4_canWalk_0 (by decide) ?_
  refine lv_istore (lv' := [(5, .int 0), (0, .ref ob), (1, .ref o1), (2, .int a2), (3, .int a3), (4, .ref o4)]) hx hb dX4_canWalk_1 hl (by decide) rfl (fun ls hl => ?_)
  refine lv_iload_n hx hb dX4_canWalk_3 rfl (lv_at hl 3 rfl) ?_
  refine lv_istore (lv' := [(6, .int a2), (5, .int 0), (0, .ref ob), (1, .ref o1), (2, .int a2), (3, .int a3), (4, .ref o4)]) hx hb dX4_canWalk_4 hl (by decide) rfl (fun ls hl => ?_)
  refine lv_iconst (v := 0) hx hb dX4_canWalk_6 (by decide) ?_
  refine lv_istore (lv' := [(7, .int 0), (6, .int a2), (5, .int 0), (0, .ref ob), (1, .ref o1), (2, .int a2), (3, .int a3), (4, .ref o4)]) hx hb dX4_canWalk_7 hl (by decide) rfl (fun ls hl => ?_)
  refine lv_iconst (v := 0) hx hb dX4_canWalk_9 (by decide) ?_
  refine lv_istore (lv' := [(8, .int 0), (7, .int 0), (6, .int a2), (5, .int 0), (0, .ref ob), (1, .ref o1), (2, .int a2), (3, .int a3), (4, .ref o4)]) hx hb dX4_canWalk_10 hl (by decide) rfl (fun ls hl => ?_)
  refine loopX (fun n H locs ls st => ∃ (v_1662 : Int32) (v_1663 : Int32) (v_1664 : Int32) (v_1665 : Int32) (f_1666 : Nat → Int32) (f_1667 : Nat → Int32) (f_1668 : Nat → Int32), (60 - v_1662.toInt).toNat = n ∧ ((0 : Int) ≤ v_1662.toInt ∧ v_1662.toInt ≤ 60) ∧ ((-2147483648 : Int) ≤ v_1663.toInt ∧ v_1663.toInt ≤ 999) ∧ ((0 : Int) ≤ v_1664.toInt ∧ v_1664.toInt ≤ 15) ∧ ((0 : Int) ≤ v_1665.toInt ∧ v_1665.toInt ≤ 65535) ∧ st = [] ∧ vPD G A H [(ce_X4 ob ob_planned ob_bestWorth ob_bestOver ob_length ob_order ob_owner ob_weekday ob_spots ob_spot ob_deadline ob_opens ob_closes ob_stays ob_apart ob_minute ob_soonest ob_sums), (ce_i16 y ob_opens f_1666), (ce_i16 y ob_closes f_1667), (ce_i16 y ob_stays f_1668), (ce_X6 o1 o1_town o1_code o1_debts o1_deeds o1_knows o1_day o1_paid o1_follows), (ce_X7 o1_town o1_town_houses o1_town_fresh o1_town_introducers o1_town_x o1_town_y o1_town_rank o1_town_weekday o1_town_from o1_town_to o1_town_came o1_town_bride o1_town_told), (ce_i16 y o1_town_x fo1_town_x), (ce_i16 y o1_town_y fo1_town_y), (ce_i16 y o1_town_weekday fo1_town_weekday), (ce_i16 y o1_town_from fo1_town_from), (ce_i16 y o1_town_to fo1_town_to), (ce_X1 o1_debts o1_debts_size o1_debts_debtor o1_debts_creditor o1_debts_kind o1_debts_due o1_debts_came o1_debts_open o1_debts_kinds), (ce_i256 y o1_debts_kinds fo1_debts_kinds), (ce_X5 o4 o4_filled o4_width o4_size o4_numbers), (ce_l60 y o4_numbers fo4_numbers)] ∧ va_S A s.heap H locs ∧ lv_has ls 10 [(8, .int v_1662), (7, .int v_1663), (6, .int v_1664), (5, .int v_1665), (0, .ref ob), (1, .ref o1), (2, .int a2), (3, .int a3), (4, .ref o4)]) ?_ (n := (60 - (0 : Int32).toInt).toNat) ⟨0, 0, a2, 0, fob_opens, fob_closes, fob_stays, rfl, (bw (0) (60) (bkc (x := 0) (c := 0) (by decide)) (by decide)), (bw (-2147483648) (999) (bkc (x := 0) (c := 0) (by decide)) (by decide)), p_a2, (bw (0) (65535) (bkc (x := 0) (c := 0) (by decide)) (by decide)), rfl, ⟨hP, hD⟩, hS, lv_sub hl [0, 1, 2, 3, 4, 5, 6, 7, 8] rfl⟩
  rintro n ih_1717 H locs ls st ⟨v_1662, v_1663, v_1664, v_1665, f_1666, f_1667, f_1668, hn_1717, bv_1662, bv_1663, bv_1664, bv_1665, rfl, ⟨hP, hD⟩, hS, hl⟩
  refine lv_iload hx hb dX4_canWalk_12 (lv_at hl 0 rfl) ?_
  refine lv_aload hx hb dX4_canWalk_14 (lv_at hl 8 rfl) ?_
  refine va_get (D := G) (ci := 5) (v := .int o4_size) (C := RX5) (T := TX5) (N := 4) hx hb hw0 inA_wsX50 hown hK.1 hP 13 rfl rfl 2 (by decide) (hw0 _ m_856) (fun _ h9 => h9) rfl dX4_canWalk_16 ?_
  refine lv_icmp_ge (tgt := 139) hx hb dX4_canWalk_19 (by decide) (fun c_1718 => ?_) (fun c_1718 => ?_)
  · skip
    have nc_1718 := nb_le (60) (0) c_1718 p_o4_size bv_1662 (by decide)
    refine lv_iconst (v := 1) hx hb dX4_canWalk_139 (by decide) ?_
    exact W.zret (v := 1) hx hb hr rfl (fun t ht hW => ⟨⟨1, _, rfl, Or.inr (⟨f_1666, f_1667, f_1668, rfl, rfl⟩), by rw [ht]; exact hP, hD⟩, hS.F ht⟩) hS.2.2 dX4_canWalk_140
  · skip
    have nc_1718 := nb_nle (59) (1) c_1718 bv_1662 p_o4_size (by decide)
    refine lv_aload hx hb dX4_canWalk_22 (lv_at hl 8 rfl) ?_
    refine lv_iload hx hb dX4_canWalk_24 (lv_at hl 0 rfl) ?_
    refine cVim (As := [.int v_1662]) (rest := []) ⟨hx, hb, hml, hown, hw0⟩ hA hK hP hD hS [false, false, false, false, false, false, false, false, false, false, false, false, false, true, true] (sX5_small l G y _ o4 v_1662 o4_filled o4_width o4_size o4_numbers fo4_numbers p_o4_filled (bw (0) (60) nc_1718.2.1 (by decide))) rfl ⟨(callB_of 1 hw0 (gA m_950) rfl rfl rfl (hw0 _ m_858) (hw0 _ m_857) cb_X5_small ⟨Nat.le_of_ble_eq_true rfl, Nat.le_of_ble_eq_true rfl⟩), (hw0 _ m_859), (hw0 _ m_860)⟩ (ci := 5) (q := (RX5, TX5, 4)) rfl rfl rfl hl.1 (Nat.le_of_ble_eq_true rfl) dX4_canWalk_26 ⟨Nat.le_of_ble_eq_true rfl, Nat.le_of_ble_eq_true rfl⟩ (fun r_1719 w_1719 H locs hw_1719 hP hD hS => ?_)
    obtain ⟨v_1720, bv_1720, er_1719, rfl⟩ := hw_1719
    subst r_1719
    obtain ⟨hP, hD⟩ : vPD G A H [(ce_X4 ob ob_planned ob_bestWorth ob_bestOver ob_length ob_order ob_owner ob_weekday ob_spots ob_spot ob_deadline ob_opens ob_closes ob_stays ob_apart ob_minute ob_soonest ob_sums), (ce_i16 y ob_opens f_1666), (ce_i16 y ob_closes f_1667), (ce_i16 y ob_stays f_1668), (ce_X6 o1 o1_town o1_code o1_debts o1_deeds o1_knows o1_day o1_paid o1_follows), (ce_X7 o1_town o1_town_houses o1_town_fresh o1_town_introducers o1_town_x o1_town_y o1_town_rank o1_town_weekday o1_town_from o1_town_to o1_town_came o1_town_bride o1_town_told), (ce_i16 y o1_town_x fo1_town_x), (ce_i16 y o1_town_y fo1_town_y), (ce_i16 y o1_town_weekday fo1_town_weekday), (ce_i16 y o1_town_from fo1_town_from), (ce_i16 y o1_town_to fo1_town_to), (ce_X1 o1_debts o1_debts_size o1_debts_debtor o1_debts_creditor o1_debts_kind o1_debts_due o1_debts_came o1_debts_open o1_debts_kinds), (ce_i256 y o1_debts_kinds fo1_debts_kinds), (ce_X5 o4 o4_filled o4_width o4_size o4_numbers), (ce_l60 y o4_numbers fo4_numbers)] := ⟨hP, hD⟩
    refine lv_istore (lv' := [(9, .int v_1720), (8, .int v_1662), (7, .int v_1663), (6, .int v_1664), (5, .int v_1665), (0, .ref ob), (1, .ref o1), (2, .int a2), (3, .int a3), (4, .ref o4)]) hx hb dX4_canWalk_29 hl (by decide) rfl (fun ls hl => ?_)
    refine lv_aload_n hx hb dX4_canWalk_31 rfl (lv_at hl 6 rfl) ?_
    refine va_get (D := G) (ci := 6) (v := .ref o1_town) (C := RX6) (T := TX6) (N := 8) hx hb hw0 inA_wsX60 hown hK.1 hP 4 rfl rfl 0 (by decide) (hw0 _ m_845) (fun _ h9 => h9) rfl dX4_canWalk_32 ?_
    refine lv_iload hx hb dX4_canWalk_35 (lv_at hl 0 rfl) ?_
    refine cutW 78 (fun H locs ls st => st = [] ∧ vPD G A H [(ce_X4 ob ob_planned ob_bestWorth ob_bestOver ob_length ob_order ob_owner ob_weekday ob_spots ob_spot ob_deadline ob_opens ob_closes ob_stays ob_apart ob_minute ob_soonest ob_sums), (ce_i16 y ob_opens f_1666), (ce_i16 y ob_closes f_1667), (ce_i16 y ob_stays f_1668), (ce_X6 o1 o1_town o1_code o1_debts o1_deeds o1_knows o1_day o1_paid o1_follows), (ce_X7 o1_town o1_town_houses o1_town_fresh o1_town_introducers o1_town_x o1_town_y o1_town_rank o1_town_weekday o1_town_from o1_town_to o1_town_came o1_town_bride o1_town_told), (ce_i16 y o1_town_x fo1_town_x), (ce_i16 y o1_town_y fo1_town_y), (ce_i16 y o1_town_weekday fo1_town_weekday), (ce_i16 y o1_town_from fo1_town_from), (ce_i16 y o1_town_to fo1_town_to), (ce_X1 o1_debts o1_debts_size o1_debts_debtor o1_debts_creditor o1_debts_kind o1_debts_due o1_debts_came o1_debts_open o1_debts_kinds), (ce_i256 y o1_debts_kinds fo1_debts_kinds), (ce_X5 o4 o4_filled o4_width o4_size o4_numbers), (ce_l60 y o4_numbers fo4_numbers)] ∧ va_S A s.heap H locs ∧ lv_has ls 10 []) ?_ (fun J_78_1743 => ?_)
    · rintro H locs ls st ⟨rfl, ⟨hP, hD⟩, hS, hl⟩
      refine lv_iconst (v := 0) hx hb dX4_canWalk_78 (by decide) ?_
      exact W.zret (v := 0) hx hb hr rfl (fun t ht hW => ⟨⟨0, _, rfl, Or.inl (⟨f_1666, f_1667, f_1668, nc_1718.2.1, rfl, rfl⟩), by rw [ht]; exact hP, hD⟩, hS.F ht⟩) hS.2.2 dX4_canWalk_79
    · skip
      refine cVim (As := [.int v_1720]) (rest := []) ⟨hx, hb, hml, hown, hw0⟩ hA hK hP hD hS [false, false, false, false, false, true] (sX7_has l G y _ o1_town v_1720 o1_town_houses o1_town_fresh o1_town_introducers o1_town_x o1_town_y o1_town_rank o1_town_weekday o1_town_from o1_town_to o1_town_came o1_town_bride o1_town_told p_o1_town_houses) rfl ⟨(callB_of 1 hw0 (gA m_1075) rfl rfl rfl (hw0 _ m_746) (hw0 _ m_861) cb_X7_has ⟨Nat.le_of_ble_eq_true rfl, Nat.le_of_ble_eq_true rfl⟩), (hw0 _ m_862), (hw0 _ m_863)⟩ (ci := 7) (q := (RX7, TX7, 12)) rfl rfl rfl hl.1 (Nat.le_of_ble_eq_true rfl) dX4_canWalk_37 ⟨Nat.le_of_ble_eq_true rfl, Nat.le_of_ble_eq_true rfl⟩ (fun r_1744 w_1744 H locs hw_1744 hP hD hS => ?_)
      rcases hw_1744 with ⟨rfl, rfl⟩ | ⟨h_1745, h_1746, rfl, rfl⟩
      · skip
        obtain ⟨hP, hD⟩ : vPD G A H [(ce_X4 ob ob_planned ob_bestWorth ob_bestOver ob_length ob_order ob_owner ob_weekday ob_spots ob_spot ob_deadline ob_opens ob_closes ob_stays ob_apart ob_minute ob_soonest ob_sums), (ce_i16 y ob_opens f_1666), (ce_i16 y ob_closes f_1667), (ce_i16 y ob_stays f_1668), (ce_X6 o1 o1_town o1_code o1_debts o1_deeds o1_knows o1_day o1_paid o1_follows), (ce_X7 o1_town o1_town_houses o1_town_fresh o1_town_introducers o1_town_x o1_town_y o1_town_rank o1_town_weekday o1_town_from o1_town_to o1_town_came o1_town_bride o1_town_told), (ce_i16 y o1_town_x fo1_town_x), (ce_i16 y o1_town_y fo1_town_y), (ce_i16 y o1_town_weekday fo1_town_weekday), (ce_i16 y o1_town_from fo1_town_from), (ce_i16 y o1_town_to fo1_town_to), (ce_X1 o1_debts o1_debts_size o1_debts_debtor o1_debts_creditor o1_debts_kind o1_debts_due o1_debts_came o1_debts_open o1_debts_kinds), (ce_i256 y o1_debts_kinds fo1_debts_kinds), (ce_X5 o4 o4_filled o4_width o4_size o4_numbers), (ce_l60 y o4_numbers fo4_numbers)] := ⟨hP, hD⟩
        refine lv_if_eq (tgt := 78) hx hb dX4_canWalk_40 (by decide) (fun _ => ?_) (fun c9 => absurd (by decide) c9)
        exact J_78_1743 _ _ _ _ ⟨rfl, ⟨hP, hD⟩, hS, lv_sub hl [] rfl⟩
      · skip
        obtain ⟨hP, hD⟩ : vPD G A H [(ce_X4 ob ob_planned ob_bestWorth ob_bestOver ob_length ob_order ob_owner ob_weekday ob_spots ob_spot ob_deadline ob_opens ob_closes ob_stays ob_apart ob_minute ob_soonest ob_sums), (ce_i16 y ob_opens f_1666), (ce_i16 y ob_closes f_1667), (ce_i16 y ob_stays f_1668), (ce_X6 o1 o1_town o1_code o1_debts o1_deeds o1_knows o1_day o1_paid o1_follows), (ce_X7 o1_town o1_town_houses o1_town_fresh o1_town_introducers o1_town_x o1_town_y o1_town_rank o1_town_weekday o1_town_from o1_town_to o1_town_came o1_town_bride o1_town_told), (ce_i16 y o1_town_x fo1_town_x), (ce_i16 y o1_town_y fo1_town_y), (ce_i16 y o1_town_weekday fo1_town_weekday), (ce_i16 y o1_town_from fo1_town_from), (ce_i16 y o1_town_to fo1_town_to), (ce_X1 o1_debts o1_debts_size o1_debts_debtor o1_debts_creditor o1_debts_kind o1_debts_due o1_debts_came o1_debts_open o1_debts_kinds), (ce_i256 y o1_debts_kinds fo1_debts_kinds), (ce_X5 o4 o4_filled o4_width o4_size o4_numbers), (ce_l60 y o4_numbers fo4_numbers)] := ⟨hP, hD⟩
        refine lv_if_eq (tgt := 78) hx hb dX4_canWalk_40 (by decide) (fun c9 => absurd c9 (by decide)) (fun _ => ?_)
        refine lv_iload hx hb dX4_canWalk_43 (lv_at hl 4 rfl) ?_
        refine lv_iload hx hb dX4_canWalk_45 (lv_at hl 0 rfl) ?_
        refine lv_ishr hx hb dX4_canWalk_47 ?_
        refine lv_topi (fun v_1747 ev_1747 => ?_)
        have bv_1747 : (0 : Int) ≤ v_1747.toInt ∧ v_1747.toInt ≤ 65535 := ba_shr ev_1747 bv_1665 (by decide)
        refine lv_iconst (v := 1) hx hb dX4_canWalk_48 (by decide) ?_
        refine lv_iand hx hb dX4_canWalk_49 ?_
        refine lv_topi (fun v_1748 ev_1748 => ?_)
        have bv_1748 : (0 : Int) ≤ v_1748.toInt ∧ v_1748.toInt ≤ 1 := ba_andr ev_1748 (bkc (x := 1) (c := 1) (by decide)) (by decide)
        refine lv_iconst (v := 1) hx hb dX4_canWalk_50 (by decide) ?_
        refine lv_icmp_eq (tgt := 78) hx hb dX4_canWalk_51 (by decide) (fun c_1749 => ?_) (fun c_1749 => ?_)
        · skip
          have nc_1749 := nb_eq (1) (1) c_1749 bv_1748 (bkc (x := 1) (c := 1) (by decide)) (by decide)
          exact J_78_1743 _ _ _ _ ⟨rfl, ⟨hP, hD⟩, hS, lv_sub hl [] rfl⟩
        · skip
          have nc_1749 := nb_ne (0) (0) c_1749 bv_1748 (k := 1) (by decide) (by decide)
          refine lv_aload_n hx hb dX4_canWalk_54 rfl (lv_at hl 6 rfl) ?_
          refine va_get (D := G) (ci := 6) (v := .ref o1_debts) (C := RX6) (T := TX6) (N := 8) hx hb hw0 inA_wsX60 hown hK.1 hP 4 rfl rfl 2 (by decide) (hw0 _ m_836) (fun _ h9 => h9) rfl dX4_canWalk_55 ?_
          refine lv_iload_n hx hb dX4_canWalk_58 rfl (lv_at hl 7 rfl) ?_
          refine lv_iload hx hb dX4_canWalk_59 (lv_at hl 0 rfl) ?_
          refine cVim (As := [.int a2, .int v_1720]) (rest := []) ⟨hx, hb, hml, hown, hw0⟩ hA hK hP hD hS [false, false, false, false, false, false, false, false, false, false, false, true, true] (sX1_kindsOf l G y _ o1_debts a2 v_1720 o1_debts_size o1_debts_debtor o1_debts_creditor o1_debts_kind o1_debts_due o1_debts_came o1_debts_open o1_debts_kinds fo1_debts_kinds p_o1_debts_size p_a2 h_1745) rfl ⟨(callB_of 2 hw0 (gA m_323) rfl rfl rfl (hw0 _ m_330) (hw0 _ m_837) cb_X1_kindsOf ⟨Nat.le_of_ble_eq_true rfl, Nat.le_of_ble_eq_true rfl⟩), (hw0 _ m_331), (hw0 _ m_332)⟩ (ci := 1) (q := (RX1, TX1, 8)) rfl rfl rfl hl.1 (Nat.le_of_ble_eq_true rfl) dX4_canWalk_61 ⟨Nat.le_of_ble_eq_true rfl, Nat.le_of_ble_eq_true rfl⟩ (fun r_1750 w_1750 H locs hw_1750 hP hD hS => ?_)
          obtain ⟨v_1751, er_1750, rfl⟩ := hw_1750
          subst r_1750
          obtain ⟨hP, hD⟩ : vPD G A H [(ce_X4 ob ob_planned ob_bestWorth ob_bestOver ob_length ob_order ob_owner ob_weekday ob_spots ob_spot ob_deadline ob_opens ob_closes ob_stays ob_apart ob_minute ob_soonest ob_sums), (ce_i16 y ob_opens f_1666), (ce_i16 y ob_closes f_1667), (ce_i16 y ob_stays f_1668), (ce_X6 o1 o1_town o1_code o1_debts o1_deeds o1_knows o1_day o1_paid o1_follows), (ce_X7 o1_town o1_town_houses o1_town_fresh o1_town_introducers o1_town_x o1_town_y o1_town_rank o1_town_weekday o1_town_from o1_town_to o1_town_came o1_town_bride o1_town_told), (ce_i16 y o1_town_x fo1_town_x), (ce_i16 y o1_town_y fo1_town_y), (ce_i16 y o1_town_weekday fo1_town_weekday), (ce_i16 y o1_town_from fo1_town_from), (ce_i16 y o1_town_to fo1_town_to), (ce_X1 o1_debts o1_debts_size o1_debts_debtor o1_debts_creditor o1_debts_kind o1_debts_due o1_debts_came o1_debts_open o1_debts_kinds), (ce_i256 y o1_debts_kinds fo1_debts_kinds), (ce_X5 o4 o4_filled o4_width o4_size o4_numbers), (ce_l60 y o4_numbers fo4_numbers)] := ⟨hP, hD⟩
          refine lv_if_eq (tgt := 78) hx hb dX4_canWalk_64 (by decide) (fun c_1752 => ?_) (fun c_1752 => ?_)
          · skip
            have nc_1752 := nb_eq (0) (0) c_1752 (btop v_1751) (bkc (x := 0) (c := 0) (by decide)) (by decide)
            exact J_78_1743 _ _ _ _ ⟨rfl, ⟨hP, hD⟩, hS, lv_sub hl [] rfl⟩
          · skip
            have nc_1752 := nb_ne (-2147483648) (2147483647) c_1752 (btop v_1751) (k := 0) (by decide) (by decide)
            refine lv_aload_n hx hb dX4_canWalk_67 rfl (lv_at hl 6 rfl) ?_
            refine lv_iload_n hx hb dX4_canWalk_68 rfl (lv_at hl 7 rfl) ?_
            refine lv_iload hx hb dX4_canWalk_69 (lv_at hl 0 rfl) ?_
            refine lv_iload_n hx hb dX4_canWalk_71 rfl (lv_at hl 8 rfl) ?_
            refine cSim (As := [.ref o1, .int a2, .int v_1720, .int a3]) (rest := []) ⟨hx, hb, hml, hown, hw0⟩ hA hK hP hD hS [false, false, false, false, true, true, false, false, true, false, false, true, true] (sX4_isAtHome l G y _ o1 a2 v_1720 a3 o1_town o1_code o1_debts o1_deeds o1_knows o1_day o1_paid o1_follows o1_town_houses o1_town_fresh o1_town_introducers o1_town_x o1_town_y o1_town_rank o1_town_weekday o1_town_from o1_town_to o1_town_came o1_town_bride o1_town_told fo1_town_weekday o1_debts_size o1_debts_debtor o1_debts_creditor o1_debts_kind o1_debts_due o1_debts_came o1_debts_open o1_debts_kinds fo1_debts_kinds (bw (0) (16) h_1746 (by decide)) p_o1_debts_size p_o1_day p_a2 h_1745 (bw (0) (405) p_a3 (by decide))) rfl ⟨(callB_of 4 hw0 (gA m_900) rfl rfl rfl (hw0 _ m_839) (hw0 _ m_853) cb_X4_isAtHome ⟨Nat.le_of_ble_eq_true rfl, Nat.le_of_ble_eq_true rfl⟩), (hw0 _ m_854)⟩ rfl hl.1 (Nat.le_of_ble_eq_true rfl) dX4_canWalk_72 ⟨Nat.le_of_ble_eq_true rfl, Nat.le_of_ble_eq_true rfl⟩ (fun r_1753 w_1753 H locs hw_1753 hP hD hS => ?_)
            rcases hw_1753 with ⟨rfl, rfl⟩ | ⟨rfl, rfl⟩
            · skip
              obtain ⟨hP, hD⟩ : vPD G A H [(ce_X4 ob ob_planned ob_bestWorth ob_bestOver ob_length ob_order ob_owner ob_weekday ob_spots ob_spot ob_deadline ob_opens ob_closes ob_stays ob_apart ob_minute ob_soonest ob_sums), (ce_i16 y ob_opens f_1666), (ce_i16 y ob_closes f_1667), (ce_i16 y ob_stays f_1668), (ce_X6 o1 o1_town o1_code o1_debts o1_deeds o1_knows o1_day o1_paid o1_follows), (ce_X7 o1_town o1_town_houses o1_town_fresh o1_town_introducers o1_town_x o1_town_y o1_town_rank o1_town_weekday o1_town_from o1_town_to o1_town_came o1_town_bride o1_town_told), (ce_i16 y o1_town_x fo1_town_x), (ce_i16 y o1_town_y fo1_town_y), (ce_i16 y o1_town_weekday fo1_town_weekday), (ce_i16 y o1_town_from fo1_town_from), (ce_i16 y o1_town_to fo1_town_to), (ce_X1 o1_debts o1_debts_size o1_debts_debtor o1_debts_creditor o1_debts_kind o1_debts_due o1_debts_came o1_debts_open o1_debts_kinds), (ce_i256 y o1_debts_kinds fo1_debts_kinds), (ce_X5 o4 o4_filled o4_width o4_size o4_numbers), (ce_l60 y o4_numbers fo4_numbers)] := ⟨hP, hD⟩
              refine lv_if_ne (tgt := 80) hx hb dX4_canWalk_75 (by decide) (fun c9 => absurd (by decide) c9) (fun _ => ?_)
              exact J_78_1743 _ _ _ _ ⟨rfl, ⟨hP, hD⟩, hS, lv_sub hl [] rfl⟩
            · skip
              obtain ⟨hP, hD⟩ : vPD G A H [(ce_X4 ob ob_planned ob_bestWorth ob_bestOver ob_length ob_order ob_owner ob_weekday ob_spots ob_spot ob_deadline ob_opens ob_closes ob_stays ob_apart ob_minute ob_soonest ob_sums), (ce_i16 y ob_opens f_1666), (ce_i16 y ob_closes f_1667), (ce_i16 y ob_stays f_1668), (ce_X6 o1 o1_town o1_code o1_debts o1_deeds o1_knows o1_day o1_paid o1_follows), (ce_X7 o1_town o1_town_houses o1_town_fresh o1_town_introducers o1_town_x o1_town_y o1_town_rank o1_town_weekday o1_town_from o1_town_to o1_town_came o1_town_bride o1_town_told), (ce_i16 y o1_town_x fo1_town_x), (ce_i16 y o1_town_y fo1_town_y), (ce_i16 y o1_town_weekday fo1_town_weekday), (ce_i16 y o1_town_from fo1_town_from), (ce_i16 y o1_town_to fo1_town_to), (ce_X1 o1_debts o1_debts_size o1_debts_debtor o1_debts_creditor o1_debts_kind o1_debts_due o1_debts_came o1_debts_open o1_debts_kinds), (ce_i256 y o1_debts_kinds fo1_debts_kinds), (ce_X5 o4 o4_filled o4_width o4_size o4_numbers), (ce_l60 y o4_numbers fo4_numbers)] := ⟨hP, hD⟩
              refine lv_if_ne (tgt := 80) hx hb dX4_canWalk_75 (by decide) (fun _ => ?_) (fun c9 => absurd c9 (by decide))
              refine lv_aload_n hx hb dX4_canWalk_80 rfl (lv_at hl 5 rfl) ?_
              refine lv_aload_n hx hb dX4_canWalk_81 rfl (lv_at hl 6 rfl) ?_
              refine lv_iload_n hx hb dX4_canWalk_82 rfl (lv_at hl 7 rfl) ?_
              refine lv_iload hx hb dX4_canWalk_83 (lv_at hl 0 rfl) ?_
              refine cVvm (As := [.ref o1, .int a2, .int v_1720]) (rest := []) ⟨hx, hb, hml, hown, hw0⟩ hA hK hP hD hS [true, true, true, true, true, true, false, false, false, true, true, true, true] (sX4_lookAt l G y _ ob o1 a2 v_1720 ob_planned ob_bestWorth ob_bestOver ob_length ob_order ob_owner ob_weekday ob_spots ob_spot ob_deadline ob_opens ob_closes ob_stays ob_apart ob_minute ob_soonest ob_sums f_1666 f_1667 f_1668 o1_town o1_code o1_debts o1_deeds o1_knows o1_day o1_paid o1_follows o1_town_houses o1_town_fresh o1_town_introducers o1_town_x o1_town_y o1_town_rank o1_town_weekday o1_town_from o1_town_to o1_town_came o1_town_bride o1_town_told fo1_town_from fo1_town_to o1_debts_size o1_debts_debtor o1_debts_creditor o1_debts_kind o1_debts_due o1_debts_came o1_debts_open o1_debts_kinds fo1_debts_kinds p_ob_planned p_ob_length p_ob_spots (bw (0) (16) h_1746 (by decide)) p_o1_debts_size p_o1_day p_a2 h_1745) rfl ⟨(callB_of 3 hw0 (gA m_907) rfl rfl rfl (hw0 _ m_839) (hw0 _ m_842) cb_X4_lookAt ⟨Nat.le_of_ble_eq_true rfl, Nat.le_of_ble_eq_true rfl⟩), (hw0 _ m_843), (hw0 _ m_844)⟩ (ci := 4) (q := (RX4, TX4, 17)) rfl rfl rfl hl.1 (Nat.le_of_ble_eq_true rfl) dX4_canWalk_85 ⟨Nat.le_of_ble_eq_true rfl, Nat.le_of_ble_eq_true rfl⟩ (fun w_1754 H locs hw_1754 hP hD hS => ?_)
              obtain ⟨f_1755, f_1756, f_1757, rfl⟩ := hw_1754
              obtain ⟨hP, hD⟩ : vPD G A H [(ce_X4 ob ob_planned ob_bestWorth ob_bestOver ob_length ob_order ob_owner ob_weekday ob_spots ob_spot ob_deadline ob_opens ob_closes ob_stays ob_apart ob_minute ob_soonest ob_sums), (ce_i16 y ob_opens f_1755), (ce_i16 y ob_closes f_1756), (ce_i16 y ob_stays f_1757), (ce_X6 o1 o1_town o1_code o1_debts o1_deeds o1_knows o1_day o1_paid o1_follows), (ce_X7 o1_town o1_town_houses o1_town_fresh o1_town_introducers o1_town_x o1_town_y o1_town_rank o1_town_weekday o1_town_from o1_town_to o1_town_came o1_town_bride o1_town_told), (ce_i16 y o1_town_x fo1_town_x), (ce_i16 y o1_town_y fo1_town_y), (ce_i16 y o1_town_weekday fo1_town_weekday), (ce_i16 y o1_town_from fo1_town_from), (ce_i16 y o1_town_to fo1_town_to), (ce_X1 o1_debts o1_debts_size o1_debts_debtor o1_debts_creditor o1_debts_kind o1_debts_due o1_debts_came o1_debts_open o1_debts_kinds), (ce_i256 y o1_debts_kinds fo1_debts_kinds), (ce_X5 o4 o4_filled o4_width o4_size o4_numbers), (ce_l60 y o4_numbers fo4_numbers)] := ⟨hP, hD⟩
              refine lv_aload_n hx hb dX4_canWalk_88 rfl (lv_at hl 5 rfl) ?_
              refine lv_iload hx hb dX4_canWalk_89 (lv_at hl 0 rfl) ?_
              refine lv_iload hx hb dX4_canWalk_91 (lv_at hl 2 rfl) ?_
              refine lv_aload_n hx hb dX4_canWalk_93 rfl (lv_at hl 6 rfl) ?_
              refine va_get (D := G) (ci := 6) (v := .ref o1_town) (C := RX6) (T := TX6) (N := 8) hx hb hw0 inA_wsX60 hown hK.1 hP 4 rfl rfl 0 (by decide) (hw0 _ m_845) (fun _ h9 => h9) rfl dX4_canWalk_94 ?_
              refine lv_iload hx hb dX4_canWalk_97 (lv_at hl 3 rfl) ?_
              refine lv_iload hx hb dX4_canWalk_99 (lv_at hl 0 rfl) ?_
              refine cVim (As := [.int v_1664, .int v_1720]) (rest := [.int v_1663, .int v_1720, .ref ob]) ⟨hx, hb, hml, hown, hw0⟩ hA hK hP hD hS [false, false, false, false, false, true, true, true] (sX7_minutes l G y _ o1_town v_1664 v_1720 o1_town_houses o1_town_fresh o1_town_introducers o1_town_x o1_town_y o1_town_rank o1_town_weekday o1_town_from o1_town_to o1_town_came o1_town_bride o1_town_told fo1_town_x fo1_town_y (bw (0) (16) h_1746 (by decide)) bv_1664 h_1745) rfl ⟨(callB_of 2 hw0 (gA m_1082) rfl rfl rfl (hw0 _ m_746) (hw0 _ m_846) cb_X7_minutes ⟨Nat.le_of_ble_eq_true rfl, Nat.le_of_ble_eq_true rfl⟩), (hw0 _ m_847), (hw0 _ m_848)⟩ (ci := 7) (q := (RX7, TX7, 12)) rfl rfl rfl hl.1 (Nat.le_of_ble_eq_true rfl) dX4_canWalk_101 ⟨Nat.le_of_ble_eq_true rfl, Nat.le_of_ble_eq_true rfl⟩ (fun r_1758 w_1758 H locs hw_1758 hP hD hS => ?_)
              obtain ⟨v_1759, er_1758, rfl⟩ := hw_1758
              subst r_1758
              obtain ⟨hP, hD⟩ : vPD G A H [(ce_X4 ob ob_planned ob_bestWorth ob_bestOver ob_length ob_order ob_owner ob_weekday ob_spots ob_spot ob_deadline ob_opens ob_closes ob_stays ob_apart ob_minute ob_soonest ob_sums), (ce_i16 y ob_opens f_1755), (ce_i16 y ob_closes f_1756), (ce_i16 y ob_stays f_1757), (ce_X6 o1 o1_town o1_code o1_debts o1_deeds o1_knows o1_day o1_paid o1_follows), (ce_X7 o1_town o1_town_houses o1_town_fresh o1_town_introducers o1_town_x o1_town_y o1_town_rank o1_town_weekday o1_town_from o1_town_to o1_town_came o1_town_bride o1_town_told), (ce_i16 y o1_town_x fo1_town_x), (ce_i16 y o1_town_y fo1_town_y), (ce_i16 y o1_town_weekday fo1_town_weekday), (ce_i16 y o1_town_from fo1_town_from), (ce_i16 y o1_town_to fo1_town_to), (ce_X1 o1_debts o1_debts_size o1_debts_debtor o1_debts_creditor o1_debts_kind o1_debts_due o1_debts_came o1_debts_open o1_debts_kinds), (ce_i256 y o1_debts_kinds fo1_debts_kinds), (ce_X5 o4 o4_filled o4_width o4_size o4_numbers), (ce_l60 y o4_numbers fo4_numbers)] := ⟨hP, hD⟩
              refine lv_iadd hx hb dX4_canWalk_104 ?_
              refine lv_topi (fun v_1760 ev_1760 => ?_)
              refine cVim (As := [.int v_1720, .int v_1760]) (rest := []) ⟨hx, hb, hml, hown, hw0⟩ hA hK hP hD hS [true, true, true, true] (sX4_seen l G y _ ob v_1720 v_1760 ob_planned ob_bestWorth ob_bestOver ob_length ob_order ob_owner ob_weekday ob_spots ob_spot ob_deadline ob_opens ob_closes ob_stays ob_apart ob_minute ob_soonest ob_sums f_1755 f_1756 f_1757 p_ob_planned p_ob_length p_ob_spots h_1745) rfl ⟨(callB_of 2 hw0 (gA m_937) rfl rfl rfl (hw0 _ m_839) (hw0 _ m_849) cb_X4_seen ⟨Nat.le_of_ble_eq_true rfl, Nat.le_of_ble_eq_true rfl⟩), (hw0 _ m_850), (hw0 _ m_851)⟩ (ci := 4) (q := (RX4, TX4, 17)) rfl rfl rfl hl.1 (Nat.le_of_ble_eq_true rfl) dX4_canWalk_105 ⟨Nat.le_of_ble_eq_true rfl, Nat.le_of_ble_eq_true rfl⟩ (fun r_1761 w_1761 H locs hw_1761 hP hD hS => ?_)
              obtain ⟨v_1762, er_1761, rfl⟩ := hw_1761
              subst r_1761
              obtain ⟨hP, hD⟩ : vPD G A H [(ce_X4 ob ob_planned ob_bestWorth ob_bestOver ob_length ob_order ob_owner ob_weekday ob_spots ob_spot ob_deadline ob_opens ob_closes ob_stays ob_apart ob_minute ob_soonest ob_sums), (ce_i16 y ob_opens f_1755), (ce_i16 y ob_closes f_1756), (ce_i16 y ob_stays f_1757), (ce_X6 o1 o1_town o1_code o1_debts o1_deeds o1_knows o1_day o1_paid o1_follows), (ce_X7 o1_town o1_town_houses o1_town_fresh o1_town_introducers o1_town_x o1_town_y o1_town_rank o1_town_weekday o1_town_from o1_town_to o1_town_came o1_town_bride o1_town_told), (ce_i16 y o1_town_x fo1_town_x), (ce_i16 y o1_town_y fo1_town_y), (ce_i16 y o1_town_weekday fo1_town_weekday), (ce_i16 y o1_town_from fo1_town_from), (ce_i16 y o1_town_to fo1_town_to), (ce_X1 o1_debts o1_debts_size o1_debts_debtor o1_debts_creditor o1_debts_kind o1_debts_due o1_debts_came o1_debts_open o1_debts_kinds), (ce_i256 y o1_debts_kinds fo1_debts_kinds), (ce_X5 o4 o4_filled o4_width o4_size o4_numbers), (ce_l60 y o4_numbers fo4_numbers)] := ⟨hP, hD⟩
              refine lv_istore (lv' := [(7, .int v_1762), (9, .int v_1720), (8, .int v_1662), (6, .int v_1664), (5, .int v_1665), (0, .ref ob), (1, .ref o1), (2, .int a2), (3, .int a3), (4, .ref o4)]) hx hb dX4_canWalk_108 hl (by decide) rfl (fun ls hl => ?_)
              refine lv_iload hx hb dX4_canWalk_110 (lv_at hl 0 rfl) ?_
              refine lv_sipush (v := 1000) hx hb dX4_canWalk_112 (by decide) ?_
              refine lv_icmp_lt (tgt := 120) hx hb dX4_canWalk_115 (by decide) (fun c_1763 => ?_) (fun c_1763 => ?_)
              · skip
                have nc_1763 := nb_lt (999) (1000) c_1763 (btop v_1762) (bkc (x := 1000) (c := 1000) (by decide)) (by decide)
                refine lv_iload hx hb dX4_canWalk_120 (lv_at hl 4 rfl) ?_
                refine lv_iconst (v := 1) hx hb dX4_canWalk_122 (by decide) ?_
                refine lv_iload hx hb dX4_canWalk_123 (lv_at hl 1 rfl) ?_
                refine lv_ishl hx hb dX4_canWalk_125 ?_
                refine lv_topi (fun v_1764 ev_1764 => ?_)
                have bv_1764 : (1 : Int) ≤ v_1764.toInt ∧ v_1764.toInt ≤ 32768 := ba_shl 0 15 ev_1764 h_1745 (by decide)
                refine lv_ior hx hb dX4_canWalk_126 ?_
                refine lv_topi (fun v_1765 ev_1765 => ?_)
                have bv_1765 : (0 : Int) ≤ v_1765.toInt ∧ v_1765.toInt ≤ 65535 := ba_or 16 ev_1765 bv_1665 bv_1764 (by decide)
                refine lv_istore (lv' := [(5, .int v_1765), (7, .int v_1762), (9, .int v_1720), (8, .int v_1662), (6, .int v_1664), (0, .ref ob), (1, .ref o1), (2, .int a2), (3, .int a3), (4, .ref o4)]) hx hb dX4_canWalk_127 hl (by decide) rfl (fun ls hl => ?_)
                refine lv_iload hx hb dX4_canWalk_129 (lv_at hl 2 rfl) ?_
                refine lv_istore (lv' := [(6, .int v_1720), (5, .int v_1765), (7, .int v_1762), (9, .int v_1720), (8, .int v_1662), (0, .ref ob), (1, .ref o1), (2, .int a2), (3, .int a3), (4, .ref o4)]) hx hb dX4_canWalk_131 hl (by decide) rfl (fun ls hl => ?_)
                obtain ⟨v_1766, ev_1766⟩ : ∃ z : Int32, z = v_1662 + 1 := ⟨_, rfl⟩
                have qv_1766 := ba_add ev_1766 nc_1718.1 (bkc (x := 1) (c := 1) (by decide)) (by decide)
                have bv_1766 : (1 : Int) ≤ v_1766.toInt ∧ v_1766.toInt ≤ 60 := bq_add qv_1766 nc_1718.1 (bkc (x := 1) (c := 1) (by decide)) _ _ (by decide)
                have qv_1766 : v_1766.toInt = v_1662.toInt + (1) := qv_1766
                refine lv_iinc (v := v_1766) (lv' := [(8, .int v_1766), (6, .int v_1720), (5, .int v_1765), (7, .int v_1762), (9, .int v_1720), (0, .ref ob), (1, .ref o1), (2, .int a2), (3, .int a3), (4, .ref o4)]) hx hb dX4_canWalk_133 hl (k := 4) rfl (ev_1766.symm) (by decide) rfl (fun ls hl => ?_)
                refine lv_goto (tgt := 12) hx hb dX4_canWalk_136 (by decide) ?_
                exact ih_1717 _ (ml_inc (hi := 60) hn_1717 qv_1766 (by decide) ((bw (0) (60) bv_1766 (by decide))).2) _ _ _ _ ⟨v_1766, v_1762, v_1720, v_1765, f_1755, f_1756, f_1757, rfl, (bw (0) (60) bv_1766 (by decide)), nc_1763.1, h_1745, bv_1765, rfl, ⟨hP, hD⟩, hS, lv_sub hl [0, 3, 1, 2, 5, 6, 7, 8, 9] rfl⟩
              · skip
                have nc_1763 := nb_nlt (1000) (1000) c_1763 (bkc (x := 1000) (c := 1000) (by decide)) (btop v_1762) (by decide)
                refine lv_iconst (v := 0) hx hb dX4_canWalk_118 (by decide) ?_
                exact W.zret (v := 0) hx hb hr rfl (fun t ht hW => ⟨⟨0, _, rfl, Or.inl (⟨f_1755, f_1756, f_1757, nc_1718.2.1, rfl, rfl⟩), by rw [ht]; exact hP, hD⟩, hS.F ht⟩) hS.2.2 dX4_canWalk_119

set_option maxHeartbeats 4000000 in
set_option maxRecDepth 100000 in
theorem sX4_gatherDeadlines (l : Launch) (G : va_G) (y : Nat → ClassId) (sz : Nat) (ob : Nat) (o1 : Nat) (a2 : Int32) (ob_planned : Int32) (ob_bestWorth : Int32) (ob_bestOver : Int32) (ob_length : Int32) (ob_order : Nat) (ob_owner : Int32) (ob_weekday : Int32) (ob_spots : Int32) (ob_spot : Nat) (ob_deadline : Nat) (ob_opens : Nat) (ob_closes : Nat) (ob_stays : Nat) (ob_apart : Nat) (ob_minute : Nat) (ob_soonest : Nat) (ob_sums : Nat) (fob_spot : Nat → Int32) (fob_deadline : Nat → Int32) (o1_town : Nat) (o1_code : Nat) (o1_debts : Nat) (o1_deeds : Nat) (o1_knows : Nat) (o1_day : Int32) (o1_paid : Int32) (o1_follows : Nat) (o1_debts_size : Int32) (o1_debts_debtor : Nat) (o1_debts_creditor : Nat) (o1_debts_kind : Nat) (o1_debts_due : Nat) (o1_debts_came : Nat) (o1_debts_open : Nat) (o1_debts_kinds : Nat) (fo1_debts_debtor : Nat → Int32) (fo1_debts_creditor : Nat → Int32) (fo1_debts_due : Nat → Int32) (fo1_debts_open : Nat → Int32) (p_ob_planned : (0 : Int) ≤ ob_planned.toInt ∧ ob_planned.toInt ≤ 1) (p_ob_length : (0 : Int) ≤ ob_length.toInt ∧ ob_length.toInt ≤ 10) (p_ob_spots : (0 : Int) ≤ ob_spots.toInt ∧ ob_spots.toInt ≤ 10) (p_fob_spot : ∀ i, (0 : Int) ≤ (fob_spot i).toInt ∧ (fob_spot i).toInt ≤ 15) (p_o1_debts_size : (0 : Int) ≤ o1_debts_size.toInt ∧ o1_debts_size.toInt ≤ 600) (p_fo1_debts_creditor : ∀ i, (0 : Int) ≤ (fo1_debts_creditor i).toInt ∧ (fo1_debts_creditor i).toInt ≤ 15) (p_o1_day : (0 : Int) ≤ o1_day.toInt ∧ o1_day.toInt ≤ 399) (p_a2 : (0 : Int) ≤ a2.toInt ∧ a2.toInt ≤ 15) : Met l yX4_gatherDeadlines (Cond.code yX4_gatherDeadlines cX4_gatherDeadlines 7 none :: wAll) ({ frames := 1, cells := 0, slots := 0, locals := 24 }) (va_Pc [.ref ob, .ref o1, .int a2] (kp G y sz [(ce_X4 ob ob_planned ob_bestWorth ob_bestOver ob_length ob_order ob_owner ob_weekday ob_spots ob_spot ob_deadline ob_opens ob_closes ob_stays ob_apart ob_minute ob_soonest ob_sums), (ce_i10 y ob_spot fob_spot), (ce_i10 y ob_deadline fob_deadline), (ce_X6 o1 o1_town o1_code o1_debts o1_deeds o1_knows o1_day o1_paid o1_follows), (ce_X1 o1_debts o1_debts_size o1_debts_debtor o1_debts_creditor o1_debts_kind o1_debts_due o1_debts_came o1_debts_open o1_debts_kinds), (ce_i600 y o1_debts_debtor fo1_debts_debtor), (ce_i600 y o1_debts_creditor fo1_debts_creditor), (ce_i600 y o1_debts_due fo1_debts_due), (ce_i16 y o1_debts_open fo1_debts_open)])) (va_Qv (fun (w : va_W) => (∃ (v_6311 : Int32) (f_6312 : Nat → Int32) (f_6313 : Nat → Int32), ((0 : Int) ≤ v_6311.toInt ∧ v_6311.toInt ≤ 10) ∧ (∀ i, (0 : Int) ≤ (f_6312 i).toInt ∧ (f_6312 i).toInt ≤ 15) ∧ w = [(ce_X4 ob ob_planned ob_bestWorth ob_bestOver ob_length ob_order ob_owner ob_weekday v_6311 ob_spot ob_deadline ob_opens ob_closes ob_stays ob_apart ob_minute ob_soonest ob_sums), (ce_i10 y ob_spot f_6312), (ce_i10 y ob_deadline f_6313), (ce_X6 o1 o1_town o1_code o1_debts o1_deeds o1_knows o1_day o1_paid o1_follows), (ce_X1 o1_debts o1_debts_size o1_debts_debtor o1_debts_creditor o1_debts_kind o1_debts_due o1_debts_came o1_debts_open o1_debts_kinds), (ce_i600 y o1_debts_debtor fo1_debts_debtor), (ce_i600 y o1_debts_creditor fo1_debts_creditor), (ce_i600 y o1_debts_due fo1_debts_due), (ce_i16 y o1_debts_open fo1_debts_open)])) (kq G (va_A [(ce_X4 ob ob_planned ob_bestWorth ob_bestOver ob_length ob_order ob_owner ob_weekday ob_spots ob_spot ob_deadline ob_opens ob_closes ob_stays ob_apart ob_minute ob_soonest ob_sums), (ce_i10 y ob_spot fob_spot), (ce_i10 y ob_deadline fob_deadline), (ce_X6 o1 o1_town o1_code o1_debts o1_deeds o1_knows o1_day o1_paid o1_follows), (ce_X1 o1_debts o1_debts_size o1_debts_debtor o1_debts_creditor o1_debts_kind o1_debts_due o1_debts_came o1_debts_open o1_debts_kinds), (ce_i600 y o1_debts_debtor fo1_debts_debtor), (ce_i600 y o1_debts_creditor fo1_debts_creditor), (ce_i600 y o1_debts_due fo1_debts_due), (ce_i16 y o1_debts_open fo1_debts_open)] sz)) (va_A [(ce_X4 ob ob_planned ob_bestWorth ob_bestOver ob_length ob_order ob_owner ob_weekday ob_spots ob_spot ob_deadline ob_opens ob_closes ob_stays ob_apart ob_minute ob_soonest ob_sums), (ce_i10 y ob_spot fob_spot), (ce_i10 y ob_deadline fob_deadline), (ce_X6 o1 o1_town o1_code o1_debts o1_deeds o1_knows o1_day o1_paid o1_follows), (ce_X1 o1_debts o1_debts_size o1_debts_debtor o1_debts_creditor o1_debts_kind o1_debts_due o1_debts_came o1_debts_open o1_debts_kinds), (ce_i600 y o1_debts_debtor fo1_debts_debtor), (ce_i600 y o1_debts_creditor fo1_debts_creditor), (ce_i600 y o1_debts_due fo1_debts_due), (ce_i16 y o1_debts_open fo1_debts_open)] sz)) 0 0 (va_A [(ce_X4 ob ob_planned ob_bestWorth ob_bestOver ob_length ob_order ob_owner ob_weekday ob_spots ob_spot ob_deadline ob_opens ob_closes ob_stays ob_apart ob_minute ob_soonest ob_sums), (ce_i10 y ob_spot fob_spot), (ce_i10 y ob_deadline fob_deadline), (ce_X6 o1 o1_town o1_code o1_debts o1_deeds o1_knows o1_day o1_paid o1_follows), (ce_X1 o1_debts o1_debts_size o1_debts_debtor o1_debts_creditor o1_debts_kind o1_debts_due o1_debts_came o1_debts_open o1_debts_kinds), (ce_i600 y o1_debts_debtor fo1_debts_debtor), (ce_i600 y o1_debts_creditor fo1_debts_creditor), (ce_i600 y o1_debts_due fo1_debts_due), (ce_i16 y o1_debts_open fo1_debts_open)] sz) := by
  refine Met.ofW (cc := cX4_gatherDeadlines) (maxL := 7) (ret := none) (by decide) rfl ?_
  intro p e s m args below meth c s₁ B hml hv
  obtain ⟨rfl, hsz, hP, hK, hD0⟩ := hv
  have hx := B.exec
  have hb := B.bytes
  have hr := B.returns
  have hw0 : ∀ w ∈ wAll, w.before _ s = true := fun w h => atoms_spec (ws := Cond.code yX4_gatherDeadlines cX4_gatherDeadlines 7 none :: wAll) B.pre w (List.mem_cons_of_mem _ h)
  have hown : s.vm.findClass RX4 = some m.cls := findClass_of_methodNamed B.named
  subst hsz
  have hD := hD0.self (sz := s.heap.size)
  generalize hAe : va_A [(ce_X4 ob ob_planned ob_bestWorth ob_bestOver ob_length ob_order ob_owner ob_weekday ob_spots ob_spot ob_deadline ob_opens ob_closes ob_stays ob_apart ob_minute ob_soonest ob_sums), (ce_i10 y ob_spot fob_spot), (ce_i10 y ob_deadline fob_deadline), (ce_X6 o1 o1_town o1_code o1_debts o1_deeds o1_knows o1_day o1_paid o1_follows), (ce_X1 o1_debts o1_debts_size o1_debts_debtor o1_debts_creditor o1_debts_kind o1_debts_due o1_debts_came o1_debts_open o1_debts_kinds), (ce_i600 y o1_debts_debtor fo1_debts_debtor), (ce_i600 y o1_debts_creditor fo1_debts_creditor), (ce_i600 y o1_debts_due fo1_debts_due), (ce_i16 y o1_debts_open fo1_debts_open)] s.heap.size = A at hD ⊢
  have hA : ∀ q : Nat, s.heap.size ≤ q → A q := fun q h => by rw [← hAe]; exact Or.inr h
  have hS : va_S A s.heap s.heap [] := va_S.rf
  have hP : va_P G vwCl [(ce_X4 ob ob_planned ob_bestWorth ob_bestOver ob_length ob_order ob_owner ob_weekday ob_spots ob_spot ob_deadline ob_opens ob_closes ob_stays ob_apart ob_minute ob_soonest ob_sums), (ce_i10 y ob_spot fob_spot), (ce_i10 y ob_deadline fob_deadline), (ce_X6 o1 o1_town o1_code o1_debts o1_deeds o1_knows o1_day o1_paid o1_follows), (ce_X1 o1_debts o1_debts_size o1_debts_debtor o1_debts_creditor o1_debts_kind o1_debts_due o1_debts_came o1_debts_open o1_debts_kinds), (ce_i600 y o1_debts_debtor fo1_debts_debtor), (ce_i600 y o1_debts_creditor fo1_debts_creditor), (ce_i600 y o1_debts_due fo1_debts_due), (ce_i16 y o1_debts_open fo1_debts_open)] s.heap := hP
  have hl := lv_entry ([.ref ob, .ref o1, .int a2]) (n := 7) (Nat.le_of_ble_eq_true rfl)
  rw [lg_entry_eq]
  generalize (lg_sl ([.ref ob, .ref o1, .int a2]) ++ List.replicate (7 - (lg_sl ([.ref ob, .ref o1, .int a2])).length) Slot.unset).toArray = ls at hl ⊢
  have hl : lv_has ls 7 [(0, .ref ob), (1, .ref o1), (2, .int a2)] := hl
  refine lv_aload_n hx hb dX4_gatherDeadlines_0 rfl (lv_at hl 0 rfl) ?_
  refine lv_iconst (v := 0) hx hb dX4_gatherDeadlines_1 (by decide) ?_
  refine va_put (D := G) (ci := 4) (v := .int 0) (ty := .int) (C := RX4) (T := TX4) (N := 17) hx hb hw0 inA_wsX40 tyX4 tyX4_ok nmX4 hown hK.1 hP hD hS 0 rfl rfl 7 (by decide) (hw0 _ m_827) (fun _ h9 => h9) rfl fd_X4_7 rfl rfl (Nat.le_of_ble_eq_true rfl) dX4_gatherDeadlines_2 (fun H locs hP hD hS => ?_)
  obtain ⟨hP, hD⟩ : vPD G A H [(ce_X4 ob ob_planned ob_bestWorth ob_bestOver ob_length ob_order ob_owner ob_weekday 0 ob_spot ob_deadline ob_opens ob_closes ob_stays ob_apart ob_minute ob_soonest ob_sums), (ce_i10 y ob_spot fob_spot), (ce_i10 y ob_deadline fob_deadline), (ce_X6 o1 o1_town o1_code o1_debts o1_deeds o1_knows o1_day o1_paid o1_follows), (ce_X1 o1_debts o1_debts_size o1_debts_debtor o1_debts_creditor o1_debts_kind o1_debts_due o1_debts_came o1_debts_open o1_debts_kinds), (ce_i600 y o1_debts_debtor fo1_debts_debtor), (ce_i600 y o1_debts_creditor fo1_debts_creditor), (ce_i600 y o1_debts_due fo1_debts_due), (ce_i16 y o1_debts_open fo1_debts_open)] := ⟨hP, hD⟩
  refine lv_iconst (v := 0) hx hb dX4_gatherDeadlines_5 (by decide) ?_
  refine lv_istore_n (lv' := [(3, .int 0), (0, .ref ob), (1, .ref o1), (2, .int a2)]) hx hb dX4_gatherDeadlines_6 rfl hl (by decide) rfl (fun ls hl => ?_)
  refine loopX (fun n H locs ls st => ∃ (v_3536 : Int32) (v_3537 : Int32) (f_3538 : Nat → Int32) (f_3539 : Nat → Int32), (10 - v_3536.toInt).toNat = n ∧ ((0 : Int) ≤ v_3536.toInt ∧ v_3536.toInt ≤ 10) ∧ ((0 : Int) ≤ v_3537.toInt ∧ v_3537.toInt ≤ 10) ∧ (∀ i, (0 : Int) ≤ (f_3538 i).toInt ∧ (f_3538 i).toInt ≤ 15) ∧ (v_3537.toInt ≤ v_3536.toInt) ∧ st = [] ∧ vPD G A H [(ce_X4 ob ob_planned ob_bestWorth ob_bestOver ob_length ob_order ob_owner ob_weekday v_3537 ob_spot ob_deadline ob_opens ob_closes ob_stays ob_apart ob_minute ob_soonest ob_sums), (ce_i10 y ob_spot f_3538), (ce_i10 y ob_deadline f_3539), (ce_X6 o1 o1_town o1_code o1_debts o1_deeds o1_knows o1_day o1_paid o1_follows), (ce_X1 o1_debts o1_debts_size o1_debts_debtor o1_debts_creditor o1_debts_kind o1_debts_due o1_debts_came o1_debts_open o1_debts_kinds), (ce_i600 y o1_debts_debtor fo1_debts_debtor), (ce_i600 y o1_debts_creditor fo1_debts_creditor), (ce_i600 y o1_debts_due fo1_debts_due), (ce_i16 y o1_debts_open fo1_debts_open)] ∧ va_S A s.heap H locs ∧ lv_has ls 7 [(3, .int v_3536), (0, .ref ob), (1, .ref o1), (2, .int a2)]) ?_ (n := (10 - (0 : Int32).toInt).toNat) ⟨0, 0, fob_spot, fob_deadline, rfl, (bw (0) (10) (bkc (x := 0) (c := 0) (by decide)) (by decide)), (bw (0) (10) (bkc (x := 0) (c := 0) (by decide)) (by decide)), p_fob_spot, (by have h90 : Int32.toInt 0 = 0 := (by decide); omega), rfl, ⟨hP, hD⟩, hS, lv_sub hl [0, 1, 2, 3] rfl⟩
  rintro n ih_3847 H locs ls st ⟨v_3536, v_3537, f_3538, f_3539, hn_3847, bv_3536, bv_3537, bf_3538, rl3539_0, rfl, ⟨hP, hD⟩, hS, hl⟩
  refine lv_iload_n hx hb dX4_gatherDeadlines_7 rfl (lv_at hl 0 rfl) ?_
  refine lv_bipush (v := 10) hx hb dX4_gatherDeadlines_8 (by decide) ?_
  refine lv_icmp_ge (tgt := 157) hx hb dX4_gatherDeadlines_10 (by decide) (fun c_3848 => ?_) (fun c_3848 => ?_)
  · skip
    have nc_3848 := nb_le (10) (10) c_3848 (bkc (x := 10) (c := 10) (by decide)) bv_3536 (by decide)
    exact W.vret hx hb hr (fun t ht hW => ⟨⟨_, rfl, ⟨v_3537, f_3538, f_3539, bv_3537, bf_3538, rfl⟩, by rw [ht]; exact hP, hD⟩, hS.F ht⟩) hS.2.2 dX4_gatherDeadlines_157
  · skip
    have nc_3848 := nb_nle (9) (10) c_3848 bv_3536 (bkc (x := 10) (c := 10) (by decide)) (by decide)
    refine lv_aload_n hx hb dX4_gatherDeadlines_13 rfl (lv_at hl 2 rfl) ?_
    refine va_get (D := G) (ci := 6) (v := .ref o1_debts) (C := RX6) (T := TX6) (N := 8) hx hb hw0 inA_wsX60 hown hK.1 hP 3 rfl rfl 2 (by decide) (hw0 _ m_836) (fun _ h9 => h9) rfl dX4_gatherDeadlines_14 ?_
    refine lv_iload_n hx hb dX4_gatherDeadlines_17 rfl (lv_at hl 3 rfl) ?_
    refine lv_iload_n hx hb dX4_gatherDeadlines_18 rfl (lv_at hl 0 rfl) ?_
    refine cVim (As := [.int a2, .int v_3536]) (rest := []) ⟨hx, hb, hml, hown, hw0⟩ hA hK hP hD hS [false, false, false, false, true, true, false, false, true] (sX1_nth l G y _ o1_debts a2 v_3536 o1_debts_size o1_debts_debtor o1_debts_creditor o1_debts_kind o1_debts_due o1_debts_came o1_debts_open o1_debts_kinds fo1_debts_debtor fo1_debts_open p_o1_debts_size p_a2) rfl ⟨(callB_of 2 hw0 (gA m_325) rfl rfl rfl (hw0 _ m_330) (hw0 _ m_886) cb_X1_nth ⟨Nat.le_of_ble_eq_true rfl, Nat.le_of_ble_eq_true rfl⟩), (hw0 _ m_887), (hw0 _ m_888)⟩ (ci := 1) (q := (RX1, TX1, 8)) rfl rfl rfl hl.1 (Nat.le_of_ble_eq_true rfl) dX4_gatherDeadlines_19 ⟨Nat.le_of_ble_eq_true rfl, Nat.le_of_ble_eq_true rfl⟩ (fun r_3849 w_3849 H locs hw_3849 hP hD hS => ?_)
    obtain ⟨v_3850, bv_3850, er_3849, rfl⟩ := hw_3849
    subst r_3849
    obtain ⟨hP, hD⟩ : vPD G A H [(ce_X4 ob ob_planned ob_bestWorth ob_bestOver ob_length ob_order ob_owner ob_weekday v_3537 ob_spot ob_deadline ob_opens ob_closes ob_stays ob_apart ob_minute ob_soonest ob_sums), (ce_i10 y ob_spot f_3538), (ce_i10 y ob_deadline f_3539), (ce_X6 o1 o1_town o1_code o1_debts o1_deeds o1_knows o1_day o1_paid o1_follows), (ce_X1 o1_debts o1_debts_size o1_debts_debtor o1_debts_creditor o1_debts_kind o1_debts_due o1_debts_came o1_debts_open o1_debts_kinds), (ce_i600 y o1_debts_debtor fo1_debts_debtor), (ce_i600 y o1_debts_creditor fo1_debts_creditor), (ce_i600 y o1_debts_due fo1_debts_due), (ce_i16 y o1_debts_open fo1_debts_open)] := ⟨hP, hD⟩
    refine lv_istore (lv' := [(4, .int v_3850), (3, .int v_3536), (0, .ref ob), (1, .ref o1), (2, .int a2)]) hx hb dX4_gatherDeadlines_22 hl (by decide) rfl (fun ls hl => ?_)
    refine lv_iload hx hb dX4_gatherDeadlines_24 (lv_at hl 0 rfl) ?_
    refine lv_if_ge (tgt := 30) hx hb dX4_gatherDeadlines_26 (by decide) (fun c_3851 => ?_) (fun c_3851 => ?_)
    · skip
      have nc_3851 := nb_le (0) (0) c_3851 (bkc (x := 0) (c := 0) (by decide)) bv_3850 (by decide)
      refine lv_aload_n hx hb dX4_gatherDeadlines_30 rfl (lv_at hl 2 rfl) ?_
      refine va_get (D := G) (ci := 4) (v := .int v_3537) (C := RX4) (T := TX4) (N := 17) hx hb hw0 inA_wsX40 hown hK.1 hP 0 rfl rfl 7 (by decide) (hw0 _ m_827) (fun _ h9 => h9) rfl dX4_gatherDeadlines_31 ?_
      refine lv_istore (lv' := [(5, .int v_3537), (4, .int v_3850), (3, .int v_3536), (0, .ref ob), (1, .ref o1), (2, .int a2)]) hx hb dX4_gatherDeadlines_34 hl (by decide) rfl (fun ls hl => ?_)
      refine lv_iconst (v := 0) hx hb dX4_gatherDeadlines_36 (by decide) ?_
      refine lv_istore (lv' := [(6, .int 0), (5, .int v_3537), (4, .int v_3850), (3, .int v_3536), (0, .ref ob), (1, .ref o1), (2, .int a2)]) hx hb dX4_gatherDeadlines_37 hl (by decide) rfl (fun ls hl => ?_)
      refine loopX (fun n H locs ls st => ∃ (v_4100 : Int32) (v_4101 : Int32), (10 - v_4100.toInt).toNat = n ∧ ((0 : Int) ≤ v_4100.toInt ∧ v_4100.toInt ≤ 10) ∧ ((0 : Int) ≤ v_4101.toInt ∧ v_4101.toInt ≤ 10) ∧ (v_3537.toInt ≤ v_3536.toInt) ∧ (v_4101.toInt ≤ v_3537.toInt) ∧ st = [] ∧ vPD G A H [(ce_X4 ob ob_planned ob_bestWorth ob_bestOver ob_length ob_order ob_owner ob_weekday v_3537 ob_spot ob_deadline ob_opens ob_closes ob_stays ob_apart ob_minute ob_soonest ob_sums), (ce_i10 y ob_spot f_3538), (ce_i10 y ob_deadline f_3539), (ce_X6 o1 o1_town o1_code o1_debts o1_deeds o1_knows o1_day o1_paid o1_follows), (ce_X1 o1_debts o1_debts_size o1_debts_debtor o1_debts_creditor o1_debts_kind o1_debts_due o1_debts_came o1_debts_open o1_debts_kinds), (ce_i600 y o1_debts_debtor fo1_debts_debtor), (ce_i600 y o1_debts_creditor fo1_debts_creditor), (ce_i600 y o1_debts_due fo1_debts_due), (ce_i16 y o1_debts_open fo1_debts_open)] ∧ va_S A s.heap H locs ∧ lv_has ls 7 [(6, .int v_4100), (5, .int v_4101), (4, .int v_3850), (3, .int v_3536), (0, .ref ob), (1, .ref o1), (2, .int a2)]) ?_ (n := (10 - (0 : Int32).toInt).toNat) ⟨0, v_3537, rfl, (bw (0) (10) (bkc (x := 0) (c := 0) (by decide)) (by decide)), bv_3537, (by have h90 : Int32.toInt 0 = 0 := (by decide); omega), (by have h90 : Int32.toInt 0 = 0 := (by decide); omega), rfl, ⟨hP, hD⟩, hS, lv_sub hl [0, 1, 2, 3, 4, 5, 6] rfl⟩
      rintro n ih_4128 H locs ls st ⟨v_4100, v_4101, hn_4128, bv_4100, bv_4101, rl4101_0, rl4101_1, rfl, ⟨hP, hD⟩, hS, hl⟩
      refine lv_iload hx hb dX4_gatherDeadlines_39 (lv_at hl 0 rfl) ?_
      refine lv_aload_n hx hb dX4_gatherDeadlines_41 rfl (lv_at hl 4 rfl) ?_
      refine va_get (D := G) (ci := 4) (v := .int v_3537) (C := RX4) (T := TX4) (N := 17) hx hb hw0 inA_wsX40 hown hK.1 hP 0 rfl rfl 7 (by decide) (hw0 _ m_827) (fun _ h9 => h9) rfl dX4_gatherDeadlines_42 ?_
      refine lv_icmp_ge (tgt := 78) hx hb dX4_gatherDeadlines_45 (by decide) (fun c_4129 => ?_) (fun c_4129 => ?_)
      · skip
        have nc_4129 := nb_le (10) (0) c_4129 bv_3537 bv_4100 (by decide)
        have h_4130 : (0 : Int) ≤ v_4101.toInt ∧ v_4101.toInt ≤ 9 := by omega
        have h_4131 : (0 : Int) ≤ v_3537.toInt ∧ v_3537.toInt ≤ 9 := by omega
        refine lv_iload hx hb dX4_gatherDeadlines_78 (lv_at hl 1 rfl) ?_
        refine lv_aload_n hx hb dX4_gatherDeadlines_80 rfl (lv_at hl 4 rfl) ?_
        refine va_get (D := G) (ci := 4) (v := .int v_3537) (C := RX4) (T := TX4) (N := 17) hx hb hw0 inA_wsX40 hown hK.1 hP 0 rfl rfl 7 (by decide) (hw0 _ m_827) (fun _ h9 => h9) rfl dX4_gatherDeadlines_81 ?_
        refine cutW 124 (fun H locs ls st => ∃ (v_4137 : Int32) (f_4138 : Nat → Int32) (f_4139 : Nat → Int32), ((0 : Int) ≤ v_4137.toInt ∧ v_4137.toInt ≤ 10) ∧ (∀ i, (0 : Int) ≤ (f_4138 i).toInt ∧ (f_4138 i).toInt ≤ 15) ∧ (v_4137.toInt ≤ v_3536.toInt + 1) ∧ st = [] ∧ vPD G A H [(ce_X4 ob ob_planned ob_bestWorth ob_bestOver ob_length ob_order ob_owner ob_weekday v_4137 ob_spot ob_deadline ob_opens ob_closes ob_stays ob_apart ob_minute ob_soonest ob_sums), (ce_i10 y ob_spot f_4138), (ce_i10 y ob_deadline f_4139), (ce_X6 o1 o1_town o1_code o1_debts o1_deeds o1_knows o1_day o1_paid o1_follows), (ce_X1 o1_debts o1_debts_size o1_debts_debtor o1_debts_creditor o1_debts_kind o1_debts_due o1_debts_came o1_debts_open o1_debts_kinds), (ce_i600 y o1_debts_debtor fo1_debts_debtor), (ce_i600 y o1_debts_creditor fo1_debts_creditor), (ce_i600 y o1_debts_due fo1_debts_due), (ce_i16 y o1_debts_open fo1_debts_open)] ∧ va_S A s.heap H locs ∧ lv_has ls 7 [(5, .int v_4101), (4, .int v_3850), (3, .int v_3536), (0, .ref ob), (1, .ref o1), (2, .int a2)]) ?_ (fun J_124_4139 => ?_)
        · rintro H locs ls st ⟨v_4137, f_4138, f_4139, bv_4137, bf_4138, rl4139_0, rfl, ⟨hP, hD⟩, hS, hl⟩
          refine lv_aload_n hx hb dX4_gatherDeadlines_124 rfl (lv_at hl 3 rfl) ?_
          refine va_get (D := G) (ci := 4) (v := .ref ob_deadline) (C := RX4) (T := TX4) (N := 17) hx hb hw0 inA_wsX40 hown hK.1 hP 0 rfl rfl 9 (by decide) (hw0 _ m_890) (fun _ h9 => h9) rfl dX4_gatherDeadlines_125 ?_
          refine lv_iload hx hb dX4_gatherDeadlines_128 (lv_at hl 0 rfl) ?_
          refine lv_aload_n hx hb dX4_gatherDeadlines_130 rfl (lv_at hl 3 rfl) ?_
          refine va_get (D := G) (ci := 4) (v := .ref ob_deadline) (C := RX4) (T := TX4) (N := 17) hx hb hw0 inA_wsX40 hown hK.1 hP 0 rfl rfl 9 (by decide) (hw0 _ m_890) (fun _ h9 => h9) rfl dX4_gatherDeadlines_131 ?_
          refine lv_iload hx hb dX4_gatherDeadlines_134 (lv_at hl 0 rfl) ?_
          refine va_iald hx hb hK.1 hP 2 1 rfl rfl (vi h_4130 (by decide)) dX4_gatherDeadlines_136 ?_
          refine lv_topi (fun v_4140 ev_4140 => ?_)
          refine lv_aload_n hx hb dX4_gatherDeadlines_137 rfl (lv_at hl 4 rfl) ?_
          refine va_get (D := G) (ci := 6) (v := .ref o1_debts) (C := RX6) (T := TX6) (N := 8) hx hb hw0 inA_wsX60 hown hK.1 hP 3 rfl rfl 2 (by decide) (hw0 _ m_836) (fun _ h9 => h9) rfl dX4_gatherDeadlines_138 ?_
          refine va_get (D := G) (ci := 1) (v := .ref o1_debts_due) (C := RX1) (T := TX1) (N := 8) hx hb hw0 inA_wsX10 hown hK.1 hP 4 rfl rfl 4 (by decide) (hw0 _ m_891) (fun _ h9 => h9) rfl dX4_gatherDeadlines_141 ?_
          refine lv_iload hx hb dX4_gatherDeadlines_144 (lv_at hl 1 rfl) ?_
          refine va_iald hx hb hK.1 hP 7 1 rfl rfl (vi nc_3851.2.1 (by decide)) dX4_gatherDeadlines_146 ?_
          refine lv_topi (fun v_4141 ev_4141 => ?_)
          refine va_mmin (own := RX4) hx hb (by rw [hml]; exact hl.1.symm) hown (hw0 _ m_824) (hw0 _ m_282) (hw0 _ m_283) (hw0 _ m_284) (Nat.le_of_ble_eq_true rfl) (Nat.le_of_ble_eq_true rfl) (Nat.zero_le _) (Nat.zero_le _) dX4_gatherDeadlines_147 ?_
          refine lv_topi (fun v_4142 ev_4142 => ?_)
          refine va_iast hx hb hK.1 hP hD hS 2 1 rfl rfl (vi h_4130 (by decide)) dX4_gatherDeadlines_150 (fun H locs hP hD hS => ?_)
          generalize hf_4143 : (upd f_4139 (v_4101 : Int32).toNatClampNeg v_4142) = f_4143 at hP hD
          obtain ⟨hP, hD⟩ : vPD G A H [(ce_X4 ob ob_planned ob_bestWorth ob_bestOver ob_length ob_order ob_owner ob_weekday v_4137 ob_spot ob_deadline ob_opens ob_closes ob_stays ob_apart ob_minute ob_soonest ob_sums), (ce_i10 y ob_spot f_4138), (ce_i10 y ob_deadline f_4143), (ce_X6 o1 o1_town o1_code o1_debts o1_deeds o1_knows o1_day o1_paid o1_follows), (ce_X1 o1_debts o1_debts_size o1_debts_debtor o1_debts_creditor o1_debts_kind o1_debts_due o1_debts_came o1_debts_open o1_debts_kinds), (ce_i600 y o1_debts_debtor fo1_debts_debtor), (ce_i600 y o1_debts_creditor fo1_debts_creditor), (ce_i600 y o1_debts_due fo1_debts_due), (ce_i16 y o1_debts_open fo1_debts_open)] := ⟨hP, hD⟩
          obtain ⟨v_4144, ev_4144⟩ : ∃ z : Int32, z = v_3536 + 1 := ⟨_, rfl⟩
          have qv_4144 := ba_add ev_4144 nc_3848.1 (bkc (x := 1) (c := 1) (by decide)) (by decide)
          have bv_4144 : (1 : Int) ≤ v_4144.toInt ∧ v_4144.toInt ≤ 10 := bq_add qv_4144 nc_3848.1 (bkc (x := 1) (c := 1) (by decide)) _ _ (by decide)
          have qv_4144 : v_4144.toInt = v_3536.toInt + (1) := qv_4144
          refine lv_iinc (v := v_4144) (lv' := [(3, .int v_4144), (5, .int v_4101), (4, .int v_3850), (0, .ref ob), (1, .ref o1), (2, .int a2)]) hx hb dX4_gatherDeadlines_151 hl (k := 2) rfl (ev_4144.symm) (by decide) rfl (fun ls hl => ?_)
          refine lv_goto (tgt := 7) hx hb dX4_gatherDeadlines_154 (by decide) ?_
          exact ih_3847 _ (ml_inc (hi := 10) hn_3847 qv_4144 (by decide) ((bw (0) (10) bv_4144 (by decide))).2) _ _ _ _ ⟨v_4144, v_4137, f_4138, f_4143, rfl, (bw (0) (10) bv_4144 (by decide)), bv_4137, bf_4138, (by omega), rfl, ⟨hP, hD⟩, hS, lv_sub hl [0, 3, 4, 5] rfl⟩
        · skip
          refine lv_icmp_ne (tgt := 124) hx hb dX4_gatherDeadlines_84 (by decide) (fun c_4145 => ?_) (fun c_4145 => ?_)
          · skip
            exact J_124_4139 _ _ _ _ ⟨v_3537, f_3538, f_3539, (bw (0) (10) h_4131 (by decide)), bf_3538, (by omega), rfl, ⟨hP, hD⟩, hS, lv_sub hl [1, 2, 3, 4, 5, 6] rfl⟩
          · skip
            have nc_4145 := nb_eq (0) (9) c_4145 h_4130 h_4131 (by decide)
            refine lv_aload_n hx hb dX4_gatherDeadlines_87 rfl (lv_at hl 4 rfl) ?_
            refine va_get (D := G) (ci := 4) (v := .ref ob_spot) (C := RX4) (T := TX4) (N := 17) hx hb hw0 inA_wsX40 hown hK.1 hP 0 rfl rfl 8 (by decide) (hw0 _ m_829) (fun _ h9 => h9) rfl dX4_gatherDeadlines_88 ?_
            refine lv_iload hx hb dX4_gatherDeadlines_91 (lv_at hl 1 rfl) ?_
            refine lv_aload_n hx hb dX4_gatherDeadlines_93 rfl (lv_at hl 5 rfl) ?_
            refine va_get (D := G) (ci := 6) (v := .ref o1_debts) (C := RX6) (T := TX6) (N := 8) hx hb hw0 inA_wsX60 hown hK.1 hP 3 rfl rfl 2 (by decide) (hw0 _ m_836) (fun _ h9 => h9) rfl dX4_gatherDeadlines_94 ?_
            refine va_get (D := G) (ci := 1) (v := .ref o1_debts_creditor) (C := RX1) (T := TX1) (N := 8) hx hb hw0 inA_wsX10 hown hK.1 hP 4 rfl rfl 2 (by decide) (hw0 _ m_889) (fun _ h9 => h9) rfl dX4_gatherDeadlines_97 ?_
            refine lv_iload hx hb dX4_gatherDeadlines_100 (lv_at hl 2 rfl) ?_
            refine va_iald hx hb hK.1 hP 6 1 rfl rfl (vi nc_3851.2.1 (by decide)) dX4_gatherDeadlines_102 ?_
            refine lv_topi (fun v_4146 ev_4146 => ?_)
            have bv_4146 : (0 : Int) ≤ v_4146.toInt ∧ v_4146.toInt ≤ 15 := rd_b ev_4146 p_fo1_debts_creditor
            refine va_iast hx hb hK.1 hP hD hS 1 1 rfl rfl (vi nc_4145.1 (by decide)) dX4_gatherDeadlines_103 (fun H locs hP hD hS => ?_)
            generalize hf_4147 : (upd f_3538 (v_4101 : Int32).toNatClampNeg v_4146) = f_4147 at hP hD
            have bf_4147 : ∀ i, (0 : Int) ≤ (f_4147 i).toInt ∧ (f_4147 i).toInt ≤ 15 := hf_4147 ▸ up_b bf_3538 bv_4146
            obtain ⟨hP, hD⟩ : vPD G A H [(ce_X4 ob ob_planned ob_bestWorth ob_bestOver ob_length ob_order ob_owner ob_weekday v_3537 ob_spot ob_deadline ob_opens ob_closes ob_stays ob_apart ob_minute ob_soonest ob_sums), (ce_i10 y ob_spot f_4147), (ce_i10 y ob_deadline f_3539), (ce_X6 o1 o1_town o1_code o1_debts o1_deeds o1_knows o1_day o1_paid o1_follows), (ce_X1 o1_debts o1_debts_size o1_debts_debtor o1_debts_creditor o1_debts_kind o1_debts_due o1_debts_came o1_debts_open o1_debts_kinds), (ce_i600 y o1_debts_debtor fo1_debts_debtor), (ce_i600 y o1_debts_creditor fo1_debts_creditor), (ce_i600 y o1_debts_due fo1_debts_due), (ce_i16 y o1_debts_open fo1_debts_open)] := ⟨hP, hD⟩
            refine lv_aload_n hx hb dX4_gatherDeadlines_104 rfl (lv_at hl 4 rfl) ?_
            refine va_get (D := G) (ci := 4) (v := .ref ob_deadline) (C := RX4) (T := TX4) (N := 17) hx hb hw0 inA_wsX40 hown hK.1 hP 0 rfl rfl 9 (by decide) (hw0 _ m_890) (fun _ h9 => h9) rfl dX4_gatherDeadlines_105 ?_
            refine lv_iload hx hb dX4_gatherDeadlines_108 (lv_at hl 1 rfl) ?_
            refine lv_sipush (v := 399) hx hb dX4_gatherDeadlines_110 (by decide) ?_
            refine va_iast hx hb hK.1 hP hD hS 2 1 rfl rfl (vi nc_4145.1 (by decide)) dX4_gatherDeadlines_113 (fun H locs hP hD hS => ?_)
            generalize hf_4148 : (upd f_3539 (v_4101 : Int32).toNatClampNeg 399) = f_4148 at hP hD
            obtain ⟨hP, hD⟩ : vPD G A H [(ce_X4 ob ob_planned ob_bestWorth ob_bestOver ob_length ob_order ob_owner ob_weekday v_3537 ob_spot ob_deadline ob_opens ob_closes ob_stays ob_apart ob_minute ob_soonest ob_sums), (ce_i10 y ob_spot f_4147), (ce_i10 y ob_deadline f_4148), (ce_X6 o1 o1_town o1_code o1_debts o1_deeds o1_knows o1_day o1_paid o1_follows), (ce_X1 o1_debts o1_debts_size o1_debts_debtor o1_debts_creditor o1_debts_kind o1_debts_due o1_debts_came o1_debts_open o1_debts_kinds), (ce_i600 y o1_debts_debtor fo1_debts_debtor), (ce_i600 y o1_debts_creditor fo1_debts_creditor), (ce_i600 y o1_debts_due fo1_debts_due), (ce_i16 y o1_debts_open fo1_debts_open)] := ⟨hP, hD⟩
            refine lv_aload_n hx hb dX4_gatherDeadlines_114 rfl (lv_at hl 4 rfl) ?_
            refine lv_dup hx hb dX4_gatherDeadlines_115 rfl ?_
            refine va_get (D := G) (ci := 4) (v := .int v_3537) (C := RX4) (T := TX4) (N := 17) hx hb hw0 inA_wsX40 hown hK.1 hP 0 rfl rfl 7 (by decide) (hw0 _ m_827) (fun _ h9 => h9) rfl dX4_gatherDeadlines_116 ?_
            refine lv_iconst (v := 1) hx hb dX4_gatherDeadlines_119 (by decide) ?_
            refine lv_iadd hx hb dX4_gatherDeadlines_120 ?_
            refine lv_topi (fun v_4149 ev_4149 => ?_)
            have qv_4149 := ba_add ev_4149 nc_4145.2.1 (bkc (x := 1) (c := 1) (by decide)) (by decide)
            have bv_4149 : (1 : Int) ≤ v_4149.toInt ∧ v_4149.toInt ≤ 10 := bq_add qv_4149 nc_4145.2.1 (bkc (x := 1) (c := 1) (by decide)) _ _ (by decide)
            have qv_4149 : v_4149.toInt = v_3537.toInt + (1) := qv_4149
            refine va_put (D := G) (ci := 4) (v := .int v_4149) (ty := .int) (C := RX4) (T := TX4) (N := 17) hx hb hw0 inA_wsX40 tyX4 tyX4_ok nmX4 hown hK.1 hP hD hS 0 rfl rfl 7 (by decide) (hw0 _ m_827) (fun _ h9 => h9) rfl fd_X4_7 rfl rfl (Nat.le_of_ble_eq_true rfl) dX4_gatherDeadlines_121 (fun H locs hP hD hS => ?_)
            obtain ⟨hP, hD⟩ : vPD G A H [(ce_X4 ob ob_planned ob_bestWorth ob_bestOver ob_length ob_order ob_owner ob_weekday v_4149 ob_spot ob_deadline ob_opens ob_closes ob_stays ob_apart ob_minute ob_soonest ob_sums), (ce_i10 y ob_spot f_4147), (ce_i10 y ob_deadline f_4148), (ce_X6 o1 o1_town o1_code o1_debts o1_deeds o1_knows o1_day o1_paid o1_follows), (ce_X1 o1_debts o1_debts_size o1_debts_debtor o1_debts_creditor o1_debts_kind o1_debts_due o1_debts_came o1_debts_open o1_debts_kinds), (ce_i600 y o1_debts_debtor fo1_debts_debtor), (ce_i600 y o1_debts_creditor fo1_debts_creditor), (ce_i600 y o1_debts_due fo1_debts_due), (ce_i16 y o1_debts_open fo1_debts_open)] := ⟨hP, hD⟩
            exact J_124_4139 _ _ _ _ ⟨v_4149, f_4147, f_4148, (bw (0) (10) bv_4149 (by decide)), bf_4147, (by omega), rfl, ⟨hP, hD⟩, hS, lv_sub hl [1, 2, 3, 4, 5, 6] rfl⟩
      · skip
        have nc_4129 := nb_nle (9) (1) c_4129 bv_4100 bv_3537 (by decide)
        refine lv_aload_n hx hb dX4_gatherDeadlines_48 rfl (lv_at hl 4 rfl) ?_
        refine va_get (D := G) (ci := 4) (v := .ref ob_spot) (C := RX4) (T := TX4) (N := 17) hx hb hw0 inA_wsX40 hown hK.1 hP 0 rfl rfl 8 (by decide) (hw0 _ m_829) (fun _ h9 => h9) rfl dX4_gatherDeadlines_49 ?_
        refine lv_iload hx hb dX4_gatherDeadlines_52 (lv_at hl 0 rfl) ?_
        refine va_iald hx hb hK.1 hP 1 1 rfl rfl (vi nc_4129.1 (by decide)) dX4_gatherDeadlines_54 ?_
        refine lv_topi (fun v_4150 ev_4150 => ?_)
        have bv_4150 : (0 : Int) ≤ v_4150.toInt ∧ v_4150.toInt ≤ 15 := rd_b ev_4150 bf_3538
        refine lv_aload_n hx hb dX4_gatherDeadlines_55 rfl (lv_at hl 5 rfl) ?_
        refine va_get (D := G) (ci := 6) (v := .ref o1_debts) (C := RX6) (T := TX6) (N := 8) hx hb hw0 inA_wsX60 hown hK.1 hP 3 rfl rfl 2 (by decide) (hw0 _ m_836) (fun _ h9 => h9) rfl dX4_gatherDeadlines_56 ?_
        refine va_get (D := G) (ci := 1) (v := .ref o1_debts_creditor) (C := RX1) (T := TX1) (N := 8) hx hb hw0 inA_wsX10 hown hK.1 hP 4 rfl rfl 2 (by decide) (hw0 _ m_889) (fun _ h9 => h9) rfl dX4_gatherDeadlines_59 ?_
        refine lv_iload hx hb dX4_gatherDeadlines_62 (lv_at hl 2 rfl) ?_
        refine va_iald hx hb hK.1 hP 6 1 rfl rfl (vi nc_3851.2.1 (by decide)) dX4_gatherDeadlines_64 ?_
        refine lv_topi (fun v_4151 ev_4151 => ?_)
        have bv_4151 : (0 : Int) ≤ v_4151.toInt ∧ v_4151.toInt ≤ 15 := rd_b ev_4151 p_fo1_debts_creditor
        refine cutW 72 (fun H locs ls st => ∃ (v_4153 : Int32), ((0 : Int) ≤ v_4153.toInt ∧ v_4153.toInt ≤ 10) ∧ (v_3537.toInt ≤ v_3536.toInt) ∧ (v_4153.toInt ≤ v_3537.toInt) ∧ st = [] ∧ vPD G A H [(ce_X4 ob ob_planned ob_bestWorth ob_bestOver ob_length ob_order ob_owner ob_weekday v_3537 ob_spot ob_deadline ob_opens ob_closes ob_stays ob_apart ob_minute ob_soonest ob_sums), (ce_i10 y ob_spot f_3538), (ce_i10 y ob_deadline f_3539), (ce_X6 o1 o1_town o1_code o1_debts o1_deeds o1_knows o1_day o1_paid o1_follows), (ce_X1 o1_debts o1_debts_size o1_debts_debtor o1_debts_creditor o1_debts_kind o1_debts_due o1_debts_came o1_debts_open o1_debts_kinds), (ce_i600 y o1_debts_debtor fo1_debts_debtor), (ce_i600 y o1_debts_creditor fo1_debts_creditor), (ce_i600 y o1_debts_due fo1_debts_due), (ce_i16 y o1_debts_open fo1_debts_open)] ∧ va_S A s.heap H locs ∧ lv_has ls 7 [(6, .int v_4100), (5, .int v_4153), (4, .int v_3850), (3, .int v_3536), (0, .ref ob), (1, .ref o1), (2, .int a2)]) ?_ (fun J_72_4153 => ?_)
        · rintro H locs ls st ⟨v_4153, bv_4153, rl4153_0, rl4153_1, rfl, ⟨hP, hD⟩, hS, hl⟩
          obtain ⟨v_4154, ev_4154⟩ : ∃ z : Int32, z = v_4100 + 1 := ⟨_, rfl⟩
          have qv_4154 := ba_add ev_4154 nc_4129.1 (bkc (x := 1) (c := 1) (by decide)) (by decide)
          have bv_4154 : (1 : Int) ≤ v_4154.toInt ∧ v_4154.toInt ≤ 10 := bq_add qv_4154 nc_4129.1 (bkc (x := 1) (c := 1) (by decide)) _ _ (by decide)
          have qv_4154 : v_4154.toInt = v_4100.toInt + (1) := qv_4154
          refine lv_iinc (v := v_4154) (lv' := [(6, .int v_4154), (5, .int v_4153), (4, .int v_3850), (3, .int v_3536), (0, .ref ob), (1, .ref o1), (2, .int a2)]) hx hb dX4_gatherDeadlines_72 hl (k := 0) rfl (ev_4154.symm) (by decide) rfl (fun ls hl => ?_)
          refine lv_goto (tgt := 39) hx hb dX4_gatherDeadlines_75 (by decide) ?_
          exact ih_4128 _ (ml_inc (hi := 10) hn_4128 qv_4154 (by decide) ((bw (0) (10) bv_4154 (by decide))).2) _ _ _ _ ⟨v_4154, v_4153, rfl, (bw (0) (10) bv_4154 (by decide)), bv_4153, (by omega), (by omega), rfl, ⟨hP, hD⟩, hS, lv_sub hl [0, 1, 2, 3, 4, 5, 6] rfl⟩
        · skip
          refine lv_icmp_ne (tgt := 72) hx hb dX4_gatherDeadlines_65 (by decide) (fun c_4155 => ?_) (fun c_4155 => ?_)
          · skip
            exact J_72_4153 _ _ _ _ ⟨v_4101, bv_4101, (by omega), (by omega), rfl, ⟨hP, hD⟩, hS, lv_sub hl [0, 1, 2, 3, 4, 5, 6] rfl⟩
          · skip
            have nc_4155 := nb_eq (0) (15) c_4155 bv_4150 bv_4151 (by decide)
            refine lv_iload hx hb dX4_gatherDeadlines_68 (lv_at hl 0 rfl) ?_
            refine lv_istore (lv' := [(5, .int v_4100), (6, .int v_4100), (4, .int v_3850), (3, .int v_3536), (0, .ref ob), (1, .ref o1), (2, .int a2)]) hx hb dX4_gatherDeadlines_70 hl (by decide) rfl (fun ls hl => ?_)
            exact J_72_4153 _ _ _ _ ⟨v_4100, (bw (0) (10) nc_4129.1 (by decide)), (by omega), (by omega), rfl, ⟨hP, hD⟩, hS, lv_sub hl [1, 0, 2, 3, 4, 5, 6] rfl⟩
    · skip
      have nc_3851 := nb_nle (-1) (0) c_3851 bv_3850 (bkc (x := 0) (c := 0) (by decide)) (by decide)
      exact W.vret hx hb hr (fun t ht hW => ⟨⟨_, rfl, ⟨v_3537, f_3538, f_3539, bv_3537, bf_3538, rfl⟩, by rw [ht]; exact hP, hD⟩, hS.F ht⟩) hS.2.2 dX4_gatherDeadlines_29

set_option maxHeartbeats 4000000 in
set_option maxRecDepth 100000 in
theorem sX4_inTime (l : Launch) (G : va_G) (y : Nat → ClassId) (sz : Nat) (ob : Nat) (a1 : Int32) (ob_planned : Int32) (ob_bestWorth : Int32) (ob_bestOver : Int32) (ob_length : Int32) (ob_order : Nat) (ob_owner : Int32) (ob_weekday : Int32) (ob_spots : Int32) (ob_spot : Nat) (ob_deadline : Nat) (ob_opens : Nat) (ob_closes : Nat) (ob_stays : Nat) (ob_apart : Nat) (ob_minute : Nat) (ob_soonest : Nat) (ob_sums : Nat) (fob_deadline : Nat → Int32) (p_ob_planned : (0 : Int) ≤ ob_planned.toInt ∧ ob_planned.toInt ≤ 1) (p_ob_length : (0 : Int) ≤ ob_length.toInt ∧ ob_length.toInt ≤ 10) (p_ob_spots : (0 : Int) ≤ ob_spots.toInt ∧ ob_spots.toInt ≤ 10) : Met l yX4_inTime (Cond.code yX4_inTime cX4_inTime 4 (some .int) :: wAll) ({ frames := 0, cells := 0, slots := 0, locals := 0 }) (va_Pc [.ref ob, .int a1] (kp G y sz [(ce_X4 ob ob_planned ob_bestWorth ob_bestOver ob_length ob_order ob_owner ob_weekday ob_spots ob_spot ob_deadline ob_opens ob_closes ob_stays ob_apart ob_minute ob_soonest ob_sums), (ce_i10 y ob_deadline fob_deadline)])) (va_Qi (fun (r : Int32) (w : va_W) => (∃ (v_255 : Int32), ((0 : Int) ≤ v_255.toInt ∧ v_255.toInt ≤ 2147483647) ∧ r = v_255 ∧ w = [(ce_X4 ob ob_planned ob_bestWorth ob_bestOver ob_length ob_order ob_owner ob_weekday ob_spots ob_spot ob_deadline ob_opens ob_closes ob_stays ob_apart ob_minute ob_soonest ob_sums), (ce_i10 y ob_deadline fob_deadline)])) (kq G (va_A [(ce_X4 ob ob_planned ob_bestWorth ob_bestOver ob_length ob_order ob_owner ob_weekday ob_spots ob_spot ob_deadline ob_opens ob_closes ob_stays ob_apart ob_minute ob_soonest ob_sums), (ce_i10 y ob_deadline fob_deadline)] sz)) (va_A [(ce_X4 ob ob_planned ob_bestWorth ob_bestOver ob_length ob_order ob_owner ob_weekday ob_spots ob_spot ob_deadline ob_opens ob_closes ob_stays ob_apart ob_minute ob_soonest ob_sums), (ce_i10 y ob_deadline fob_deadline)] sz)) 0 0 (va_A [(ce_X4 ob ob_planned ob_bestWorth ob_bestOver ob_length ob_order ob_owner ob_weekday ob_spots ob_spot ob_deadline ob_opens ob_closes ob_stays ob_apart ob_minute ob_soonest ob_sums), (ce_i10 y ob_deadline fob_deadline)] sz) := by
  refine Met.ofW (cc := cX4_inTime) (maxL := 4) (ret := (some .int)) (by decide) rfl ?_
  intro p e s m args below meth c s₁ B hml hv
  obtain ⟨rfl, hsz, hP, hK, hD0⟩ := hv
  have hx := B.exec
  have hb := B.bytes
  have hr := B.returns
  have hw0 : ∀ w ∈ wAll, w.before _ s = true := fun w h => atoms_spec (ws := Cond.code yX4_inTime cX4_inTime 4 (some .int) :: wAll) B.pre w (List.mem_cons_of_mem _ h)
  have hown : s.vm.findClass RX4 = some m.cls := findClass_of_methodNamed B.named
  subst hsz
  have hD := hD0.self (sz := s.heap.size)
  generalize hAe : va_A [(ce_X4 ob ob_planned ob_bestWorth ob_bestOver ob_length ob_order ob_owner ob_weekday ob_spots ob_spot ob_deadline ob_opens ob_closes ob_stays ob_apart ob_minute ob_soonest ob_sums), (ce_i10 y ob_deadline fob_deadline)] s.heap.size = A at hD ⊢
  have hA : ∀ q : Nat, s.heap.size ≤ q → A q := fun q h => by rw [← hAe]; exact Or.inr h
  have hS : va_S A s.heap s.heap [] := va_S.rf
  have hP : va_P G vwCl [(ce_X4 ob ob_planned ob_bestWorth ob_bestOver ob_length ob_order ob_owner ob_weekday ob_spots ob_spot ob_deadline ob_opens ob_closes ob_stays ob_apart ob_minute ob_soonest ob_sums), (ce_i10 y ob_deadline fob_deadline)] s.heap := hP
  have hl := lv_entry ([.ref ob, .int a1]) (n := 4) (Nat.le_of_ble_eq_true rfl)
  rw [lg_entry_eq]
  generalize (lg_sl ([.ref ob, .int a1]) ++ List.replicate (4 - (lg_sl ([.ref ob, .int a1])).length) Slot.unset).toArray = ls at hl ⊢
  have hl : lv_has ls 4 [(0, .ref ob), (1, .int a1)] := hl
  refine lv_iconst (v := 0) hx hb dX4_inTime_0 (by decide) ?_
  refine lv_istore_n (lv' := [(2, .int 0), (0, .ref ob), (1, .int a1)]) hx hb dX4_inTime_1 rfl hl (by decide) rfl (fun ls hl => ?_)
  refine lv_iconst (v := 0) hx hb dX4_inTime_2 (by decide) ?_
  refine lv_istore_n (lv' := [(3, .int 0), (2, .int 0), (0, .ref ob), (1, .int a1)]) hx hb dX4_inTime_3 rfl hl (by decide) rfl (fun ls hl => ?_)
  refine loopX (fun n H locs ls st => ∃ (v_1106 : Int32) (v_1107 : Int32), (10 - v_1106.toInt).toNat = n ∧ ((0 : Int) ≤ v_1106.toInt ∧ v_1106.toInt ≤ 10) ∧ ((0 : Int) ≤ v_1107.toInt ∧ v_1107.toInt ≤ 2147483647) ∧ st = [] ∧ vPD G A H [(ce_X4 ob ob_planned ob_bestWorth ob_bestOver ob_length ob_order ob_owner ob_weekday ob_spots ob_spot ob_deadline ob_opens ob_closes ob_stays ob_apart ob_minute ob_soonest ob_sums), (ce_i10 y ob_deadline fob_deadline)] ∧ va_S A s.heap H locs ∧ lv_has ls 4 [(3, .int v_1106), (2, .int v_1107), (0, .ref ob), (1, .int a1)]) ?_ (n := (10 - (0 : Int32).toInt).toNat) ⟨0, 0, rfl, (bw (0) (10) (bkc (x := 0) (c := 0) (by decide)) (by decide)), (bw (0) (2147483647) (bkc (x := 0) (c := 0) (by decide)) (by decide)), rfl, ⟨hP, hD⟩, hS, lv_sub hl [0, 1, 2, 3] rfl⟩
  rintro n ih_1117 H locs ls st ⟨v_1106, v_1107, hn_1117, bv_1106, bv_1107, rfl, ⟨hP, hD⟩, hS, hl⟩
  refine lv_iload_n hx hb dX4_inTime_4 rfl (lv_at hl 0 rfl) ?_
  refine lv_aload_n hx hb dX4_inTime_5 rfl (lv_at hl 2 rfl) ?_
  refine va_get (D := G) (ci := 4) (v := .int ob_spots) (C := RX4) (T := TX4) (N := 17) hx hb hw0 inA_wsX40 hown hK.1 hP 0 rfl rfl 7 (by decide) (hw0 _ m_827) (fun _ h9 => h9) rfl dX4_inTime_6 ?_
  refine lv_icmp_ge (tgt := 34) hx hb dX4_inTime_9 (by decide) (fun c_1118 => ?_) (fun c_1118 => ?_)
  · skip
    have nc_1118 := nb_le (10) (0) c_1118 p_ob_spots bv_1106 (by decide)
    refine lv_iload_n hx hb dX4_inTime_34 rfl (lv_at hl 1 rfl) ?_
    exact W.iret (v := v_1107) hx hb hr (fun t ht hW => ⟨⟨v_1107, _, rfl, ⟨v_1107, bv_1107, rfl, rfl⟩, by rw [ht]; exact hP, hD⟩, hS.F ht⟩) hS.2.2 dX4_inTime_35
  · skip
    have nc_1118 := nb_nle (9) (1) c_1118 bv_1106 p_ob_spots (by decide)
    refine lv_iload_n hx hb dX4_inTime_12 rfl (lv_at hl 3 rfl) ?_
    refine lv_aload_n hx hb dX4_inTime_13 rfl (lv_at hl 2 rfl) ?_
    refine va_get (D := G) (ci := 4) (v := .ref ob_deadline) (C := RX4) (T := TX4) (N := 17) hx hb hw0 inA_wsX40 hown hK.1 hP 0 rfl rfl 9 (by decide) (hw0 _ m_890) (fun _ h9 => h9) rfl dX4_inTime_14 ?_
    refine lv_iload_n hx hb dX4_inTime_17 rfl (lv_at hl 0 rfl) ?_
    refine va_iald hx hb hK.1 hP 1 1 rfl rfl (vi nc_1118.1 (by decide)) dX4_inTime_18 ?_
    refine lv_topi (fun v_1119 ev_1119 => ?_)
    refine cutW 28 (fun H locs ls st => ∃ (v_1123 : Int32), ((0 : Int) ≤ v_1123.toInt ∧ v_1123.toInt ≤ 2147483647) ∧ st = [] ∧ vPD G A H [(ce_X4 ob ob_planned ob_bestWorth ob_bestOver ob_length ob_order ob_owner ob_weekday ob_spots ob_spot ob_deadline ob_opens ob_closes ob_stays ob_apart ob_minute ob_soonest ob_sums), (ce_i10 y ob_deadline fob_deadline)] ∧ va_S A s.heap H locs ∧ lv_has ls 4 [(3, .int v_1106), (2, .int v_1123), (0, .ref ob), (1, .int a1)]) ?_ (fun J_28_1123 => ?_)
    · rintro H locs ls st ⟨v_1123, bv_1123, rfl, ⟨hP, hD⟩, hS, hl⟩
      obtain ⟨v_1124, ev_1124⟩ : ∃ z : Int32, z = v_1106 + 1 := ⟨_, rfl⟩
      have qv_1124 := ba_add ev_1124 nc_1118.1 (bkc (x := 1) (c := 1) (by decide)) (by decide)
      have bv_1124 : (1 : Int) ≤ v_1124.toInt ∧ v_1124.toInt ≤ 10 := bq_add qv_1124 nc_1118.1 (bkc (x := 1) (c := 1) (by decide)) _ _ (by decide)
      have qv_1124 : v_1124.toInt = v_1106.toInt + (1) := qv_1124
      refine lv_iinc (v := v_1124) (lv' := [(3, .int v_1124), (2, .int v_1123), (0, .ref ob), (1, .int a1)]) hx hb dX4_inTime_28 hl (k := 0) rfl (ev_1124.symm) (by decide) rfl (fun ls hl => ?_)
      refine lv_goto (tgt := 4) hx hb dX4_inTime_31 (by decide) ?_
      exact ih_1117 _ (ml_inc (hi := 10) hn_1117 qv_1124 (by decide) ((bw (0) (10) bv_1124 (by decide))).2) _ _ _ _ ⟨v_1124, v_1123, rfl, (bw (0) (10) bv_1124 (by decide)), bv_1123, rfl, ⟨hP, hD⟩, hS, lv_sub hl [0, 1, 2, 3] rfl⟩
    · skip
      refine lv_icmp_gt (tgt := 28) hx hb dX4_inTime_19 (by decide) (fun c_1125 => ?_) (fun c_1125 => ?_)
      · skip
        have nc_1125 := nb_lt (2147483646) (-2147483647) c_1125 (btop v_1119) (btop a1) (by decide)
        exact J_28_1123 _ _ _ _ ⟨v_1107, bv_1107, rfl, ⟨hP, hD⟩, hS, lv_sub hl [0, 1, 2, 3] rfl⟩
      · skip
        have nc_1125 := nb_nlt (2147483647) (-2147483648) c_1125 (btop a1) (btop v_1119) (by decide)
        refine lv_iload_n hx hb dX4_inTime_22 rfl (lv_at hl 1 rfl) ?_
        refine lv_iconst (v := 1) hx hb dX4_inTime_23 (by decide) ?_
        refine lv_iload_n hx hb dX4_inTime_24 rfl (lv_at hl 0 rfl) ?_
        refine lv_ishl hx hb dX4_inTime_25 ?_
        refine lv_topi (fun v_1126 ev_1126 => ?_)
        have bv_1126 : (1 : Int) ≤ v_1126.toInt ∧ v_1126.toInt ≤ 512 := ba_shl 0 9 ev_1126 nc_1118.1 (by decide)
        refine lv_ior hx hb dX4_inTime_26 ?_
        refine lv_topi (fun v_1127 ev_1127 => ?_)
        have bv_1127 : (0 : Int) ≤ v_1127.toInt ∧ v_1127.toInt ≤ 2147483647 := ba_or 31 ev_1127 bv_1107 bv_1126 (by decide)
        refine lv_istore_n (lv' := [(2, .int v_1127), (3, .int v_1106), (0, .ref ob), (1, .int a1)]) hx hb dX4_inTime_27 rfl hl (by decide) rfl (fun ls hl => ?_)
        exact J_28_1123 _ _ _ _ ⟨v_1127, bv_1127, rfl, ⟨hP, hD⟩, hS, lv_sub hl [1, 0, 2, 3] rfl⟩

set_option maxHeartbeats 4000000 in
set_option maxRecDepth 100000 in
theorem sX4_addDay (l : Launch) (G : va_G) (y : Nat → ClassId) (sz : Nat) (ob : Nat) (a1 : Int32) (a2 : Int32) (ob_planned : Int32) (ob_bestWorth : Int32) (ob_bestOver : Int32) (ob_length : Int32) (ob_order : Nat) (ob_owner : Int32) (ob_weekday : Int32) (ob_spots : Int32) (ob_spot : Nat) (ob_deadline : Nat) (ob_opens : Nat) (ob_closes : Nat) (ob_stays : Nat) (ob_apart : Nat) (ob_minute : Nat) (ob_soonest : Nat) (ob_sums : Nat) (fob_soonest : Nat → Int32) (fob_sums : Nat → Int32) (p_ob_planned : (0 : Int) ≤ ob_planned.toInt ∧ ob_planned.toInt ≤ 1) (p_ob_length : (0 : Int) ≤ ob_length.toInt ∧ ob_length.toInt ≤ 10) (p_ob_spots : (0 : Int) ≤ ob_spots.toInt ∧ ob_spots.toInt ≤ 10) (p_a1 : (0 : Int) ≤ a1.toInt ∧ a1.toInt ≤ 1023) : Met l yX4_addDay (Cond.code yX4_addDay cX4_addDay 6 none :: wAll) ({ frames := 1, cells := 0, slots := 0, locals := 21 }) (va_Pc [.ref ob, .int a1, .int a2] (kp G y sz [(ce_X4 ob ob_planned ob_bestWorth ob_bestOver ob_length ob_order ob_owner ob_weekday ob_spots ob_spot ob_deadline ob_opens ob_closes ob_stays ob_apart ob_minute ob_soonest ob_sums), (ce_i1024 y ob_soonest fob_soonest), (ce_i1024 y ob_sums fob_sums)])) (va_Qv (fun (w : va_W) => (∃ (f_2433 : Nat → Int32), w = [(ce_X4 ob ob_planned ob_bestWorth ob_bestOver ob_length ob_order ob_owner ob_weekday ob_spots ob_spot ob_deadline ob_opens ob_closes ob_stays ob_apart ob_minute ob_soonest ob_sums), (ce_i1024 y ob_soonest fob_soonest), (ce_i1024 y ob_sums f_2433)])) (kq G (va_A [(ce_X4 ob ob_planned ob_bestWorth ob_bestOver ob_length ob_order ob_owner ob_weekday ob_spots ob_spot ob_deadline ob_opens ob_closes ob_stays ob_apart ob_minute ob_soonest ob_sums), (ce_i1024 y ob_soonest fob_soonest), (ce_i1024 y ob_sums fob_sums)] sz)) (va_A [(ce_X4 ob ob_planned ob_bestWorth ob_bestOver ob_length ob_order ob_owner ob_weekday ob_spots ob_spot ob_deadline ob_opens ob_closes ob_stays ob_apart ob_minute ob_soonest ob_sums), (ce_i1024 y ob_soonest fob_soonest), (ce_i1024 y ob_sums fob_sums)] sz)) 0 0 (va_A [(ce_X4 ob ob_planned ob_bestWorth ob_bestOver ob_length ob_order ob_owner ob_weekday ob_spots ob_spot ob_deadline ob_opens ob_closes ob_stays ob_apart ob_minute ob_soonest ob_sums), (ce_i1024 y ob_soonest fob_soonest), (ce_i1024 y ob_sums fob_sums)] sz) := by
  refine Met.ofW (cc := cX4_addDay) (maxL := 6) (ret := none) (by decide) rfl ?_
  intro p e s m args below meth c s₁ B hml hv
  obtain ⟨rfl, hsz, hP, hK, hD0⟩ := hv
  have hx := B.exec
  have hb := B.bytes
  have hr := B.returns
  have hw0 : ∀ w ∈ wAll, w.before _ s = true := fun w h => atoms_spec (ws := Cond.code yX4_addDay cX4_addDay 6 none :: wAll) B.pre w (List.mem_cons_of_mem _ h)
  have hown : s.vm.findClass RX4 = some m.cls := findClass_of_methodNamed B.named
  subst hsz
  have hD := hD0.self (sz := s.heap.size)
  generalize hAe : va_A [(ce_X4 ob ob_planned ob_bestWorth ob_bestOver ob_length ob_order ob_owner ob_weekday ob_spots ob_spot ob_deadline ob_opens ob_closes ob_stays ob_apart ob_minute ob_soonest ob_sums), (ce_i1024 y ob_soonest fob_soonest), (ce_i1024 y ob_sums fob_sums)] s.heap.size = A at hD ⊢
  have hA : ∀ q : Nat, s.heap.size ≤ q → A q := fun q h => by rw [← hAe]; exact Or.inr h
  have hS : va_S A s.heap s.heap [] := va_S.rf
  have hP : va_P G vwCl [(ce_X4 ob ob_planned ob_bestWorth ob_bestOver ob_length ob_order ob_owner ob_weekday ob_spots ob_spot ob_deadline ob_opens ob_closes ob_stays ob_apart ob_minute ob_soonest ob_sums), (ce_i1024 y ob_soonest fob_soonest), (ce_i1024 y ob_sums fob_sums)] s.heap := hP
  have hl := lv_entry ([.ref ob, .int a1, .int a2]) (n := 6) (Nat.le_of_ble_eq_true rfl)
  rw [lg_entry_eq]
  generalize (lg_sl ([.ref ob, .int a1, .int a2]) ++ List.replicate (6 - (lg_sl ([.ref ob, .int a1, .int a2])).length) Slot.unset).toArray = ls at hl ⊢
  have hl : lv_has ls 6 [(0, .ref ob), (1, .int a1), (2, .int a2)] := hl
  refine lv_iload_n hx hb dX4_addDay_0 rfl (lv_at hl 1 rfl) ?_
  refine lv_istore_n (lv' := [(3, .int a1), (0, .ref ob), (1, .int a1), (2, .int a2)]) hx hb dX4_addDay_1 rfl hl (by decide) rfl (fun ls hl => ?_)
  refine loopX (fun n H locs ls st => ∃ (v_1731 : Int32) (f_1732 : Nat → Int32), (v_1731.toInt - (0)).toNat = n ∧ ((0 : Int) ≤ v_1731.toInt ∧ v_1731.toInt ≤ 1023) ∧ st = [] ∧ vPD G A H [(ce_X4 ob ob_planned ob_bestWorth ob_bestOver ob_length ob_order ob_owner ob_weekday ob_spots ob_spot ob_deadline ob_opens ob_closes ob_stays ob_apart ob_minute ob_soonest ob_sums), (ce_i1024 y ob_soonest fob_soonest), (ce_i1024 y ob_sums f_1732)] ∧ va_S A s.heap H locs ∧ lv_has ls 6 [(3, .int v_1731), (0, .ref ob), (2, .int a2)]) ?_ (n := (a1.toInt - (0)).toNat) ⟨a1, fob_sums, rfl, p_a1, rfl, ⟨hP, hD⟩, hS, lv_sub hl [0, 1, 3] rfl⟩
  rintro n ih_1974 H locs ls st ⟨v_1731, f_1732, hn_1974, bv_1731, rfl, ⟨hP, hD⟩, hS, hl⟩
  refine lv_iload_n hx hb dX4_addDay_2 rfl (lv_at hl 0 rfl) ?_
  refine lv_if_le (tgt := 124) hx hb dX4_addDay_3 (by decide) (fun c_1975 => ?_) (fun c_1975 => ?_)
  · skip
    have nc_1975 := nb_le (0) (0) c_1975 bv_1731 (bkc (x := 0) (c := 0) (by decide)) (by decide)
    exact W.vret hx hb hr (fun t ht hW => ⟨⟨_, rfl, ⟨f_1732, rfl⟩, by rw [ht]; exact hP, hD⟩, hS.F ht⟩) hS.2.2 dX4_addDay_124
  · skip
    have nc_1975 := nb_nle (0) (1) c_1975 (bkc (x := 0) (c := 0) (by decide)) bv_1731 (by decide)
    refine lv_iload_n hx hb dX4_addDay_6 rfl (lv_at hl 0 rfl) ?_
    refine lv_iload_n hx hb dX4_addDay_7 rfl (lv_at hl 2 rfl) ?_
    refine lv_iand hx hb dX4_addDay_8 ?_
    refine lv_topi (fun v_1976 ev_1976 => ?_)
    have bv_1976 : (0 : Int) ≤ v_1976.toInt ∧ v_1976.toInt ≤ 1023 := ba_andl ev_1976 nc_1975.2.1 (by decide)
    refine lv_istore (lv' := [(4, .int v_1976), (3, .int v_1731), (0, .ref ob), (2, .int a2)]) hx hb dX4_addDay_9 hl (by decide) rfl (fun ls hl => ?_)
    refine lv_iload hx hb dX4_addDay_11 (lv_at hl 0 rfl) ?_
    refine cutW 118 (fun H locs ls st => ∃ (f_2096 : Nat → Int32), st = [] ∧ vPD G A H [(ce_X4 ob ob_planned ob_bestWorth ob_bestOver ob_length ob_order ob_owner ob_weekday ob_spots ob_spot ob_deadline ob_opens ob_closes ob_stays ob_apart ob_minute ob_soonest ob_sums), (ce_i1024 y ob_soonest fob_soonest), (ce_i1024 y ob_sums f_2096)] ∧ va_S A s.heap H locs ∧ lv_has ls 6 [(3, .int v_1731), (0, .ref ob), (2, .int a2)]) ?_ (fun J_118_2096 => ?_)
    · rintro H locs ls st ⟨f_2096, rfl, ⟨hP, hD⟩, hS, hl⟩
      obtain ⟨v_2097, ev_2097⟩ : ∃ z : Int32, z = v_1731 + (-1) := ⟨_, rfl⟩
      have qv_2097 := ba_add ev_2097 nc_1975.2.1 (bkc (x := (-1)) (c := -1) (by decide)) (by decide)
      have bv_2097 : (0 : Int) ≤ v_2097.toInt ∧ v_2097.toInt ≤ 1022 := bq_add qv_2097 nc_1975.2.1 (bkc (x := (-1)) (c := -1) (by decide)) _ _ (by decide)
      have qv_2097 : v_2097.toInt = v_1731.toInt + (-1) := qv_2097
      refine lv_iinc (v := v_2097) (lv' := [(3, .int v_2097), (0, .ref ob), (2, .int a2)]) hx hb dX4_addDay_118 hl (k := 0) rfl (ev_2097.symm) (by decide) rfl (fun ls hl => ?_)
      refine lv_goto (tgt := 2) hx hb dX4_addDay_121 (by decide) ?_
      exact ih_1974 _ (ml_dec (lo := 0) hn_1974 qv_2097 (by decide) ((bw (0) (1023) bv_2097 (by decide))).1) _ _ _ _ ⟨v_2097, f_2096, rfl, (bw (0) (1023) bv_2097 (by decide)), rfl, ⟨hP, hD⟩, hS, lv_sub hl [0, 1, 2] rfl⟩
    · skip
      refine cutW 58 (fun H locs ls st => st = [] ∧ vPD G A H [(ce_X4 ob ob_planned ob_bestWorth ob_bestOver ob_length ob_order ob_owner ob_weekday ob_spots ob_spot ob_deadline ob_opens ob_closes ob_stays ob_apart ob_minute ob_soonest ob_sums), (ce_i1024 y ob_soonest fob_soonest), (ce_i1024 y ob_sums f_1732)] ∧ va_S A s.heap H locs ∧ lv_has ls 6 [(4, .int v_1976), (3, .int v_1731), (0, .ref ob), (2, .int a2)]) ?_ (fun J_58_2106 => ?_)
      · rintro H locs ls st ⟨rfl, ⟨hP, hD⟩, hS, hl⟩
        refine lv_iload hx hb dX4_addDay_58 (lv_at hl 0 rfl) ?_
        refine lv_istore (lv' := [(5, .int v_1976), (4, .int v_1976), (3, .int v_1731), (0, .ref ob), (2, .int a2)]) hx hb dX4_addDay_60 hl (by decide) rfl (fun ls hl => ?_)
        refine loopX (fun n H locs ls st => ∃ (v_2168 : Int32) (f_2169 : Nat → Int32), (v_2168.toInt).toNat = n ∧ ((0 : Int) ≤ v_2168.toInt ∧ v_2168.toInt ≤ 1023) ∧ st = [] ∧ vPD G A H [(ce_X4 ob ob_planned ob_bestWorth ob_bestOver ob_length ob_order ob_owner ob_weekday ob_spots ob_spot ob_deadline ob_opens ob_closes ob_stays ob_apart ob_minute ob_soonest ob_sums), (ce_i1024 y ob_soonest fob_soonest), (ce_i1024 y ob_sums f_2169)] ∧ va_S A s.heap H locs ∧ lv_has ls 6 [(5, .int v_2168), (4, .int v_1976), (3, .int v_1731), (0, .ref ob), (2, .int a2)]) ?_ (n := (v_1976.toInt).toNat) ⟨v_1976, f_1732, rfl, bv_1976, rfl, ⟨hP, hD⟩, hS, lv_sub hl [0, 1, 2, 3, 4] rfl⟩
        rintro n ih_2188 H locs ls st ⟨v_2168, f_2169, hn_2188, bv_2168, rfl, ⟨hP, hD⟩, hS, hl⟩
        refine lv_iload hx hb dX4_addDay_62 (lv_at hl 0 rfl) ?_
        refine lv_if_le (tgt := 118) hx hb dX4_addDay_64 (by decide) (fun c_2189 => ?_) (fun c_2189 => ?_)
        · skip
          have nc_2189 := nb_le (0) (0) c_2189 bv_2168 (bkc (x := 0) (c := 0) (by decide)) (by decide)
          exact J_118_2096 _ _ _ _ ⟨f_2169, rfl, ⟨hP, hD⟩, hS, lv_sub hl [2, 3, 4] rfl⟩
        · skip
          have nc_2189 := nb_nle (0) (1) c_2189 (bkc (x := 0) (c := 0) (by decide)) bv_2168 (by decide)
          refine lv_aload_n hx hb dX4_addDay_67 rfl (lv_at hl 3 rfl) ?_
          refine va_get (D := G) (ci := 4) (v := .ref ob_soonest) (C := RX4) (T := TX4) (N := 17) hx hb hw0 inA_wsX40 hown hK.1 hP 0 rfl rfl 15 (by decide) (hw0 _ m_822) (fun _ h9 => h9) rfl dX4_addDay_68 ?_
          refine lv_iload hx hb dX4_addDay_71 (lv_at hl 0 rfl) ?_
          refine va_iald hx hb hK.1 hP 1 1 rfl rfl (vi nc_2189.2.1 (by decide)) dX4_addDay_73 ?_
          refine lv_topi (fun v_2190 ev_2190 => ?_)
          refine lv_sipush (v := 1000) hx hb dX4_addDay_74 (by decide) ?_
          refine cutW 106 (fun H locs ls st => ∃ (f_2198 : Nat → Int32), st = [] ∧ vPD G A H [(ce_X4 ob ob_planned ob_bestWorth ob_bestOver ob_length ob_order ob_owner ob_weekday ob_spots ob_spot ob_deadline ob_opens ob_closes ob_stays ob_apart ob_minute ob_soonest ob_sums), (ce_i1024 y ob_soonest fob_soonest), (ce_i1024 y ob_sums f_2198)] ∧ va_S A s.heap H locs ∧ lv_has ls 6 [(5, .int v_2168), (4, .int v_1976), (3, .int v_1731), (0, .ref ob), (2, .int a2)]) ?_ (fun J_106_2198 => ?_)
          · rintro H locs ls st ⟨f_2198, rfl, ⟨hP, hD⟩, hS, hl⟩
            refine lv_iload hx hb dX4_addDay_106 (lv_at hl 0 rfl) ?_
            refine lv_iconst (v := 1) hx hb dX4_addDay_108 (by decide) ?_
            refine lv_isub hx hb dX4_addDay_109 ?_
            refine lv_topi (fun v_2199 ev_2199 => ?_)
            have qv_2199 := ba_sub ev_2199 nc_2189.2.1 (bkc (x := 1) (c := 1) (by decide)) (by decide)
            have bv_2199 : (0 : Int) ≤ v_2199.toInt ∧ v_2199.toInt ≤ 1022 := bq_sub qv_2199 nc_2189.2.1 (bkc (x := 1) (c := 1) (by decide)) _ _ (by decide)
            have qv_2199 : v_2199.toInt = v_2168.toInt - (1) := qv_2199
            refine lv_iload hx hb dX4_addDay_110 (lv_at hl 1 rfl) ?_
            refine lv_iand hx hb dX4_addDay_112 ?_
            refine lv_topi (fun v_2200 ev_2200 => ?_)
            have bv_2200 : (0 : Int) ≤ v_2200.toInt ∧ v_2200.toInt ≤ 1022 := ba_andl ev_2200 bv_2199 (by decide)
            refine lv_istore (lv' := [(5, .int v_2200), (4, .int v_1976), (3, .int v_1731), (0, .ref ob), (2, .int a2)]) hx hb dX4_addDay_113 hl (by decide) rfl (fun ls hl => ?_)
            refine lv_goto (tgt := 62) hx hb dX4_addDay_115 (by decide) ?_
            exact ih_2188 _ (ml_and hn_2188 ev_2200 qv_2199 (nc_2189.2.1.1)) _ _ _ _ ⟨v_2200, f_2198, rfl, (bw (0) (1023) bv_2200 (by decide)), rfl, ⟨hP, hD⟩, hS, lv_sub hl [0, 1, 2, 3, 4] rfl⟩
          · skip
            refine lv_icmp_ge (tgt := 106) hx hb dX4_addDay_77 (by decide) (fun c_2201 => ?_) (fun c_2201 => ?_)
            · skip
              have nc_2201 := nb_le (1000) (1000) c_2201 (bkc (x := 1000) (c := 1000) (by decide)) (btop v_2190) (by decide)
              exact J_106_2198 _ _ _ _ ⟨f_2169, rfl, ⟨hP, hD⟩, hS, lv_sub hl [0, 1, 2, 3, 4] rfl⟩
            · skip
              have nc_2201 := nb_nle (999) (1000) c_2201 (btop v_2190) (bkc (x := 1000) (c := 1000) (by decide)) (by decide)
              refine lv_aload_n hx hb dX4_addDay_80 rfl (lv_at hl 3 rfl) ?_
              refine va_get (D := G) (ci := 4) (v := .ref ob_sums) (C := RX4) (T := TX4) (N := 17) hx hb hw0 inA_wsX40 hown hK.1 hP 0 rfl rfl 16 (by decide) (hw0 _ m_823) (fun _ h9 => h9) rfl dX4_addDay_81 ?_
              refine lv_iload_n hx hb dX4_addDay_84 rfl (lv_at hl 2 rfl) ?_
              refine lv_aload_n hx hb dX4_addDay_85 rfl (lv_at hl 3 rfl) ?_
              refine va_get (D := G) (ci := 4) (v := .ref ob_sums) (C := RX4) (T := TX4) (N := 17) hx hb hw0 inA_wsX40 hown hK.1 hP 0 rfl rfl 16 (by decide) (hw0 _ m_823) (fun _ h9 => h9) rfl dX4_addDay_86 ?_
              refine lv_iload_n hx hb dX4_addDay_89 rfl (lv_at hl 2 rfl) ?_
              refine va_iald hx hb hK.1 hP 2 1 rfl rfl (vi nc_1975.2.1 (by decide)) dX4_addDay_90 ?_
              refine lv_topi (fun v_2202 ev_2202 => ?_)
              refine lv_aload_n hx hb dX4_addDay_91 rfl (lv_at hl 3 rfl) ?_
              refine va_get (D := G) (ci := 4) (v := .ref ob_sums) (C := RX4) (T := TX4) (N := 17) hx hb hw0 inA_wsX40 hown hK.1 hP 0 rfl rfl 16 (by decide) (hw0 _ m_823) (fun _ h9 => h9) rfl dX4_addDay_92 ?_
              refine lv_iload_n hx hb dX4_addDay_95 rfl (lv_at hl 2 rfl) ?_
              refine lv_iload hx hb dX4_addDay_96 (lv_at hl 0 rfl) ?_
              refine lv_ixor hx hb dX4_addDay_98 ?_
              refine lv_topi (fun v_2203 ev_2203 => ?_)
              have bv_2203 : (0 : Int) ≤ v_2203.toInt ∧ v_2203.toInt ≤ 1023 := ba_xor 10 ev_2203 nc_1975.2.1 nc_2189.2.1 (by decide)
              refine va_iald hx hb hK.1 hP 2 1 rfl rfl (vi bv_2203 (by decide)) dX4_addDay_99 ?_
              refine lv_topi (fun v_2204 ev_2204 => ?_)
              refine lv_iconst (v := 1) hx hb dX4_addDay_100 (by decide) ?_
              refine lv_iadd hx hb dX4_addDay_101 ?_
              refine lv_topi (fun v_2205 ev_2205 => ?_)
              refine va_mmin (own := RX4) hx hb (by rw [hml]; exact hl.1.symm) hown (hw0 _ m_824) (hw0 _ m_282) (hw0 _ m_283) (hw0 _ m_284) (Nat.le_of_ble_eq_true rfl) (Nat.le_of_ble_eq_true rfl) (Nat.zero_le _) (Nat.zero_le _) dX4_addDay_102 ?_
              refine lv_topi (fun v_2206 ev_2206 => ?_)
              refine va_iast hx hb hK.1 hP hD hS 2 1 rfl rfl (vi nc_1975.2.1 (by decide)) dX4_addDay_105 (fun H locs hP hD hS => ?_)
              generalize hf_2207 : (upd f_2169 (v_1731 : Int32).toNatClampNeg v_2206) = f_2207 at hP hD
              obtain ⟨hP, hD⟩ : vPD G A H [(ce_X4 ob ob_planned ob_bestWorth ob_bestOver ob_length ob_order ob_owner ob_weekday ob_spots ob_spot ob_deadline ob_opens ob_closes ob_stays ob_apart ob_minute ob_soonest ob_sums), (ce_i1024 y ob_soonest fob_soonest), (ce_i1024 y ob_sums f_2207)] := ⟨hP, hD⟩
              exact J_106_2198 _ _ _ _ ⟨f_2207, rfl, ⟨hP, hD⟩, hS, lv_sub hl [0, 1, 2, 3, 4] rfl⟩
      · skip
        refine lv_if_eq (tgt := 58) hx hb dX4_addDay_13 (by decide) (fun c_2208 => ?_) (fun c_2208 => ?_)
        · skip
          have nc_2208 := nb_eq (0) (0) c_2208 bv_1976 (bkc (x := 0) (c := 0) (by decide)) (by decide)
          exact J_58_2106 _ _ _ _ ⟨rfl, ⟨hP, hD⟩, hS, lv_sub hl [0, 1, 2, 3] rfl⟩
        · skip
          have nc_2208 := nb_ne (1) (1023) c_2208 bv_1976 (k := 0) (by decide) (by decide)
          refine lv_aload_n hx hb dX4_addDay_16 rfl (lv_at hl 2 rfl) ?_
          refine va_get (D := G) (ci := 4) (v := .ref ob_soonest) (C := RX4) (T := TX4) (N := 17) hx hb hw0 inA_wsX40 hown hK.1 hP 0 rfl rfl 15 (by decide) (hw0 _ m_822) (fun _ h9 => h9) rfl dX4_addDay_17 ?_
          refine lv_iload hx hb dX4_addDay_20 (lv_at hl 0 rfl) ?_
          refine va_iald hx hb hK.1 hP 1 1 rfl rfl (vi nc_2208.1 (by decide)) dX4_addDay_22 ?_
          refine lv_topi (fun v_2209 ev_2209 => ?_)
          refine lv_sipush (v := 1000) hx hb dX4_addDay_23 (by decide) ?_
          refine lv_icmp_ge (tgt := 58) hx hb dX4_addDay_26 (by decide) (fun c_2210 => ?_) (fun c_2210 => ?_)
          · skip
            have nc_2210 := nb_le (1000) (1000) c_2210 (bkc (x := 1000) (c := 1000) (by decide)) (btop v_2209) (by decide)
            exact J_58_2106 _ _ _ _ ⟨rfl, ⟨hP, hD⟩, hS, lv_sub hl [0, 1, 2, 3] rfl⟩
          · skip
            have nc_2210 := nb_nle (999) (1000) c_2210 (btop v_2209) (bkc (x := 1000) (c := 1000) (by decide)) (by decide)
            refine lv_aload_n hx hb dX4_addDay_29 rfl (lv_at hl 2 rfl) ?_
            refine va_get (D := G) (ci := 4) (v := .ref ob_sums) (C := RX4) (T := TX4) (N := 17) hx hb hw0 inA_wsX40 hown hK.1 hP 0 rfl rfl 16 (by decide) (hw0 _ m_823) (fun _ h9 => h9) rfl dX4_addDay_30 ?_
            refine lv_iload_n hx hb dX4_addDay_33 rfl (lv_at hl 1 rfl) ?_
            refine lv_aload_n hx hb dX4_addDay_34 rfl (lv_at hl 2 rfl) ?_
            refine va_get (D := G) (ci := 4) (v := .ref ob_sums) (C := RX4) (T := TX4) (N := 17) hx hb hw0 inA_wsX40 hown hK.1 hP 0 rfl rfl 16 (by decide) (hw0 _ m_823) (fun _ h9 => h9) rfl dX4_addDay_35 ?_
            refine lv_iload_n hx hb dX4_addDay_38 rfl (lv_at hl 1 rfl) ?_
            refine va_iald hx hb hK.1 hP 2 1 rfl rfl (vi nc_1975.2.1 (by decide)) dX4_addDay_39 ?_
            refine lv_topi (fun v_2211 ev_2211 => ?_)
            refine lv_aload_n hx hb dX4_addDay_40 rfl (lv_at hl 2 rfl) ?_
            refine va_get (D := G) (ci := 4) (v := .ref ob_sums) (C := RX4) (T := TX4) (N := 17) hx hb hw0 inA_wsX40 hown hK.1 hP 0 rfl rfl 16 (by decide) (hw0 _ m_823) (fun _ h9 => h9) rfl dX4_addDay_41 ?_
            refine lv_iload_n hx hb dX4_addDay_44 rfl (lv_at hl 1 rfl) ?_
            refine lv_iload hx hb dX4_addDay_45 (lv_at hl 0 rfl) ?_
            refine lv_ixor hx hb dX4_addDay_47 ?_
            refine lv_topi (fun v_2212 ev_2212 => ?_)
            have bv_2212 : (0 : Int) ≤ v_2212.toInt ∧ v_2212.toInt ≤ 1023 := ba_xor 10 ev_2212 nc_1975.2.1 nc_2208.1 (by decide)
            refine va_iald hx hb hK.1 hP 2 1 rfl rfl (vi bv_2212 (by decide)) dX4_addDay_48 ?_
            refine lv_topi (fun v_2213 ev_2213 => ?_)
            refine lv_iconst (v := 1) hx hb dX4_addDay_49 (by decide) ?_
            refine lv_iadd hx hb dX4_addDay_50 ?_
            refine lv_topi (fun v_2214 ev_2214 => ?_)
            refine va_mmin (own := RX4) hx hb (by rw [hml]; exact hl.1.symm) hown (hw0 _ m_824) (hw0 _ m_282) (hw0 _ m_283) (hw0 _ m_284) (Nat.le_of_ble_eq_true rfl) (Nat.le_of_ble_eq_true rfl) (Nat.zero_le _) (Nat.zero_le _) dX4_addDay_51 ?_
            refine lv_topi (fun v_2215 ev_2215 => ?_)
            refine va_iast hx hb hK.1 hP hD hS 2 1 rfl rfl (vi nc_1975.2.1 (by decide)) dX4_addDay_54 (fun H locs hP hD hS => ?_)
            generalize hf_2216 : (upd f_1732 (v_1731 : Int32).toNatClampNeg v_2215) = f_2216 at hP hD
            obtain ⟨hP, hD⟩ : vPD G A H [(ce_X4 ob ob_planned ob_bestWorth ob_bestOver ob_length ob_order ob_owner ob_weekday ob_spots ob_spot ob_deadline ob_opens ob_closes ob_stays ob_apart ob_minute ob_soonest ob_sums), (ce_i1024 y ob_soonest fob_soonest), (ce_i1024 y ob_sums f_2216)] := ⟨hP, hD⟩
            refine lv_goto (tgt := 118) hx hb dX4_addDay_55 (by decide) ?_
            exact J_118_2096 _ _ _ _ ⟨f_2216, rfl, ⟨hP, hD⟩, hS, lv_sub hl [1, 2, 3] rfl⟩

set_option maxHeartbeats 4000000 in
set_option maxRecDepth 100000 in
theorem sX4_fewestDays (l : Launch) (G : va_G) (y : Nat → ClassId) (sz : Nat) (ob : Nat) (o1 : Nat) (a2 : Int32) (ob_planned : Int32) (ob_bestWorth : Int32) (ob_bestOver : Int32) (ob_length : Int32) (ob_order : Nat) (ob_owner : Int32) (ob_weekday : Int32) (ob_spots : Int32) (ob_spot : Nat) (ob_deadline : Nat) (ob_opens : Nat) (ob_closes : Nat) (ob_stays : Nat) (ob_apart : Nat) (ob_minute : Nat) (ob_soonest : Nat) (ob_sums : Nat) (fob_spot : Nat → Int32) (fob_deadline : Nat → Int32) (fob_opens : Nat → Int32) (fob_closes : Nat → Int32) (fob_stays : Nat → Int32) (fob_apart : Nat → Int32) (fob_minute : Nat → Int32) (fob_soonest : Nat → Int32) (fob_sums : Nat → Int32) (o1_town : Nat) (o1_code : Nat) (o1_debts : Nat) (o1_deeds : Nat) (o1_knows : Nat) (o1_day : Int32) (o1_paid : Int32) (o1_follows : Nat) (o1_town_houses : Int32) (o1_town_fresh : Int32) (o1_town_introducers : Int32) (o1_town_x : Nat) (o1_town_y : Nat) (o1_town_rank : Nat) (o1_town_weekday : Nat) (o1_town_from : Nat) (o1_town_to : Nat) (o1_town_came : Nat) (o1_town_bride : Nat) (o1_town_told : Nat) (fo1_town_x : Nat → Int32) (fo1_town_y : Nat → Int32) (fo1_town_weekday : Nat → Int32) (fo1_town_from : Nat → Int32) (fo1_town_to : Nat → Int32) (o1_debts_size : Int32) (o1_debts_debtor : Nat) (o1_debts_creditor : Nat) (o1_debts_kind : Nat) (o1_debts_due : Nat) (o1_debts_came : Nat) (o1_debts_open : Nat) (o1_debts_kinds : Nat) (fo1_debts_debtor : Nat → Int32) (fo1_debts_creditor : Nat → Int32) (fo1_debts_due : Nat → Int32) (fo1_debts_open : Nat → Int32) (fo1_debts_kinds : Nat → Int32) (p_ob_planned : (0 : Int) ≤ ob_planned.toInt ∧ ob_planned.toInt ≤ 1) (p_ob_length : (0 : Int) ≤ ob_length.toInt ∧ ob_length.toInt ≤ 10) (p_ob_spots : (0 : Int) ≤ ob_spots.toInt ∧ ob_spots.toInt ≤ 10) (p_fob_spot : ∀ i, (0 : Int) ≤ (fob_spot i).toInt ∧ (fob_spot i).toInt ≤ 15) (p_o1_town_houses : (0 : Int) ≤ o1_town_houses.toInt ∧ o1_town_houses.toInt ≤ 16) (p_o1_debts_size : (0 : Int) ≤ o1_debts_size.toInt ∧ o1_debts_size.toInt ≤ 600) (p_fo1_debts_creditor : ∀ i, (0 : Int) ≤ (fo1_debts_creditor i).toInt ∧ (fo1_debts_creditor i).toInt ≤ 15) (p_o1_day : (0 : Int) ≤ o1_day.toInt ∧ o1_day.toInt ≤ 399) (p_a2 : (0 : Int) ≤ a2.toInt ∧ a2.toInt ≤ 15) : Met l yX4_fewestDays (Cond.code yX4_fewestDays cX4_fewestDays 5 (some .int) :: wAll) ({ frames := 4, cells := 0, slots := 0, locals := 93 }) (va_Pc [.ref ob, .ref o1, .int a2] (kp G y sz [(ce_X4 ob ob_planned ob_bestWorth ob_bestOver ob_length ob_order ob_owner ob_weekday ob_spots ob_spot ob_deadline ob_opens ob_closes ob_stays ob_apart ob_minute ob_soonest ob_sums), (ce_i10 y ob_spot fob_spot), (ce_i10 y ob_deadline fob_deadline), (ce_i16 y ob_opens fob_opens), (ce_i16 y ob_closes fob_closes), (ce_i16 y ob_stays fob_stays), (ce_i256 y ob_apart fob_apart), (ce_i10240 y ob_minute fob_minute), (ce_i1024 y ob_soonest fob_soonest), (ce_i1024 y ob_sums fob_sums), (ce_X6 o1 o1_town o1_code o1_debts o1_deeds o1_knows o1_day o1_paid o1_follows), (ce_X7 o1_town o1_town_houses o1_town_fresh o1_town_introducers o1_town_x o1_town_y o1_town_rank o1_town_weekday o1_town_from o1_town_to o1_town_came o1_town_bride o1_town_told), (ce_i16 y o1_town_x fo1_town_x), (ce_i16 y o1_town_y fo1_town_y), (ce_i16 y o1_town_weekday fo1_town_weekday), (ce_i16 y o1_town_from fo1_town_from), (ce_i16 y o1_town_to fo1_town_to), (ce_X1 o1_debts o1_debts_size o1_debts_debtor o1_debts_creditor o1_debts_kind o1_debts_due o1_debts_came o1_debts_open o1_debts_kinds), (ce_i600 y o1_debts_debtor fo1_debts_debtor), (ce_i600 y o1_debts_creditor fo1_debts_creditor), (ce_i600 y o1_debts_due fo1_debts_due), (ce_i16 y o1_debts_open fo1_debts_open), (ce_i256 y o1_debts_kinds fo1_debts_kinds)])) (va_Qi (fun (r : Int32) (w : va_W) => (∃ (v_307 : Int32) (v_308 : Int32) (f_309 : Nat → Int32) (f_310 : Nat → Int32) (f_311 : Nat → Int32) (f_312 : Nat → Int32) (f_313 : Nat → Int32) (f_314 : Nat → Int32) (f_315 : Nat → Int32) (f_316 : Nat → Int32) (f_317 : Nat → Int32), ((-2147483648 : Int) ≤ v_307.toInt ∧ v_307.toInt ≤ 999) ∧ ((0 : Int) ≤ v_308.toInt ∧ v_308.toInt ≤ 10) ∧ (∀ i, (0 : Int) ≤ (f_309 i).toInt ∧ (f_309 i).toInt ≤ 15) ∧ r = v_307 ∧ w = [(ce_X4 ob 0 ob_bestWorth ob_bestOver ob_length ob_order a2 ob_weekday v_308 ob_spot ob_deadline ob_opens ob_closes ob_stays ob_apart ob_minute ob_soonest ob_sums), (ce_i10 y ob_spot f_309), (ce_i10 y ob_deadline f_310), (ce_i16 y ob_opens f_311), (ce_i16 y ob_closes f_312), (ce_i16 y ob_stays f_313), (ce_i256 y ob_apart f_314), (ce_i10240 y ob_minute f_315), (ce_i1024 y ob_soonest f_316), (ce_i1024 y ob_sums f_317), (ce_X6 o1 o1_town o1_code o1_debts o1_deeds o1_knows o1_day o1_paid o1_follows), (ce_X7 o1_town o1_town_houses o1_town_fresh o1_town_introducers o1_town_x o1_town_y o1_town_rank o1_town_weekday o1_town_from o1_town_to o1_town_came o1_town_bride o1_town_told), (ce_i16 y o1_town_x fo1_town_x), (ce_i16 y o1_town_y fo1_town_y), (ce_i16 y o1_town_weekday fo1_town_weekday), (ce_i16 y o1_town_from fo1_town_from), (ce_i16 y o1_town_to fo1_town_to), (ce_X1 o1_debts o1_debts_size o1_debts_debtor o1_debts_creditor o1_debts_kind o1_debts_due o1_debts_came o1_debts_open o1_debts_kinds), (ce_i600 y o1_debts_debtor fo1_debts_debtor), (ce_i600 y o1_debts_creditor fo1_debts_creditor), (ce_i600 y o1_debts_due fo1_debts_due), (ce_i16 y o1_debts_open fo1_debts_open), (ce_i256 y o1_debts_kinds fo1_debts_kinds)])) (kq G (va_A [(ce_X4 ob ob_planned ob_bestWorth ob_bestOver ob_length ob_order ob_owner ob_weekday ob_spots ob_spot ob_deadline ob_opens ob_closes ob_stays ob_apart ob_minute ob_soonest ob_sums), (ce_i10 y ob_spot fob_spot), (ce_i10 y ob_deadline fob_deadline), (ce_i16 y ob_opens fob_opens), (ce_i16 y ob_closes fob_closes), (ce_i16 y ob_stays fob_stays), (ce_i256 y ob_apart fob_apart), (ce_i10240 y ob_minute fob_minute), (ce_i1024 y ob_soonest fob_soonest), (ce_i1024 y ob_sums fob_sums), (ce_X6 o1 o1_town o1_code o1_debts o1_deeds o1_knows o1_day o1_paid o1_follows), (ce_X7 o1_town o1_town_houses o1_town_fresh o1_town_introducers o1_town_x o1_town_y o1_town_rank o1_town_weekday o1_town_from o1_town_to o1_town_came o1_town_bride o1_town_told), (ce_i16 y o1_town_x fo1_town_x), (ce_i16 y o1_town_y fo1_town_y), (ce_i16 y o1_town_weekday fo1_town_weekday), (ce_i16 y o1_town_from fo1_town_from), (ce_i16 y o1_town_to fo1_town_to), (ce_X1 o1_debts o1_debts_size o1_debts_debtor o1_debts_creditor o1_debts_kind o1_debts_due o1_debts_came o1_debts_open o1_debts_kinds), (ce_i600 y o1_debts_debtor fo1_debts_debtor), (ce_i600 y o1_debts_creditor fo1_debts_creditor), (ce_i600 y o1_debts_due fo1_debts_due), (ce_i16 y o1_debts_open fo1_debts_open), (ce_i256 y o1_debts_kinds fo1_debts_kinds)] sz)) (va_A [(ce_X4 ob ob_planned ob_bestWorth ob_bestOver ob_length ob_order ob_owner ob_weekday ob_spots ob_spot ob_deadline ob_opens ob_closes ob_stays ob_apart ob_minute ob_soonest ob_sums), (ce_i10 y ob_spot fob_spot), (ce_i10 y ob_deadline fob_deadline), (ce_i16 y ob_opens fob_opens), (ce_i16 y ob_closes fob_closes), (ce_i16 y ob_stays fob_stays), (ce_i256 y ob_apart fob_apart), (ce_i10240 y ob_minute fob_minute), (ce_i1024 y ob_soonest fob_soonest), (ce_i1024 y ob_sums fob_sums), (ce_X6 o1 o1_town o1_code o1_debts o1_deeds o1_knows o1_day o1_paid o1_follows), (ce_X7 o1_town o1_town_houses o1_town_fresh o1_town_introducers o1_town_x o1_town_y o1_town_rank o1_town_weekday o1_town_from o1_town_to o1_town_came o1_town_bride o1_town_told), (ce_i16 y o1_town_x fo1_town_x), (ce_i16 y o1_town_y fo1_town_y), (ce_i16 y o1_town_weekday fo1_town_weekday), (ce_i16 y o1_town_from fo1_town_from), (ce_i16 y o1_town_to fo1_town_to), (ce_X1 o1_debts o1_debts_size o1_debts_debtor o1_debts_creditor o1_debts_kind o1_debts_due o1_debts_came o1_debts_open o1_debts_kinds), (ce_i600 y o1_debts_debtor fo1_debts_debtor), (ce_i600 y o1_debts_creditor fo1_debts_creditor), (ce_i600 y o1_debts_due fo1_debts_due), (ce_i16 y o1_debts_open fo1_debts_open), (ce_i256 y o1_debts_kinds fo1_debts_kinds)] sz)) 0 0 (va_A [(ce_X4 ob ob_planned ob_bestWorth ob_bestOver ob_length ob_order ob_owner ob_weekday ob_spots ob_spot ob_deadline ob_opens ob_closes ob_stays ob_apart ob_minute ob_soonest ob_sums), (ce_i10 y ob_spot fob_spot), (ce_i10 y ob_deadline fob_deadline), (ce_i16 y ob_opens fob_opens), (ce_i16 y ob_closes fob_closes), (ce_i16 y ob_stays fob_stays), (ce_i256 y ob_apart fob_apart), (ce_i10240 y ob_minute fob_minute), (ce_i1024 y ob_soonest fob_soonest), (ce_i1024 y ob_sums fob_sums), (ce_X6 o1 o1_town o1_code o1_debts o1_deeds o1_knows o1_day o1_paid o1_follows), (ce_X7 o1_town o1_town_houses o1_town_fresh o1_town_introducers o1_town_x o1_town_y o1_town_rank o1_town_weekday o1_town_from o1_town_to o1_town_came o1_town_bride o1_town_told), (ce_i16 y o1_town_x fo1_town_x), (ce_i16 y o1_town_y fo1_town_y), (ce_i16 y o1_town_weekday fo1_town_weekday), (ce_i16 y o1_town_from fo1_town_from), (ce_i16 y o1_town_to fo1_town_to), (ce_X1 o1_debts o1_debts_size o1_debts_debtor o1_debts_creditor o1_debts_kind o1_debts_due o1_debts_came o1_debts_open o1_debts_kinds), (ce_i600 y o1_debts_debtor fo1_debts_debtor), (ce_i600 y o1_debts_creditor fo1_debts_creditor), (ce_i600 y o1_debts_due fo1_debts_due), (ce_i16 y o1_debts_open fo1_debts_open), (ce_i256 y o1_debts_kinds fo1_debts_kinds)] sz) := by
  refine Met.ofW (cc := cX4_fewestDays) (maxL := 5) (ret := (some .int)) (by decide) rfl ?_
  intro p e s m args below meth c s₁ B hml hv
  obtain ⟨rfl, hsz, hP, hK, hD0⟩ := hv
  have hx := B.exec
  have hb := B.bytes
  have hr := B.returns
  have hw0 : ∀ w ∈ wAll, w.before _ s = true := fun w h => atoms_spec (ws := Cond.code yX4_fewestDays cX4_fewestDays 5 (some .int) :: wAll) B.pre w (List.mem_cons_of_mem _ h)
  have hown : s.vm.findClass RX4 = some m.cls := findClass_of_methodNamed B.named
  subst hsz
  have hD := hD0.self (sz := s.heap.size)
  generalize hAe : va_A [(ce_X4 ob ob_planned ob_bestWorth ob_bestOver ob_length ob_order ob_owner ob_weekday ob_spots ob_spot ob_deadline ob_opens ob_closes ob_stays ob_apart ob_minute ob_soonest ob_sums), (ce_i10 y ob_spot fob_spot), (ce_i10 y ob_deadline fob_deadline), (ce_i16 y ob_opens fob_opens), (ce_i16 y ob_closes fob_closes), (ce_i16 y ob_stays fob_stays), (ce_i256 y ob_apart fob_apart), (ce_i10240 y ob_minute fob_minute), (ce_i1024 y ob_soonest fob_soonest), (ce_i1024 y ob_sums fob_sums), (ce_X6 o1 o1_town o1_code o1_debts o1_deeds o1_knows o1_day o1_paid o1_follows), (ce_X7 o1_town o1_town_houses o1_town_fresh o1_town_introducers o1_town_x o1_town_y o1_town_rank o1_town_weekday o1_town_from o1_town_to o1_town_came o1_town_bride o1_town_told), (ce_i16 y o1_town_x fo1_town_x), (ce_i16 y o1_town_y fo1_town_y), (ce_i16 y o1_town_weekday fo1_town_weekday), (ce_i16 y o1_town_from fo1_town_from), (ce_i16 y o1_town_to fo1_town_to), (ce_X1 o1_debts o1_debts_size o1_debts_debtor o1_debts_creditor o1_debts_kind o1_debts_due o1_debts_came o1_debts_open o1_debts_kinds), (ce_i600 y o1_debts_debtor fo1_debts_debtor), (ce_i600 y o1_debts_creditor fo1_debts_creditor), (ce_i600 y o1_debts_due fo1_debts_due), (ce_i16 y o1_debts_open fo1_debts_open), (ce_i256 y o1_debts_kinds fo1_debts_kinds)] s.heap.size = A at hD ⊢
  have hA : ∀ q : Nat, s.heap.size ≤ q → A q := fun q h => by rw [← hAe]; exact Or.inr h
  have hS : va_S A s.heap s.heap [] := va_S.rf
  have hP : va_P G vwCl [(ce_X4 ob ob_planned ob_bestWorth ob_bestOver ob_length ob_order ob_owner ob_weekday ob_spots ob_spot ob_deadline ob_opens ob_closes ob_stays ob_apart ob_minute ob_soonest ob_sums), (ce_i10 y ob_spot fob_spot), (ce_i10 y ob_deadline fob_deadline), (ce_i16 y ob_opens fob_opens), (ce_i16 y ob_closes fob_closes), (ce_i16 y ob_stays fob_stays), (ce_i256 y ob_apart fob_apart), (ce_i10240 y ob_minute fob_minute), (ce_i1024 y ob_soonest fob_soonest), (ce_i1024 y ob_sums fob_sums), (ce_X6 o1 o1_town o1_code o1_debts o1_deeds o1_knows o1_day o1_paid o1_follows), (ce_X7 o1_town o1_town_houses o1_town_fresh o1_town_introducers o1_town_x o1_town_y o1_town_rank o1_town_weekday o1_town_from o1_town_to o1_town_came o1_town_bride o1_town_told), (ce_i16 y o1_town_x fo1_town_x), (ce_i16 y o1_town_y fo1_town_y), (ce_i16 y o1_town_weekday fo1_town_weekday), (ce_i16 y o1_town_from fo1_town_from), (ce_i16 y o1_town_to fo1_town_to), (ce_X1 o1_debts o1_debts_size o1_debts_debtor o1_debts_creditor o1_debts_kind o1_debts_due o1_debts_came o1_debts_open o1_debts_kinds), (ce_i600 y o1_debts_debtor fo1_debts_debtor), (ce_i600 y o1_debts_creditor fo1_debts_creditor), (ce_i600 y o1_debts_due fo1_debts_due), (ce_i16 y o1_debts_open fo1_debts_open), (ce_i256 y o1_debts_kinds fo1_debts_kinds)] s.heap := hP
  have hl := lv_entry ([.ref ob, .ref o1, .int a2]) (n := 5) (Nat.le_of_ble_eq_true rfl)
  rw [lg_entry_eq]
  generalize (lg_sl ([.ref ob, .ref o1, .int a2]) ++ List.replicate (5 - (lg_sl ([.ref ob, .ref o1, .int a2])).length) Slot.unset).toArray = ls at hl ⊢
  have hl : lv_has ls 5 [(0, .ref ob), (1, .ref o1), (2, .int a2)] := hl
  refine lv_aload_n hx hb dX4_fewestDays_0 rfl (lv_at hl 0 rfl) ?_
  refine lv_iconst (v := 0) hx hb dX4_fewestDays_1 (by decide) ?_
  refine va_put (D := G) (ci := 4) (v := .int 0) (ty := .boolean) (C := RX4) (T := TX4) (N := 17) hx hb hw0 inA_wsX40 tyX4 tyX4_ok nmX4 hown hK.1 hP hD hS 0 rfl rfl 0 (by decide) (hw0 _ m_865) (fun _ h9 => h9) rfl fd_X4_0 rfl rfl (Nat.le_of_ble_eq_true rfl) dX4_fewestDays_2 (fun H locs hP hD hS => ?_)
  obtain ⟨hP, hD⟩ : vPD G A H [(ce_X4 ob 0 ob_bestWorth ob_bestOver ob_length ob_order ob_owner ob_weekday ob_spots ob_spot ob_deadline ob_opens ob_closes ob_stays ob_apart ob_minute ob_soonest ob_sums), (ce_i10 y ob_spot fob_spot), (ce_i10 y ob_deadline fob_deadline), (ce_i16 y ob_opens fob_opens), (ce_i16 y ob_closes fob_closes), (ce_i16 y ob_stays fob_stays), (ce_i256 y ob_apart fob_apart), (ce_i10240 y ob_minute fob_minute), (ce_i1024 y ob_soonest fob_soonest), (ce_i1024 y ob_sums fob_sums), (ce_X6 o1 o1_town o1_code o1_debts o1_deeds o1_knows o1_day o1_paid o1_follows), (ce_X7 o1_town o1_town_houses o1_town_fresh o1_town_introducers o1_town_x o1_town_y o1_town_rank o1_town_weekday o1_town_from o1_town_to o1_town_came o1_town_bride o1_town_told), (ce_i16 y o1_town_x fo1_town_x), (ce_i16 y o1_town_y fo1_town_y), (ce_i16 y o1_town_weekday fo1_town_weekday), (ce_i16 y o1_town_from fo1_town_from), (ce_i16 y o1_town_to fo1_town_to), (ce_X1 o1_debts o1_debts_size o1_debts_debtor o1_debts_creditor o1_debts_kind o1_debts_due o1_debts_came o1_debts_open o1_debts_kinds), (ce_i600 y o1_debts_debtor fo1_debts_debtor), (ce_i600 y o1_debts_creditor fo1_debts_creditor), (ce_i600 y o1_debts_due fo1_debts_due), (ce_i16 y o1_debts_open fo1_debts_open), (ce_i256 y o1_debts_kinds fo1_debts_kinds)] := ⟨hP, hD⟩
  refine lv_aload_n hx hb dX4_fewestDays_5 rfl (lv_at hl 0 rfl) ?_
  refine lv_iload_n hx hb dX4_fewestDays_6 rfl (lv_at hl 2 rfl) ?_
  refine va_put (D := G) (ci := 4) (v := .int a2) (ty := .int) (C := RX4) (T := TX4) (N := 17) hx hb hw0 inA_wsX40 tyX4 tyX4_ok nmX4 hown hK.1 hP hD hS 0 rfl rfl 5 (by decide) (hw0 _ m_866) (fun _ h9 => h9) rfl fd_X4_5 rfl rfl (Nat.le_of_ble_eq_true rfl) dX4_fewestDays_7 (fun H locs hP hD hS => ?_)
  obtain ⟨hP, hD⟩ : vPD G A H [(ce_X4 ob 0 ob_bestWorth ob_bestOver ob_length ob_order a2 ob_weekday ob_spots ob_spot ob_deadline ob_opens ob_closes ob_stays ob_apart ob_minute ob_soonest ob_sums), (ce_i10 y ob_spot fob_spot), (ce_i10 y ob_deadline fob_deadline), (ce_i16 y ob_opens fob_opens), (ce_i16 y ob_closes fob_closes), (ce_i16 y ob_stays fob_stays), (ce_i256 y ob_apart fob_apart), (ce_i10240 y ob_minute fob_minute), (ce_i1024 y ob_soonest fob_soonest), (ce_i1024 y ob_sums fob_sums), (ce_X6 o1 o1_town o1_code o1_debts o1_deeds o1_knows o1_day o1_paid o1_follows), (ce_X7 o1_town o1_town_houses o1_town_fresh o1_town_introducers o1_town_x o1_town_y o1_town_rank o1_town_weekday o1_town_from o1_town_to o1_town_came o1_town_bride o1_town_told), (ce_i16 y o1_town_x fo1_town_x), (ce_i16 y o1_town_y fo1_town_y), (ce_i16 y o1_town_weekday fo1_town_weekday), (ce_i16 y o1_town_from fo1_town_from), (ce_i16 y o1_town_to fo1_town_to), (ce_X1 o1_debts o1_debts_size o1_debts_debtor o1_debts_creditor o1_debts_kind o1_debts_due o1_debts_came o1_debts_open o1_debts_kinds), (ce_i600 y o1_debts_debtor fo1_debts_debtor), (ce_i600 y o1_debts_creditor fo1_debts_creditor), (ce_i600 y o1_debts_due fo1_debts_due), (ce_i16 y o1_debts_open fo1_debts_open), (ce_i256 y o1_debts_kinds fo1_debts_kinds)] := ⟨hP, hD⟩
  refine lv_aload_n hx hb dX4_fewestDays_10 rfl (lv_at hl 0 rfl) ?_
  refine lv_aload_n hx hb dX4_fewestDays_11 rfl (lv_at hl 1 rfl) ?_
  refine lv_iload_n hx hb dX4_fewestDays_12 rfl (lv_at hl 2 rfl) ?_
  refine cVvm (As := [.ref o1, .int a2]) (rest := []) ⟨hx, hb, hml, hown, hw0⟩ hA hK hP hD hS [true, true, true, false, false, false, false, false, false, false, true, false, false, false, false, false, false, true, true, true, true, true] (sX4_gatherDeadlines l G y _ ob o1 a2 0 ob_bestWorth ob_bestOver ob_length ob_order a2 ob_weekday ob_spots ob_spot ob_deadline ob_opens ob_closes ob_stays ob_apart ob_minute ob_soonest ob_sums fob_spot fob_deadline o1_town o1_code o1_debts o1_deeds o1_knows o1_day o1_paid o1_follows o1_debts_size o1_debts_debtor o1_debts_creditor o1_debts_kind o1_debts_due o1_debts_came o1_debts_open o1_debts_kinds fo1_debts_debtor fo1_debts_creditor fo1_debts_due fo1_debts_open (bw (0) (1) (bkc (x := 0) (c := 0) (by decide)) (by decide)) p_ob_length p_ob_spots p_fob_spot p_o1_debts_size p_fo1_debts_creditor p_o1_day p_a2) rfl ⟨(callB_of 2 hw0 (gA m_885) rfl rfl rfl (hw0 _ m_839) (hw0 _ m_867) cb_X4_gatherDeadlines ⟨Nat.le_of_ble_eq_true rfl, Nat.le_of_ble_eq_true rfl⟩), (hw0 _ m_868), (hw0 _ m_869)⟩ (ci := 4) (q := (RX4, TX4, 17)) rfl rfl rfl hl.1 (Nat.le_of_ble_eq_true rfl) dX4_fewestDays_13 ⟨Nat.le_of_ble_eq_true rfl, Nat.le_of_ble_eq_true rfl⟩ (fun w_1001 H locs hw_1001 hP hD hS => ?_)
  obtain ⟨v_1002, f_1003, f_1004, bv_1002, bf_1003, rfl⟩ := hw_1001
  obtain ⟨hP, hD⟩ : vPD G A H [(ce_X4 ob 0 ob_bestWorth ob_bestOver ob_length ob_order a2 ob_weekday v_1002 ob_spot ob_deadline ob_opens ob_closes ob_stays ob_apart ob_minute ob_soonest ob_sums), (ce_i10 y ob_spot f_1003), (ce_i10 y ob_deadline f_1004), (ce_i16 y ob_opens fob_opens), (ce_i16 y ob_closes fob_closes), (ce_i16 y ob_stays fob_stays), (ce_i256 y ob_apart fob_apart), (ce_i10240 y ob_minute fob_minute), (ce_i1024 y ob_soonest fob_soonest), (ce_i1024 y ob_sums fob_sums), (ce_X6 o1 o1_town o1_code o1_debts o1_deeds o1_knows o1_day o1_paid o1_follows), (ce_X7 o1_town o1_town_houses o1_town_fresh o1_town_introducers o1_town_x o1_town_y o1_town_rank o1_town_weekday o1_town_from o1_town_to o1_town_came o1_town_bride o1_town_told), (ce_i16 y o1_town_x fo1_town_x), (ce_i16 y o1_town_y fo1_town_y), (ce_i16 y o1_town_weekday fo1_town_weekday), (ce_i16 y o1_town_from fo1_town_from), (ce_i16 y o1_town_to fo1_town_to), (ce_X1 o1_debts o1_debts_size o1_debts_debtor o1_debts_creditor o1_debts_kind o1_debts_due o1_debts_came o1_debts_open o1_debts_kinds), (ce_i600 y o1_debts_debtor fo1_debts_debtor), (ce_i600 y o1_debts_creditor fo1_debts_creditor), (ce_i600 y o1_debts_due fo1_debts_due), (ce_i16 y o1_debts_open fo1_debts_open), (ce_i256 y o1_debts_kinds fo1_debts_kinds)] := ⟨hP, hD⟩
  refine lv_aload_n hx hb dX4_fewestDays_16 rfl (lv_at hl 0 rfl) ?_
  refine lv_aload_n hx hb dX4_fewestDays_17 rfl (lv_at hl 1 rfl) ?_
  refine lv_iload_n hx hb dX4_fewestDays_18 rfl (lv_at hl 2 rfl) ?_
  refine cVvm (As := [.ref o1, .int a2]) (rest := []) ⟨hx, hb, hml, hown, hw0⟩ hA hK hP hD hS [true, true, false, true, true, true, true, false, false, false, true, true, true, true, false, true, true, true, false, false, false, false, true] (sX4_lookAtSpots l G y _ ob o1 a2 0 ob_bestWorth ob_bestOver ob_length ob_order a2 ob_weekday v_1002 ob_spot ob_deadline ob_opens ob_closes ob_stays ob_apart ob_minute ob_soonest ob_sums f_1003 fob_opens fob_closes fob_stays fob_apart o1_town o1_code o1_debts o1_deeds o1_knows o1_day o1_paid o1_follows o1_town_houses o1_town_fresh o1_town_introducers o1_town_x o1_town_y o1_town_rank o1_town_weekday o1_town_from o1_town_to o1_town_came o1_town_bride o1_town_told fo1_town_x fo1_town_y fo1_town_from fo1_town_to o1_debts_size o1_debts_debtor o1_debts_creditor o1_debts_kind o1_debts_due o1_debts_came o1_debts_open o1_debts_kinds fo1_debts_kinds (bw (0) (1) (bkc (x := 0) (c := 0) (by decide)) (by decide)) p_ob_length bv_1002 bf_1003 p_o1_town_houses p_o1_debts_size p_o1_day p_a2) rfl ⟨(callB_of 2 hw0 (gA m_910) rfl rfl rfl (hw0 _ m_839) (hw0 _ m_870) cb_X4_lookAtSpots ⟨Nat.le_of_ble_eq_true rfl, Nat.le_of_ble_eq_true rfl⟩), (hw0 _ m_871), (hw0 _ m_872)⟩ (ci := 4) (q := (RX4, TX4, 17)) rfl rfl rfl hl.1 (Nat.le_of_ble_eq_true rfl) dX4_fewestDays_19 ⟨Nat.le_of_ble_eq_true rfl, Nat.le_of_ble_eq_true rfl⟩ (fun w_1005 H locs hw_1005 hP hD hS => ?_)
  obtain ⟨f_1006, f_1007, f_1008, f_1009, rfl⟩ := hw_1005
  obtain ⟨hP, hD⟩ : vPD G A H [(ce_X4 ob 0 ob_bestWorth ob_bestOver ob_length ob_order a2 ob_weekday v_1002 ob_spot ob_deadline ob_opens ob_closes ob_stays ob_apart ob_minute ob_soonest ob_sums), (ce_i10 y ob_spot f_1003), (ce_i10 y ob_deadline f_1004), (ce_i16 y ob_opens f_1006), (ce_i16 y ob_closes f_1007), (ce_i16 y ob_stays f_1008), (ce_i256 y ob_apart f_1009), (ce_i10240 y ob_minute fob_minute), (ce_i1024 y ob_soonest fob_soonest), (ce_i1024 y ob_sums fob_sums), (ce_X6 o1 o1_town o1_code o1_debts o1_deeds o1_knows o1_day o1_paid o1_follows), (ce_X7 o1_town o1_town_houses o1_town_fresh o1_town_introducers o1_town_x o1_town_y o1_town_rank o1_town_weekday o1_town_from o1_town_to o1_town_came o1_town_bride o1_town_told), (ce_i16 y o1_town_x fo1_town_x), (ce_i16 y o1_town_y fo1_town_y), (ce_i16 y o1_town_weekday fo1_town_weekday), (ce_i16 y o1_town_from fo1_town_from), (ce_i16 y o1_town_to fo1_town_to), (ce_X1 o1_debts o1_debts_size o1_debts_debtor o1_debts_creditor o1_debts_kind o1_debts_due o1_debts_came o1_debts_open o1_debts_kinds), (ce_i600 y o1_debts_debtor fo1_debts_debtor), (ce_i600 y o1_debts_creditor fo1_debts_creditor), (ce_i600 y o1_debts_due fo1_debts_due), (ce_i16 y o1_debts_open fo1_debts_open), (ce_i256 y o1_debts_kinds fo1_debts_kinds)] := ⟨hP, hD⟩
  refine lv_iconst (v := 1) hx hb dX4_fewestDays_22 (by decide) ?_
  refine lv_aload_n hx hb dX4_fewestDays_23 rfl (lv_at hl 0 rfl) ?_
  refine va_get (D := G) (ci := 4) (v := .int v_1002) (C := RX4) (T := TX4) (N := 17) hx hb hw0 inA_wsX40 hown hK.1 hP 0 rfl rfl 7 (by decide) (hw0 _ m_827) (fun _ h9 => h9) rfl dX4_fewestDays_24 ?_
  refine lv_ishl hx hb dX4_fewestDays_27 ?_
  refine lv_topi (fun v_1010 ev_1010 => ?_)
  have bv_1010 : (1 : Int) ≤ v_1010.toInt ∧ v_1010.toInt ≤ 1024 := ba_shl 0 10 ev_1010 bv_1002 (by decide)
  refine lv_iconst (v := 1) hx hb dX4_fewestDays_28 (by decide) ?_
  refine lv_isub hx hb dX4_fewestDays_29 ?_
  refine lv_topi (fun v_1011 ev_1011 => ?_)
  have qv_1011 := ba_sub ev_1011 bv_1010 (bkc (x := 1) (c := 1) (by decide)) (by decide)
  have bv_1011 : (0 : Int) ≤ v_1011.toInt ∧ v_1011.toInt ≤ 1023 := bq_sub qv_1011 bv_1010 (bkc (x := 1) (c := 1) (by decide)) _ _ (by decide)
  have qv_1011 : v_1011.toInt = v_1010.toInt - (1) := qv_1011
  refine lv_istore_n (lv' := [(3, .int v_1011), (0, .ref ob), (1, .ref o1), (2, .int a2)]) hx hb dX4_fewestDays_30 rfl hl (by decide) rfl (fun ls hl => ?_)
  refine lv_iconst (v := 1) hx hb dX4_fewestDays_31 (by decide) ?_
  refine lv_istore (lv' := [(4, .int 1), (3, .int v_1011), (0, .ref ob), (1, .ref o1), (2, .int a2)]) hx hb dX4_fewestDays_32 hl (by decide) rfl (fun ls hl => ?_)
  refine loopX (fun n H locs ls st => ∃ (v_1069 : Int32) (f_1070 : Nat → Int32), (1024 - v_1069.toInt).toNat = n ∧ ((1 : Int) ≤ v_1069.toInt ∧ v_1069.toInt ≤ 1024) ∧ st = [] ∧ vPD G A H [(ce_X4 ob 0 ob_bestWorth ob_bestOver ob_length ob_order a2 ob_weekday v_1002 ob_spot ob_deadline ob_opens ob_closes ob_stays ob_apart ob_minute ob_soonest ob_sums), (ce_i10 y ob_spot f_1003), (ce_i10 y ob_deadline f_1004), (ce_i16 y ob_opens f_1006), (ce_i16 y ob_closes f_1007), (ce_i16 y ob_stays f_1008), (ce_i256 y ob_apart f_1009), (ce_i10240 y ob_minute fob_minute), (ce_i1024 y ob_soonest fob_soonest), (ce_i1024 y ob_sums f_1070), (ce_X6 o1 o1_town o1_code o1_debts o1_deeds o1_knows o1_day o1_paid o1_follows), (ce_X7 o1_town o1_town_houses o1_town_fresh o1_town_introducers o1_town_x o1_town_y o1_town_rank o1_town_weekday o1_town_from o1_town_to o1_town_came o1_town_bride o1_town_told), (ce_i16 y o1_town_x fo1_town_x), (ce_i16 y o1_town_y fo1_town_y), (ce_i16 y o1_town_weekday fo1_town_weekday), (ce_i16 y o1_town_from fo1_town_from), (ce_i16 y o1_town_to fo1_town_to), (ce_X1 o1_debts o1_debts_size o1_debts_debtor o1_debts_creditor o1_debts_kind o1_debts_due o1_debts_came o1_debts_open o1_debts_kinds), (ce_i600 y o1_debts_debtor fo1_debts_debtor), (ce_i600 y o1_debts_creditor fo1_debts_creditor), (ce_i600 y o1_debts_due fo1_debts_due), (ce_i16 y o1_debts_open fo1_debts_open), (ce_i256 y o1_debts_kinds fo1_debts_kinds)] ∧ va_S A s.heap H locs ∧ lv_has ls 5 [(4, .int v_1069), (3, .int v_1011), (0, .ref ob), (1, .ref o1), (2, .int a2)]) ?_ (n := (1024 - (1 : Int32).toInt).toNat) ⟨1, fob_sums, rfl, (bw (1) (1024) (bkc (x := 1) (c := 1) (by decide)) (by decide)), rfl, ⟨hP, hD⟩, hS, lv_sub hl [0, 1, 2, 3, 4] rfl⟩
  rintro n ih_1073 H locs ls st ⟨v_1069, f_1070, hn_1073, bv_1069, rfl, ⟨hP, hD⟩, hS, hl⟩
  refine lv_iload hx hb dX4_fewestDays_34 (lv_at hl 0 rfl) ?_
  refine lv_iload_n hx hb dX4_fewestDays_36 rfl (lv_at hl 1 rfl) ?_
  refine lv_icmp_gt (tgt := 56) hx hb dX4_fewestDays_37 (by decide) (fun c_1074 => ?_) (fun c_1074 => ?_)
  · skip
    have nc_1074 := nb_lt (1023) (1) c_1074 bv_1011 bv_1069 (by decide)
    refine lv_aload_n hx hb dX4_fewestDays_56 rfl (lv_at hl 2 rfl) ?_
    refine va_get (D := G) (ci := 4) (v := .ref ob_sums) (C := RX4) (T := TX4) (N := 17) hx hb hw0 inA_wsX40 hown hK.1 hP 0 rfl rfl 16 (by decide) (hw0 _ m_823) (fun _ h9 => h9) rfl dX4_fewestDays_57 ?_
    refine lv_iconst (v := 0) hx hb dX4_fewestDays_60 (by decide) ?_
    refine lv_iconst (v := 0) hx hb dX4_fewestDays_61 (by decide) ?_
    refine va_iast hx hb hK.1 hP hD hS 9 1 rfl rfl (vi (bkc (x := 0) (c := 0) (by decide)) (by decide)) dX4_fewestDays_62 (fun H locs hP hD hS => ?_)
    generalize hf_1075 : (upd f_1070 (0 : Int32).toNatClampNeg 0) = f_1075 at hP hD
    obtain ⟨hP, hD⟩ : vPD G A H [(ce_X4 ob 0 ob_bestWorth ob_bestOver ob_length ob_order a2 ob_weekday v_1002 ob_spot ob_deadline ob_opens ob_closes ob_stays ob_apart ob_minute ob_soonest ob_sums), (ce_i10 y ob_spot f_1003), (ce_i10 y ob_deadline f_1004), (ce_i16 y ob_opens f_1006), (ce_i16 y ob_closes f_1007), (ce_i16 y ob_stays f_1008), (ce_i256 y ob_apart f_1009), (ce_i10240 y ob_minute fob_minute), (ce_i1024 y ob_soonest fob_soonest), (ce_i1024 y ob_sums f_1075), (ce_X6 o1 o1_town o1_code o1_debts o1_deeds o1_knows o1_day o1_paid o1_follows), (ce_X7 o1_town o1_town_houses o1_town_fresh o1_town_introducers o1_town_x o1_town_y o1_town_rank o1_town_weekday o1_town_from o1_town_to o1_town_came o1_town_bride o1_town_told), (ce_i16 y o1_town_x fo1_town_x), (ce_i16 y o1_town_y fo1_town_y), (ce_i16 y o1_town_weekday fo1_town_weekday), (ce_i16 y o1_town_from fo1_town_from), (ce_i16 y o1_town_to fo1_town_to), (ce_X1 o1_debts o1_debts_size o1_debts_debtor o1_debts_creditor o1_debts_kind o1_debts_due o1_debts_came o1_debts_open o1_debts_kinds), (ce_i600 y o1_debts_debtor fo1_debts_debtor), (ce_i600 y o1_debts_creditor fo1_debts_creditor), (ce_i600 y o1_debts_due fo1_debts_due), (ce_i16 y o1_debts_open fo1_debts_open), (ce_i256 y o1_debts_kinds fo1_debts_kinds)] := ⟨hP, hD⟩
    refine lv_aload_n hx hb dX4_fewestDays_63 rfl (lv_at hl 2 rfl) ?_
    refine lv_iload_n hx hb dX4_fewestDays_64 rfl (lv_at hl 4 rfl) ?_
    refine lv_iload_n hx hb dX4_fewestDays_65 rfl (lv_at hl 1 rfl) ?_
    refine cVvm (As := [.int a2, .int v_1011]) (rest := []) ⟨hx, hb, hml, hown, hw0⟩ hA hK hP hD hS [true, true, false, true, true, true, true, true, true] (sX4_reckonMinutes l G y _ ob a2 v_1011 0 ob_bestWorth ob_bestOver ob_length ob_order a2 ob_weekday v_1002 ob_spot ob_deadline ob_opens ob_closes ob_stays ob_apart ob_minute ob_soonest ob_sums f_1003 f_1006 f_1007 f_1008 f_1009 fob_minute fob_soonest (bw (0) (1) (bkc (x := 0) (c := 0) (by decide)) (by decide)) p_ob_length bv_1002 bf_1003 p_a2) rfl ⟨(callB_of 2 hw0 (gA m_933) rfl rfl rfl (hw0 _ m_839) (hw0 _ m_873) cb_X4_reckonMinutes ⟨Nat.le_of_ble_eq_true rfl, Nat.le_of_ble_eq_true rfl⟩), (hw0 _ m_874), (hw0 _ m_875)⟩ (ci := 4) (q := (RX4, TX4, 17)) rfl rfl rfl hl.1 (Nat.le_of_ble_eq_true rfl) dX4_fewestDays_66 ⟨Nat.le_of_ble_eq_true rfl, Nat.le_of_ble_eq_true rfl⟩ (fun w_1076 H locs hw_1076 hP hD hS => ?_)
    obtain ⟨f_1077, f_1078, rfl⟩ := hw_1076
    obtain ⟨hP, hD⟩ : vPD G A H [(ce_X4 ob 0 ob_bestWorth ob_bestOver ob_length ob_order a2 ob_weekday v_1002 ob_spot ob_deadline ob_opens ob_closes ob_stays ob_apart ob_minute ob_soonest ob_sums), (ce_i10 y ob_spot f_1003), (ce_i10 y ob_deadline f_1004), (ce_i16 y ob_opens f_1006), (ce_i16 y ob_closes f_1007), (ce_i16 y ob_stays f_1008), (ce_i256 y ob_apart f_1009), (ce_i10240 y ob_minute f_1077), (ce_i1024 y ob_soonest f_1078), (ce_i1024 y ob_sums f_1075), (ce_X6 o1 o1_town o1_code o1_debts o1_deeds o1_knows o1_day o1_paid o1_follows), (ce_X7 o1_town o1_town_houses o1_town_fresh o1_town_introducers o1_town_x o1_town_y o1_town_rank o1_town_weekday o1_town_from o1_town_to o1_town_came o1_town_bride o1_town_told), (ce_i16 y o1_town_x fo1_town_x), (ce_i16 y o1_town_y fo1_town_y), (ce_i16 y o1_town_weekday fo1_town_weekday), (ce_i16 y o1_town_from fo1_town_from), (ce_i16 y o1_town_to fo1_town_to), (ce_X1 o1_debts o1_debts_size o1_debts_debtor o1_debts_creditor o1_debts_kind o1_debts_due o1_debts_came o1_debts_open o1_debts_kinds), (ce_i600 y o1_debts_debtor fo1_debts_debtor), (ce_i600 y o1_debts_creditor fo1_debts_creditor), (ce_i600 y o1_debts_due fo1_debts_due), (ce_i16 y o1_debts_open fo1_debts_open), (ce_i256 y o1_debts_kinds fo1_debts_kinds)] := ⟨hP, hD⟩
    refine lv_aload_n hx hb dX4_fewestDays_69 rfl (lv_at hl 3 rfl) ?_
    refine va_get (D := G) (ci := 6) (v := .int o1_day) (C := RX6) (T := TX6) (N := 8) hx hb hw0 inA_wsX60 hown hK.1 hP 10 rfl rfl 5 (by decide) (hw0 _ m_852) (fun _ h9 => h9) rfl dX4_fewestDays_70 ?_
    refine lv_istore (lv' := [(4, .int o1_day), (3, .int v_1011), (0, .ref ob), (1, .ref o1), (2, .int a2)]) hx hb dX4_fewestDays_73 hl (by decide) rfl (fun ls hl => ?_)
    refine loopX (fun n H locs ls st => ∃ (v_1127 : Int32) (f_1128 : Nat → Int32), (406 - v_1127.toInt).toNat = n ∧ ((0 : Int) ≤ v_1127.toInt ∧ v_1127.toInt ≤ 406) ∧ st = [] ∧ vPD G A H [(ce_X4 ob 0 ob_bestWorth ob_bestOver ob_length ob_order a2 ob_weekday v_1002 ob_spot ob_deadline ob_opens ob_closes ob_stays ob_apart ob_minute ob_soonest ob_sums), (ce_i10 y ob_spot f_1003), (ce_i10 y ob_deadline f_1004), (ce_i16 y ob_opens f_1006), (ce_i16 y ob_closes f_1007), (ce_i16 y ob_stays f_1008), (ce_i256 y ob_apart f_1009), (ce_i10240 y ob_minute f_1077), (ce_i1024 y ob_soonest f_1078), (ce_i1024 y ob_sums f_1128), (ce_X6 o1 o1_town o1_code o1_debts o1_deeds o1_knows o1_day o1_paid o1_follows), (ce_X7 o1_town o1_town_houses o1_town_fresh o1_town_introducers o1_town_x o1_town_y o1_town_rank o1_town_weekday o1_town_from o1_town_to o1_town_came o1_town_bride o1_town_told), (ce_i16 y o1_town_x fo1_town_x), (ce_i16 y o1_town_y fo1_town_y), (ce_i16 y o1_town_weekday fo1_town_weekday), (ce_i16 y o1_town_from fo1_town_from), (ce_i16 y o1_town_to fo1_town_to), (ce_X1 o1_debts o1_debts_size o1_debts_debtor o1_debts_creditor o1_debts_kind o1_debts_due o1_debts_came o1_debts_open o1_debts_kinds), (ce_i600 y o1_debts_debtor fo1_debts_debtor), (ce_i600 y o1_debts_creditor fo1_debts_creditor), (ce_i600 y o1_debts_due fo1_debts_due), (ce_i16 y o1_debts_open fo1_debts_open), (ce_i256 y o1_debts_kinds fo1_debts_kinds)] ∧ va_S A s.heap H locs ∧ lv_has ls 5 [(4, .int v_1127), (3, .int v_1011), (0, .ref ob), (1, .ref o1)]) ?_ (n := (406 - o1_day.toInt).toNat) ⟨o1_day, f_1075, rfl, (bw (0) (406) p_o1_day (by decide)), rfl, ⟨hP, hD⟩, hS, lv_sub hl [0, 1, 2, 3] rfl⟩
    rintro n ih_1138 H locs ls st ⟨v_1127, f_1128, hn_1138, bv_1127, rfl, ⟨hP, hD⟩, hS, hl⟩
    refine lv_iload hx hb dX4_fewestDays_75 (lv_at hl 0 rfl) ?_
    refine lv_aload_n hx hb dX4_fewestDays_77 rfl (lv_at hl 3 rfl) ?_
    refine va_get (D := G) (ci := 6) (v := .int o1_day) (C := RX6) (T := TX6) (N := 8) hx hb hw0 inA_wsX60 hown hK.1 hP 10 rfl rfl 5 (by decide) (hw0 _ m_852) (fun _ h9 => h9) rfl dX4_fewestDays_78 ?_
    refine lv_bipush (v := 7) hx hb dX4_fewestDays_81 (by decide) ?_
    refine lv_iadd hx hb dX4_fewestDays_83 ?_
    refine lv_topi (fun v_1139 ev_1139 => ?_)
    have qv_1139 := ba_add ev_1139 p_o1_day (bkc (x := 7) (c := 7) (by decide)) (by decide)
    have bv_1139 : (7 : Int) ≤ v_1139.toInt ∧ v_1139.toInt ≤ 406 := bq_add qv_1139 p_o1_day (bkc (x := 7) (c := 7) (by decide)) _ _ (by decide)
    have qv_1139 : v_1139.toInt = o1_day.toInt + (7) := qv_1139
    refine lv_icmp_ge (tgt := 112) hx hb dX4_fewestDays_84 (by decide) (fun c_1140 => ?_) (fun c_1140 => ?_)
    · skip
      have nc_1140 := nb_le (406) (7) c_1140 bv_1139 bv_1127 (by decide)
      refine lv_aload_n hx hb dX4_fewestDays_112 rfl (lv_at hl 2 rfl) ?_
      refine va_get (D := G) (ci := 4) (v := .ref ob_sums) (C := RX4) (T := TX4) (N := 17) hx hb hw0 inA_wsX40 hown hK.1 hP 0 rfl rfl 16 (by decide) (hw0 _ m_823) (fun _ h9 => h9) rfl dX4_fewestDays_113 ?_
      refine lv_iload_n hx hb dX4_fewestDays_116 rfl (lv_at hl 1 rfl) ?_
      refine va_iald hx hb hK.1 hP 9 1 rfl rfl (vi nc_1074.1 (by decide)) dX4_fewestDays_117 ?_
      refine lv_topi (fun v_1141 ev_1141 => ?_)
      refine lv_sipush (v := 1000) hx hb dX4_fewestDays_118 (by decide) ?_
      refine lv_icmp_lt (tgt := 128) hx hb dX4_fewestDays_121 (by decide) (fun c_1142 => ?_) (fun c_1142 => ?_)
      · skip
        have nc_1142 := nb_lt (999) (1000) c_1142 (btop v_1141) (bkc (x := 1000) (c := 1000) (by decide)) (by decide)
        refine lv_aload_n hx hb dX4_fewestDays_128 rfl (lv_at hl 2 rfl) ?_
        refine va_get (D := G) (ci := 4) (v := .ref ob_sums) (C := RX4) (T := TX4) (N := 17) hx hb hw0 inA_wsX40 hown hK.1 hP 0 rfl rfl 16 (by decide) (hw0 _ m_823) (fun _ h9 => h9) rfl dX4_fewestDays_129 ?_
        refine lv_iload_n hx hb dX4_fewestDays_132 rfl (lv_at hl 1 rfl) ?_
        refine va_iald hx hb hK.1 hP 9 1 rfl rfl (vi nc_1074.1 (by decide)) dX4_fewestDays_133 ?_
        refine lv_topi (fun v_1143 ev_1143 => ?_)
        obtain rfl : v_1141 = v_1143 := (ev_1143.trans (ev_1141.symm)).symm
        exact W.iret (v := v_1141) hx hb hr (fun t ht hW => ⟨⟨v_1141, _, rfl, ⟨v_1141, v_1002, f_1003, f_1004, f_1006, f_1007, f_1008, f_1009, f_1077, f_1078, f_1128, nc_1142.1, bv_1002, bf_1003, rfl, rfl⟩, by rw [ht]; exact hP, hD⟩, hS.F ht⟩) hS.2.2 dX4_fewestDays_134
      · skip
        have nc_1142 := nb_nlt (1000) (1000) c_1142 (bkc (x := 1000) (c := 1000) (by decide)) (btop v_1141) (by decide)
        refine lv_iconst (v := (-1)) hx hb dX4_fewestDays_124 (by decide) ?_
        refine lv_goto (tgt := 134) hx hb dX4_fewestDays_125 (by decide) ?_
        exact W.iret (v := (-1)) hx hb hr (fun t ht hW => ⟨⟨(-1), _, rfl, ⟨(-1), v_1002, f_1003, f_1004, f_1006, f_1007, f_1008, f_1009, f_1077, f_1078, f_1128, (bw (-2147483648) (999) (bkc (x := (-1)) (c := -1) (by decide)) (by decide)), bv_1002, bf_1003, rfl, rfl⟩, by rw [ht]; exact hP, hD⟩, hS.F ht⟩) hS.2.2 dX4_fewestDays_134
    · skip
      have nc_1140 := nb_nle (405) (7) c_1140 bv_1127 bv_1139 (by decide)
      refine lv_aload_n hx hb dX4_fewestDays_87 rfl (lv_at hl 2 rfl) ?_
      refine lv_iload_n hx hb dX4_fewestDays_88 rfl (lv_at hl 1 rfl) ?_
      refine lv_aload_n hx hb dX4_fewestDays_89 rfl (lv_at hl 2 rfl) ?_
      refine lv_aload_n hx hb dX4_fewestDays_90 rfl (lv_at hl 3 rfl) ?_
      refine lv_iload hx hb dX4_fewestDays_91 (lv_at hl 0 rfl) ?_
      refine cVim (As := [.ref o1, .int v_1127]) (rest := [.int v_1011, .ref ob]) ⟨hx, hb, hml, hown, hw0⟩ hA hK hP hD hS [true, true, false, false, false, false, false, false, false, false, true, true, false, false, true, false, false, true, false, false, false, false, true] (sX4_openSpots l G y _ ob o1 v_1127 0 ob_bestWorth ob_bestOver ob_length ob_order a2 ob_weekday v_1002 ob_spot ob_deadline ob_opens ob_closes ob_stays ob_apart ob_minute ob_soonest ob_sums f_1003 o1_town o1_code o1_debts o1_deeds o1_knows o1_day o1_paid o1_follows o1_town_houses o1_town_fresh o1_town_introducers o1_town_x o1_town_y o1_town_rank o1_town_weekday o1_town_from o1_town_to o1_town_came o1_town_bride o1_town_told fo1_town_weekday o1_debts_size o1_debts_debtor o1_debts_creditor o1_debts_kind o1_debts_due o1_debts_came o1_debts_open o1_debts_kinds fo1_debts_kinds (bw (0) (1) (bkc (x := 0) (c := 0) (by decide)) (by decide)) p_ob_length bv_1002 bf_1003 p_o1_town_houses p_o1_debts_size p_o1_day nc_1140.1 p_a2) rfl ⟨(callB_of 2 hw0 (gA m_915) rfl rfl rfl (hw0 _ m_839) (hw0 _ m_876) cb_X4_openSpots ⟨Nat.le_of_ble_eq_true rfl, Nat.le_of_ble_eq_true rfl⟩), (hw0 _ m_877), (hw0 _ m_878)⟩ (ci := 4) (q := (RX4, TX4, 17)) rfl rfl rfl hl.1 (Nat.le_of_ble_eq_true rfl) dX4_fewestDays_93 ⟨Nat.le_of_ble_eq_true rfl, Nat.le_of_ble_eq_true rfl⟩ (fun r_1144 w_1144 H locs hw_1144 hP hD hS => ?_)
      obtain ⟨v_1145, bv_1145, er_1144, rfl⟩ := hw_1144
      subst r_1144
      obtain ⟨hP, hD⟩ : vPD G A H [(ce_X4 ob 0 ob_bestWorth ob_bestOver ob_length ob_order a2 ob_weekday v_1002 ob_spot ob_deadline ob_opens ob_closes ob_stays ob_apart ob_minute ob_soonest ob_sums), (ce_i10 y ob_spot f_1003), (ce_i10 y ob_deadline f_1004), (ce_i16 y ob_opens f_1006), (ce_i16 y ob_closes f_1007), (ce_i16 y ob_stays f_1008), (ce_i256 y ob_apart f_1009), (ce_i10240 y ob_minute f_1077), (ce_i1024 y ob_soonest f_1078), (ce_i1024 y ob_sums f_1128), (ce_X6 o1 o1_town o1_code o1_debts o1_deeds o1_knows o1_day o1_paid o1_follows), (ce_X7 o1_town o1_town_houses o1_town_fresh o1_town_introducers o1_town_x o1_town_y o1_town_rank o1_town_weekday o1_town_from o1_town_to o1_town_came o1_town_bride o1_town_told), (ce_i16 y o1_town_x fo1_town_x), (ce_i16 y o1_town_y fo1_town_y), (ce_i16 y o1_town_weekday fo1_town_weekday), (ce_i16 y o1_town_from fo1_town_from), (ce_i16 y o1_town_to fo1_town_to), (ce_X1 o1_debts o1_debts_size o1_debts_debtor o1_debts_creditor o1_debts_kind o1_debts_due o1_debts_came o1_debts_open o1_debts_kinds), (ce_i600 y o1_debts_debtor fo1_debts_debtor), (ce_i600 y o1_debts_creditor fo1_debts_creditor), (ce_i600 y o1_debts_due fo1_debts_due), (ce_i16 y o1_debts_open fo1_debts_open), (ce_i256 y o1_debts_kinds fo1_debts_kinds)] := ⟨hP, hD⟩
      refine lv_aload_n hx hb dX4_fewestDays_96 rfl (lv_at hl 2 rfl) ?_
      refine lv_iload hx hb dX4_fewestDays_97 (lv_at hl 0 rfl) ?_
      refine cVim (As := [.int v_1127]) (rest := [.int v_1145, .int v_1011, .ref ob]) ⟨hx, hb, hml, hown, hw0⟩ hA hK hP hD hS [true, false, true] (sX4_inTime l G y _ ob v_1127 0 ob_bestWorth ob_bestOver ob_length ob_order a2 ob_weekday v_1002 ob_spot ob_deadline ob_opens ob_closes ob_stays ob_apart ob_minute ob_soonest ob_sums f_1004 (bw (0) (1) (bkc (x := 0) (c := 0) (by decide)) (by decide)) p_ob_length bv_1002) rfl ⟨(callB_of 1 hw0 (gA m_892) rfl rfl rfl (hw0 _ m_839) (hw0 _ m_879) cb_X4_inTime ⟨Nat.le_of_ble_eq_true rfl, Nat.le_of_ble_eq_true rfl⟩), (hw0 _ m_880), (hw0 _ m_881)⟩ (ci := 4) (q := (RX4, TX4, 17)) rfl rfl rfl hl.1 (Nat.le_of_ble_eq_true rfl) dX4_fewestDays_99 ⟨Nat.le_of_ble_eq_true rfl, Nat.le_of_ble_eq_true rfl⟩ (fun r_1146 w_1146 H locs hw_1146 hP hD hS => ?_)
      obtain ⟨v_1147, bv_1147, er_1146, rfl⟩ := hw_1146
      subst r_1146
      obtain ⟨hP, hD⟩ : vPD G A H [(ce_X4 ob 0 ob_bestWorth ob_bestOver ob_length ob_order a2 ob_weekday v_1002 ob_spot ob_deadline ob_opens ob_closes ob_stays ob_apart ob_minute ob_soonest ob_sums), (ce_i10 y ob_spot f_1003), (ce_i10 y ob_deadline f_1004), (ce_i16 y ob_opens f_1006), (ce_i16 y ob_closes f_1007), (ce_i16 y ob_stays f_1008), (ce_i256 y ob_apart f_1009), (ce_i10240 y ob_minute f_1077), (ce_i1024 y ob_soonest f_1078), (ce_i1024 y ob_sums f_1128), (ce_X6 o1 o1_town o1_code o1_debts o1_deeds o1_knows o1_day o1_paid o1_follows), (ce_X7 o1_town o1_town_houses o1_town_fresh o1_town_introducers o1_town_x o1_town_y o1_town_rank o1_town_weekday o1_town_from o1_town_to o1_town_came o1_town_bride o1_town_told), (ce_i16 y o1_town_x fo1_town_x), (ce_i16 y o1_town_y fo1_town_y), (ce_i16 y o1_town_weekday fo1_town_weekday), (ce_i16 y o1_town_from fo1_town_from), (ce_i16 y o1_town_to fo1_town_to), (ce_X1 o1_debts o1_debts_size o1_debts_debtor o1_debts_creditor o1_debts_kind o1_debts_due o1_debts_came o1_debts_open o1_debts_kinds), (ce_i600 y o1_debts_debtor fo1_debts_debtor), (ce_i600 y o1_debts_creditor fo1_debts_creditor), (ce_i600 y o1_debts_due fo1_debts_due), (ce_i16 y o1_debts_open fo1_debts_open), (ce_i256 y o1_debts_kinds fo1_debts_kinds)] := ⟨hP, hD⟩
      refine lv_iand hx hb dX4_fewestDays_102 ?_
      refine lv_topi (fun v_1148 ev_1148 => ?_)
      have bv_1148 : (0 : Int) ≤ v_1148.toInt ∧ v_1148.toInt ≤ 2147483647 := ba_andl ev_1148 bv_1145 (by decide)
      refine cVvm (As := [.int v_1011, .int v_1148]) (rest := []) ⟨hx, hb, hml, hown, hw0⟩ hA hK hP hD hS [true, false, false, false, false, false, false, false, true, true] (sX4_addDay l G y _ ob v_1011 v_1148 0 ob_bestWorth ob_bestOver ob_length ob_order a2 ob_weekday v_1002 ob_spot ob_deadline ob_opens ob_closes ob_stays ob_apart ob_minute ob_soonest ob_sums f_1078 f_1128 (bw (0) (1) (bkc (x := 0) (c := 0) (by decide)) (by decide)) p_ob_length bv_1002 nc_1074.1) rfl ⟨(callB_of 2 hw0 (gA m_821) rfl rfl rfl (hw0 _ m_839) (hw0 _ m_882) cb_X4_addDay ⟨Nat.le_of_ble_eq_true rfl, Nat.le_of_ble_eq_true rfl⟩), (hw0 _ m_883), (hw0 _ m_884)⟩ (ci := 4) (q := (RX4, TX4, 17)) rfl rfl rfl hl.1 (Nat.le_of_ble_eq_true rfl) dX4_fewestDays_103 ⟨Nat.le_of_ble_eq_true rfl, Nat.le_of_ble_eq_true rfl⟩ (fun w_1149 H locs hw_1149 hP hD hS => ?_)
      obtain ⟨f_1150, rfl⟩ := hw_1149
      obtain ⟨hP, hD⟩ : vPD G A H [(ce_X4 ob 0 ob_bestWorth ob_bestOver ob_length ob_order a2 ob_weekday v_1002 ob_spot ob_deadline ob_opens ob_closes ob_stays ob_apart ob_minute ob_soonest ob_sums), (ce_i10 y ob_spot f_1003), (ce_i10 y ob_deadline f_1004), (ce_i16 y ob_opens f_1006), (ce_i16 y ob_closes f_1007), (ce_i16 y ob_stays f_1008), (ce_i256 y ob_apart f_1009), (ce_i10240 y ob_minute f_1077), (ce_i1024 y ob_soonest f_1078), (ce_i1024 y ob_sums f_1150), (ce_X6 o1 o1_town o1_code o1_debts o1_deeds o1_knows o1_day o1_paid o1_follows), (ce_X7 o1_town o1_town_houses o1_town_fresh o1_town_introducers o1_town_x o1_town_y o1_town_rank o1_town_weekday o1_town_from o1_town_to o1_town_came o1_town_bride o1_town_told), (ce_i16 y o1_town_x fo1_town_x), (ce_i16 y o1_town_y fo1_town_y), (ce_i16 y o1_town_weekday fo1_town_weekday), (ce_i16 y o1_town_from fo1_town_from), (ce_i16 y o1_town_to fo1_town_to), (ce_X1 o1_debts o1_debts_size o1_debts_debtor o1_debts_creditor o1_debts_kind o1_debts_due o1_debts_came o1_debts_open o1_debts_kinds), (ce_i600 y o1_debts_debtor fo1_debts_debtor), (ce_i600 y o1_debts_creditor fo1_debts_creditor), (ce_i600 y o1_debts_due fo1_debts_due), (ce_i16 y o1_debts_open fo1_debts_open), (ce_i256 y o1_debts_kinds fo1_debts_kinds)] := ⟨hP, hD⟩
      obtain ⟨v_1151, ev_1151⟩ : ∃ z : Int32, z = v_1127 + 1 := ⟨_, rfl⟩
      have qv_1151 := ba_add ev_1151 nc_1140.1 (bkc (x := 1) (c := 1) (by decide)) (by decide)
      have bv_1151 : (1 : Int) ≤ v_1151.toInt ∧ v_1151.toInt ≤ 406 := bq_add qv_1151 nc_1140.1 (bkc (x := 1) (c := 1) (by decide)) _ _ (by decide)
      have qv_1151 : v_1151.toInt = v_1127.toInt + (1) := qv_1151
      refine lv_iinc (v := v_1151) (lv' := [(4, .int v_1151), (3, .int v_1011), (0, .ref ob), (1, .ref o1)]) hx hb dX4_fewestDays_106 hl (k := 0) rfl (ev_1151.symm) (by decide) rfl (fun ls hl => ?_)
      refine lv_goto (tgt := 75) hx hb dX4_fewestDays_109 (by decide) ?_
      exact ih_1138 _ (ml_inc (hi := 406) hn_1138 qv_1151 (by decide) ((bw (0) (406) bv_1151 (by decide))).2) _ _ _ _ ⟨v_1151, f_1150, rfl, (bw (0) (406) bv_1151 (by decide)), rfl, ⟨hP, hD⟩, hS, lv_sub hl [0, 1, 2, 3] rfl⟩
  · skip
    have nc_1074 := nb_nlt (1023) (1) c_1074 bv_1069 bv_1011 (by decide)
    refine lv_aload_n hx hb dX4_fewestDays_40 rfl (lv_at hl 2 rfl) ?_
    refine va_get (D := G) (ci := 4) (v := .ref ob_sums) (C := RX4) (T := TX4) (N := 17) hx hb hw0 inA_wsX40 hown hK.1 hP 0 rfl rfl 16 (by decide) (hw0 _ m_823) (fun _ h9 => h9) rfl dX4_fewestDays_41 ?_
    refine lv_iload hx hb dX4_fewestDays_44 (lv_at hl 0 rfl) ?_
    refine lv_sipush (v := 1000) hx hb dX4_fewestDays_46 (by decide) ?_
    refine va_iast hx hb hK.1 hP hD hS 9 1 rfl rfl (vi nc_1074.1 (by decide)) dX4_fewestDays_49 (fun H locs hP hD hS => ?_)
    generalize hf_1152 : (upd f_1070 (v_1069 : Int32).toNatClampNeg 1000) = f_1152 at hP hD
    obtain ⟨hP, hD⟩ : vPD G A H [(ce_X4 ob 0 ob_bestWorth ob_bestOver ob_length ob_order a2 ob_weekday v_1002 ob_spot ob_deadline ob_opens ob_closes ob_stays ob_apart ob_minute ob_soonest ob_sums), (ce_i10 y ob_spot f_1003), (ce_i10 y ob_deadline f_1004), (ce_i16 y ob_opens f_1006), (ce_i16 y ob_closes f_1007), (ce_i16 y ob_stays f_1008), (ce_i256 y ob_apart f_1009), (ce_i10240 y ob_minute fob_minute), (ce_i1024 y ob_soonest fob_soonest), (ce_i1024 y ob_sums f_1152), (ce_X6 o1 o1_town o1_code o1_debts o1_deeds o1_knows o1_day o1_paid o1_follows), (ce_X7 o1_town o1_town_houses o1_town_fresh o1_town_introducers o1_town_x o1_town_y o1_town_rank o1_town_weekday o1_town_from o1_town_to o1_town_came o1_town_bride o1_town_told), (ce_i16 y o1_town_x fo1_town_x), (ce_i16 y o1_town_y fo1_town_y), (ce_i16 y o1_town_weekday fo1_town_weekday), (ce_i16 y o1_town_from fo1_town_from), (ce_i16 y o1_town_to fo1_town_to), (ce_X1 o1_debts o1_debts_size o1_debts_debtor o1_debts_creditor o1_debts_kind o1_debts_due o1_debts_came o1_debts_open o1_debts_kinds), (ce_i600 y o1_debts_debtor fo1_debts_debtor), (ce_i600 y o1_debts_creditor fo1_debts_creditor), (ce_i600 y o1_debts_due fo1_debts_due), (ce_i16 y o1_debts_open fo1_debts_open), (ce_i256 y o1_debts_kinds fo1_debts_kinds)] := ⟨hP, hD⟩
    obtain ⟨v_1153, ev_1153⟩ : ∃ z : Int32, z = v_1069 + 1 := ⟨_, rfl⟩
    have qv_1153 := ba_add ev_1153 nc_1074.1 (bkc (x := 1) (c := 1) (by decide)) (by decide)
    have bv_1153 : (2 : Int) ≤ v_1153.toInt ∧ v_1153.toInt ≤ 1024 := bq_add qv_1153 nc_1074.1 (bkc (x := 1) (c := 1) (by decide)) _ _ (by decide)
    have qv_1153 : v_1153.toInt = v_1069.toInt + (1) := qv_1153
    refine lv_iinc (v := v_1153) (lv' := [(4, .int v_1153), (3, .int v_1011), (0, .ref ob), (1, .ref o1), (2, .int a2)]) hx hb dX4_fewestDays_50 hl (k := 0) rfl (ev_1153.symm) (by decide) rfl (fun ls hl => ?_)
    refine lv_goto (tgt := 34) hx hb dX4_fewestDays_53 (by decide) ?_
    exact ih_1073 _ (ml_inc (hi := 1024) hn_1073 qv_1153 (by decide) ((bw (1) (1024) bv_1153 (by decide))).2) _ _ _ _ ⟨v_1153, f_1152, rfl, (bw (1) (1024) bv_1153 (by decide)), rfl, ⟨hP, hD⟩, hS, lv_sub hl [0, 1, 2, 3, 4] rfl⟩

set_option maxHeartbeats 4000000 in
set_option maxRecDepth 100000 in
theorem sX4_canBeSeen (l : Launch) (G : va_G) (y : Nat → ClassId) (sz : Nat) (ob : Nat) (o1 : Nat) (a2 : Int32) (a3 : Int32) (a4 : Int32) (ob_planned : Int32) (ob_bestWorth : Int32) (ob_bestOver : Int32) (ob_length : Int32) (ob_order : Nat) (ob_owner : Int32) (ob_weekday : Int32) (ob_spots : Int32) (ob_spot : Nat) (ob_deadline : Nat) (ob_opens : Nat) (ob_closes : Nat) (ob_stays : Nat) (ob_apart : Nat) (ob_minute : Nat) (ob_soonest : Nat) (ob_sums : Nat) (fob_opens : Nat → Int32) (fob_closes : Nat → Int32) (fob_stays : Nat → Int32) (o1_town : Nat) (o1_code : Nat) (o1_debts : Nat) (o1_deeds : Nat) (o1_knows : Nat) (o1_day : Int32) (o1_paid : Int32) (o1_follows : Nat) (o1_town_houses : Int32) (o1_town_fresh : Int32) (o1_town_introducers : Int32) (o1_town_x : Nat) (o1_town_y : Nat) (o1_town_rank : Nat) (o1_town_weekday : Nat) (o1_town_from : Nat) (o1_town_to : Nat) (o1_town_came : Nat) (o1_town_bride : Nat) (o1_town_told : Nat) (fo1_town_x : Nat → Int32) (fo1_town_y : Nat → Int32) (fo1_town_weekday : Nat → Int32) (fo1_town_from : Nat → Int32) (fo1_town_to : Nat → Int32) (o1_debts_size : Int32) (o1_debts_debtor : Nat) (o1_debts_creditor : Nat) (o1_debts_kind : Nat) (o1_debts_due : Nat) (o1_debts_came : Nat) (o1_debts_open : Nat) (o1_debts_kinds : Nat) (fo1_debts_kinds : Nat → Int32) (p_ob_planned : (0 : Int) ≤ ob_planned.toInt ∧ ob_planned.toInt ≤ 1) (p_ob_length : (0 : Int) ≤ ob_length.toInt ∧ ob_length.toInt ≤ 10) (p_ob_spots : (0 : Int) ≤ ob_spots.toInt ∧ ob_spots.toInt ≤ 10) (p_o1_town_houses : (0 : Int) ≤ o1_town_houses.toInt ∧ o1_town_houses.toInt ≤ 16) (p_o1_debts_size : (0 : Int) ≤ o1_debts_size.toInt ∧ o1_debts_size.toInt ≤ 600) (p_o1_day : (0 : Int) ≤ o1_day.toInt ∧ o1_day.toInt ≤ 399) (p_a2 : (0 : Int) ≤ a2.toInt ∧ a2.toInt ≤ 15) (p_a3 : (0 : Int) ≤ a3.toInt ∧ a3.toInt ≤ 15) : Met l yX4_canBeSeen (Cond.code yX4_canBeSeen cX4_canBeSeen 6 (some .boolean) :: wAll) ({ frames := 3, cells := 0, slots := 0, locals := 68 }) (va_Pc [.ref ob, .ref o1, .int a2, .int a3, .int a4] (kp G y sz [(ce_X4 ob ob_planned ob_bestWorth ob_bestOver ob_length ob_order ob_owner ob_weekday ob_spots ob_spot ob_deadline ob_opens ob_closes ob_stays ob_apart ob_minute ob_soonest ob_sums), (ce_i16 y ob_opens fob_opens), (ce_i16 y ob_closes fob_closes), (ce_i16 y ob_stays fob_stays), (ce_X6 o1 o1_town o1_code o1_debts o1_deeds o1_knows o1_day o1_paid o1_follows), (ce_X7 o1_town o1_town_houses o1_town_fresh o1_town_introducers o1_town_x o1_town_y o1_town_rank o1_town_weekday o1_town_from o1_town_to o1_town_came o1_town_bride o1_town_told), (ce_i16 y o1_town_x fo1_town_x), (ce_i16 y o1_town_y fo1_town_y), (ce_i16 y o1_town_weekday fo1_town_weekday), (ce_i16 y o1_town_from fo1_town_from), (ce_i16 y o1_town_to fo1_town_to), (ce_X1 o1_debts o1_debts_size o1_debts_debtor o1_debts_creditor o1_debts_kind o1_debts_due o1_debts_came o1_debts_open o1_debts_kinds), (ce_i256 y o1_debts_kinds fo1_debts_kinds)])) (va_Qi (fun (r : Int32) (w : va_W) => (∃ (f_143 : Nat → Int32) (f_144 : Nat → Int32) (f_145 : Nat → Int32), r = 0 ∧ w = [(ce_X4 ob ob_planned ob_bestWorth ob_bestOver ob_length ob_order ob_owner ob_weekday ob_spots ob_spot ob_deadline ob_opens ob_closes ob_stays ob_apart ob_minute ob_soonest ob_sums), (ce_i16 y ob_opens f_143), (ce_i16 y ob_closes f_144), (ce_i16 y ob_stays f_145), (ce_X6 o1 o1_town o1_code o1_debts o1_deeds o1_knows o1_day o1_paid o1_follows), (ce_X7 o1_town o1_town_houses o1_town_fresh o1_town_introducers o1_town_x o1_town_y o1_town_rank o1_town_weekday o1_town_from o1_town_to o1_town_came o1_town_bride o1_town_told), (ce_i16 y o1_town_x fo1_town_x), (ce_i16 y o1_town_y fo1_town_y), (ce_i16 y o1_town_weekday fo1_town_weekday), (ce_i16 y o1_town_from fo1_town_from), (ce_i16 y o1_town_to fo1_town_to), (ce_X1 o1_debts o1_debts_size o1_debts_debtor o1_debts_creditor o1_debts_kind o1_debts_due o1_debts_came o1_debts_open o1_debts_kinds), (ce_i256 y o1_debts_kinds fo1_debts_kinds)]) ∨ (∃ (f_146 : Nat → Int32) (f_147 : Nat → Int32) (f_148 : Nat → Int32), r = 1 ∧ w = [(ce_X4 ob ob_planned ob_bestWorth ob_bestOver ob_length ob_order ob_owner ob_weekday ob_spots ob_spot ob_deadline ob_opens ob_closes ob_stays ob_apart ob_minute ob_soonest ob_sums), (ce_i16 y ob_opens f_146), (ce_i16 y ob_closes f_147), (ce_i16 y ob_stays f_148), (ce_X6 o1 o1_town o1_code o1_debts o1_deeds o1_knows o1_day o1_paid o1_follows), (ce_X7 o1_town o1_town_houses o1_town_fresh o1_town_introducers o1_town_x o1_town_y o1_town_rank o1_town_weekday o1_town_from o1_town_to o1_town_came o1_town_bride o1_town_told), (ce_i16 y o1_town_x fo1_town_x), (ce_i16 y o1_town_y fo1_town_y), (ce_i16 y o1_town_weekday fo1_town_weekday), (ce_i16 y o1_town_from fo1_town_from), (ce_i16 y o1_town_to fo1_town_to), (ce_X1 o1_debts o1_debts_size o1_debts_debtor o1_debts_creditor o1_debts_kind o1_debts_due o1_debts_came o1_debts_open o1_debts_kinds), (ce_i256 y o1_debts_kinds fo1_debts_kinds)])) (kq G (va_A [(ce_X4 ob ob_planned ob_bestWorth ob_bestOver ob_length ob_order ob_owner ob_weekday ob_spots ob_spot ob_deadline ob_opens ob_closes ob_stays ob_apart ob_minute ob_soonest ob_sums), (ce_i16 y ob_opens fob_opens), (ce_i16 y ob_closes fob_closes), (ce_i16 y ob_stays fob_stays), (ce_X6 o1 o1_town o1_code o1_debts o1_deeds o1_knows o1_day o1_paid o1_follows), (ce_X7 o1_town o1_town_houses o1_town_fresh o1_town_introducers o1_town_x o1_town_y o1_town_rank o1_town_weekday o1_town_from o1_town_to o1_town_came o1_town_bride o1_town_told), (ce_i16 y o1_town_x fo1_town_x), (ce_i16 y o1_town_y fo1_town_y), (ce_i16 y o1_town_weekday fo1_town_weekday), (ce_i16 y o1_town_from fo1_town_from), (ce_i16 y o1_town_to fo1_town_to), (ce_X1 o1_debts o1_debts_size o1_debts_debtor o1_debts_creditor o1_debts_kind o1_debts_due o1_debts_came o1_debts_open o1_debts_kinds), (ce_i256 y o1_debts_kinds fo1_debts_kinds)] sz)) (va_A [(ce_X4 ob ob_planned ob_bestWorth ob_bestOver ob_length ob_order ob_owner ob_weekday ob_spots ob_spot ob_deadline ob_opens ob_closes ob_stays ob_apart ob_minute ob_soonest ob_sums), (ce_i16 y ob_opens fob_opens), (ce_i16 y ob_closes fob_closes), (ce_i16 y ob_stays fob_stays), (ce_X6 o1 o1_town o1_code o1_debts o1_deeds o1_knows o1_day o1_paid o1_follows), (ce_X7 o1_town o1_town_houses o1_town_fresh o1_town_introducers o1_town_x o1_town_y o1_town_rank o1_town_weekday o1_town_from o1_town_to o1_town_came o1_town_bride o1_town_told), (ce_i16 y o1_town_x fo1_town_x), (ce_i16 y o1_town_y fo1_town_y), (ce_i16 y o1_town_weekday fo1_town_weekday), (ce_i16 y o1_town_from fo1_town_from), (ce_i16 y o1_town_to fo1_town_to), (ce_X1 o1_debts o1_debts_size o1_debts_debtor o1_debts_creditor o1_debts_kind o1_debts_due o1_debts_came o1_debts_open o1_debts_kinds), (ce_i256 y o1_debts_kinds fo1_debts_kinds)] sz)) 0 0 (va_A [(ce_X4 ob ob_planned ob_bestWorth ob_bestOver ob_length ob_order ob_owner ob_weekday ob_spots ob_spot ob_deadline ob_opens ob_closes ob_stays ob_apart ob_minute ob_soonest ob_sums), (ce_i16 y ob_opens fob_opens), (ce_i16 y ob_closes fob_closes), (ce_i16 y ob_stays fob_stays), (ce_X6 o1 o1_town o1_code o1_debts o1_deeds o1_knows o1_day o1_paid o1_follows), (ce_X7 o1_town o1_town_houses o1_town_fresh o1_town_introducers o1_town_x o1_town_y o1_town_rank o1_town_weekday o1_town_from o1_town_to o1_town_came o1_town_bride o1_town_told), (ce_i16 y o1_town_x fo1_town_x), (ce_i16 y o1_town_y fo1_town_y), (ce_i16 y o1_town_weekday fo1_town_weekday), (ce_i16 y o1_town_from fo1_town_from), (ce_i16 y o1_town_to fo1_town_to), (ce_X1 o1_debts o1_debts_size o1_debts_debtor o1_debts_creditor o1_debts_kind o1_debts_due o1_debts_came o1_debts_open o1_debts_kinds), (ce_i256 y o1_debts_kinds fo1_debts_kinds)] sz) := by
  refine Met.ofW (cc := cX4_canBeSeen) (maxL := 6) (ret := (some .boolean)) (by decide) rfl ?_
  intro p e s m args below meth c s₁ B hml hv
  obtain ⟨rfl, hsz, hP, hK, hD0⟩ := hv
  have hx := B.exec
  have hb := B.bytes
  have hr := B.returns
  have hw0 : ∀ w ∈ wAll, w.before _ s = true := fun w h => atoms_spec (ws := Cond.code yX4_canBeSeen cX4_canBeSeen 6 (some .boolean) :: wAll) B.pre w (List.mem_cons_of_mem _ h)
  have hown : s.vm.findClass RX4 = some m.cls := findClass_of_methodNamed B.named
  subst hsz
  have hD := hD0.self (sz := s.heap.size)
  generalize hAe : va_A [(ce_X4 ob ob_planned ob_bestWorth ob_bestOver ob_length ob_order ob_owner ob_weekday ob_spots ob_spot ob_deadline ob_opens ob_closes ob_stays ob_apart ob_minute ob_soonest ob_sums), (ce_i16 y ob_opens fob_opens), (ce_i16 y ob_closes fob_closes), (ce_i16 y ob_stays fob_stays), (ce_X6 o1 o1_town o1_code o1_debts o1_deeds o1_knows o1_day o1_paid o1_follows), (ce_X7 o1_town o1_town_houses o1_town_fresh o1_town_introducers o1_town_x o1_town_y o1_town_rank o1_town_weekday o1_town_from o1_town_to o1_town_came o1_town_bride o1_town_told), (ce_i16 y o1_town_x fo1_town_x), (ce_i16 y o1_town_y fo1_town_y), (ce_i16 y o1_town_weekday fo1_town_weekday), (ce_i16 y o1_town_from fo1_town_from), (ce_i16 y o1_town_to fo1_town_to), (ce_X1 o1_debts o1_debts_size o1_debts_debtor o1_debts_creditor o1_debts_kind o1_debts_due o1_debts_came o1_debts_open o1_debts_kinds), (ce_i256 y o1_debts_kinds fo1_debts_kinds)] s.heap.size = A at hD ⊢
  have hA : ∀ q : Nat, s.heap.size ≤ q → A q := fun q h => by rw [← hAe]; exact Or.inr h
  have hS : va_S A s.heap s.heap [] := va_S.rf
  have hP : va_P G vwCl [(ce_X4 ob ob_planned ob_bestWorth ob_bestOver ob_length ob_order ob_owner ob_weekday ob_spots ob_spot ob_deadline ob_opens ob_closes ob_stays ob_apart ob_minute ob_soonest ob_sums), (ce_i16 y ob_opens fob_opens), (ce_i16 y ob_closes fob_closes), (ce_i16 y ob_stays fob_stays), (ce_X6 o1 o1_town o1_code o1_debts o1_deeds o1_knows o1_day o1_paid o1_follows), (ce_X7 o1_town o1_town_houses o1_town_fresh o1_town_introducers o1_town_x o1_town_y o1_town_rank o1_town_weekday o1_town_from o1_town_to o1_town_came o1_town_bride o1_town_told), (ce_i16 y o1_town_x fo1_town_x), (ce_i16 y o1_town_y fo1_town_y), (ce_i16 y o1_town_weekday fo1_town_weekday), (ce_i16 y o1_town_from fo1_town_from), (ce_i16 y o1_town_to fo1_town_to), (ce_X1 o1_debts o1_debts_size o1_debts_debtor o1_debts_creditor o1_debts_kind o1_debts_due o1_debts_came o1_debts_open o1_debts_kinds), (ce_i256 y o1_debts_kinds fo1_debts_kinds)] s.heap := hP
  have hl := lv_entry ([.ref ob, .ref o1, .int a2, .int a3, .int a4]) (n := 6) (Nat.le_of_ble_eq_true rfl)
  rw [lg_entry_eq]
  generalize (lg_sl ([.ref ob, .ref o1, .int a2, .int a3, .int a4]) ++ List.replicate (6 - (lg_sl ([.ref ob, .ref o1, .int a2, .int a3, .int a4])).length) Slot.unset).toArray = ls at hl ⊢
  have hl : lv_has ls 6 [(0, .ref ob), (1, .ref o1), (2, .int a2), (3, .int a3), (4, .int a4)] := hl
  refine lv_aload_n hx hb dX4_canBeSeen_0 rfl (lv_at hl 0 rfl) ?_
  refine lv_aload_n hx hb dX4_canBeSeen_1 rfl (lv_at hl 1 rfl) ?_
  refine lv_iload_n hx hb dX4_canBeSeen_2 rfl (lv_at hl 2 rfl) ?_
  refine lv_iload_n hx hb dX4_canBeSeen_3 rfl (lv_at hl 3 rfl) ?_
  refine cVvm (As := [.ref o1, .int a2, .int a3]) (rest := []) ⟨hx, hb, hml, hown, hw0⟩ hA hK hP hD hS [true, true, true, true, true, true, false, false, false, true, true, true, true] (sX4_lookAt l G y _ ob o1 a2 a3 ob_planned ob_bestWorth ob_bestOver ob_length ob_order ob_owner ob_weekday ob_spots ob_spot ob_deadline ob_opens ob_closes ob_stays ob_apart ob_minute ob_soonest ob_sums fob_opens fob_closes fob_stays o1_town o1_code o1_debts o1_deeds o1_knows o1_day o1_paid o1_follows o1_town_houses o1_town_fresh o1_town_introducers o1_town_x o1_town_y o1_town_rank o1_town_weekday o1_town_from o1_town_to o1_town_came o1_town_bride o1_town_told fo1_town_from fo1_town_to o1_debts_size o1_debts_debtor o1_debts_creditor o1_debts_kind o1_debts_due o1_debts_came o1_debts_open o1_debts_kinds fo1_debts_kinds p_ob_planned p_ob_length p_ob_spots p_o1_town_houses p_o1_debts_size p_o1_day p_a2 p_a3) rfl ⟨(callB_of 3 hw0 (gA m_907) rfl rfl rfl (hw0 _ m_839) (hw0 _ m_842) cb_X4_lookAt ⟨Nat.le_of_ble_eq_true rfl, Nat.le_of_ble_eq_true rfl⟩), (hw0 _ m_843), (hw0 _ m_844)⟩ (ci := 4) (q := (RX4, TX4, 17)) rfl rfl rfl hl.1 (Nat.le_of_ble_eq_true rfl) dX4_canBeSeen_4 ⟨Nat.le_of_ble_eq_true rfl, Nat.le_of_ble_eq_true rfl⟩ (fun w_1001 H locs hw_1001 hP hD hS => ?_)
  obtain ⟨f_1002, f_1003, f_1004, rfl⟩ := hw_1001
  obtain ⟨hP, hD⟩ : vPD G A H [(ce_X4 ob ob_planned ob_bestWorth ob_bestOver ob_length ob_order ob_owner ob_weekday ob_spots ob_spot ob_deadline ob_opens ob_closes ob_stays ob_apart ob_minute ob_soonest ob_sums), (ce_i16 y ob_opens f_1002), (ce_i16 y ob_closes f_1003), (ce_i16 y ob_stays f_1004), (ce_X6 o1 o1_town o1_code o1_debts o1_deeds o1_knows o1_day o1_paid o1_follows), (ce_X7 o1_town o1_town_houses o1_town_fresh o1_town_introducers o1_town_x o1_town_y o1_town_rank o1_town_weekday o1_town_from o1_town_to o1_town_came o1_town_bride o1_town_told), (ce_i16 y o1_town_x fo1_town_x), (ce_i16 y o1_town_y fo1_town_y), (ce_i16 y o1_town_weekday fo1_town_weekday), (ce_i16 y o1_town_from fo1_town_from), (ce_i16 y o1_town_to fo1_town_to), (ce_X1 o1_debts o1_debts_size o1_debts_debtor o1_debts_creditor o1_debts_kind o1_debts_due o1_debts_came o1_debts_open o1_debts_kinds), (ce_i256 y o1_debts_kinds fo1_debts_kinds)] := ⟨hP, hD⟩
  refine lv_aload_n hx hb dX4_canBeSeen_7 rfl (lv_at hl 0 rfl) ?_
  refine lv_iload_n hx hb dX4_canBeSeen_8 rfl (lv_at hl 3 rfl) ?_
  refine lv_aload_n hx hb dX4_canBeSeen_9 rfl (lv_at hl 1 rfl) ?_
  refine va_get (D := G) (ci := 6) (v := .ref o1_town) (C := RX6) (T := TX6) (N := 8) hx hb hw0 inA_wsX60 hown hK.1 hP 4 rfl rfl 0 (by decide) (hw0 _ m_845) (fun _ h9 => h9) rfl dX4_canBeSeen_10 ?_
  refine lv_iload_n hx hb dX4_canBeSeen_13 rfl (lv_at hl 2 rfl) ?_
  refine lv_iload_n hx hb dX4_canBeSeen_14 rfl (lv_at hl 3 rfl) ?_
  refine cVim (As := [.int a2, .int a3]) (rest := [.int a3, .ref ob]) ⟨hx, hb, hml, hown, hw0⟩ hA hK hP hD hS [false, false, false, false, false, true, true, true] (sX7_minutes l G y _ o1_town a2 a3 o1_town_houses o1_town_fresh o1_town_introducers o1_town_x o1_town_y o1_town_rank o1_town_weekday o1_town_from o1_town_to o1_town_came o1_town_bride o1_town_told fo1_town_x fo1_town_y p_o1_town_houses p_a2 p_a3) rfl ⟨(callB_of 2 hw0 (gA m_1082) rfl rfl rfl (hw0 _ m_746) (hw0 _ m_846) cb_X7_minutes ⟨Nat.le_of_ble_eq_true rfl, Nat.le_of_ble_eq_true rfl⟩), (hw0 _ m_847), (hw0 _ m_848)⟩ (ci := 7) (q := (RX7, TX7, 12)) rfl rfl rfl hl.1 (Nat.le_of_ble_eq_true rfl) dX4_canBeSeen_15 ⟨Nat.le_of_ble_eq_true rfl, Nat.le_of_ble_eq_true rfl⟩ (fun r_1005 w_1005 H locs hw_1005 hP hD hS => ?_)
  obtain ⟨v_1006, er_1005, rfl⟩ := hw_1005
  subst r_1005
  obtain ⟨hP, hD⟩ : vPD G A H [(ce_X4 ob ob_planned ob_bestWorth ob_bestOver ob_length ob_order ob_owner ob_weekday ob_spots ob_spot ob_deadline ob_opens ob_closes ob_stays ob_apart ob_minute ob_soonest ob_sums), (ce_i16 y ob_opens f_1002), (ce_i16 y ob_closes f_1003), (ce_i16 y ob_stays f_1004), (ce_X6 o1 o1_town o1_code o1_debts o1_deeds o1_knows o1_day o1_paid o1_follows), (ce_X7 o1_town o1_town_houses o1_town_fresh o1_town_introducers o1_town_x o1_town_y o1_town_rank o1_town_weekday o1_town_from o1_town_to o1_town_came o1_town_bride o1_town_told), (ce_i16 y o1_town_x fo1_town_x), (ce_i16 y o1_town_y fo1_town_y), (ce_i16 y o1_town_weekday fo1_town_weekday), (ce_i16 y o1_town_from fo1_town_from), (ce_i16 y o1_town_to fo1_town_to), (ce_X1 o1_debts o1_debts_size o1_debts_debtor o1_debts_creditor o1_debts_kind o1_debts_due o1_debts_came o1_debts_open o1_debts_kinds), (ce_i256 y o1_debts_kinds fo1_debts_kinds)] := ⟨hP, hD⟩
  refine cVim (As := [.int a3, .int v_1006]) (rest := []) ⟨hx, hb, hml, hown, hw0⟩ hA hK hP hD hS [true, true, true, true] (sX4_seen l G y _ ob a3 v_1006 ob_planned ob_bestWorth ob_bestOver ob_length ob_order ob_owner ob_weekday ob_spots ob_spot ob_deadline ob_opens ob_closes ob_stays ob_apart ob_minute ob_soonest ob_sums f_1002 f_1003 f_1004 p_ob_planned p_ob_length p_ob_spots p_a3) rfl ⟨(callB_of 2 hw0 (gA m_937) rfl rfl rfl (hw0 _ m_839) (hw0 _ m_849) cb_X4_seen ⟨Nat.le_of_ble_eq_true rfl, Nat.le_of_ble_eq_true rfl⟩), (hw0 _ m_850), (hw0 _ m_851)⟩ (ci := 4) (q := (RX4, TX4, 17)) rfl rfl rfl hl.1 (Nat.le_of_ble_eq_true rfl) dX4_canBeSeen_18 ⟨Nat.le_of_ble_eq_true rfl, Nat.le_of_ble_eq_true rfl⟩ (fun r_1007 w_1007 H locs hw_1007 hP hD hS => ?_)
  obtain ⟨v_1008, er_1007, rfl⟩ := hw_1007
  subst r_1007
  obtain ⟨hP, hD⟩ : vPD G A H [(ce_X4 ob ob_planned ob_bestWorth ob_bestOver ob_length ob_order ob_owner ob_weekday ob_spots ob_spot ob_deadline ob_opens ob_closes ob_stays ob_apart ob_minute ob_soonest ob_sums), (ce_i16 y ob_opens f_1002), (ce_i16 y ob_closes f_1003), (ce_i16 y ob_stays f_1004), (ce_X6 o1 o1_town o1_code o1_debts o1_deeds o1_knows o1_day o1_paid o1_follows), (ce_X7 o1_town o1_town_houses o1_town_fresh o1_town_introducers o1_town_x o1_town_y o1_town_rank o1_town_weekday o1_town_from o1_town_to o1_town_came o1_town_bride o1_town_told), (ce_i16 y o1_town_x fo1_town_x), (ce_i16 y o1_town_y fo1_town_y), (ce_i16 y o1_town_weekday fo1_town_weekday), (ce_i16 y o1_town_from fo1_town_from), (ce_i16 y o1_town_to fo1_town_to), (ce_X1 o1_debts o1_debts_size o1_debts_debtor o1_debts_creditor o1_debts_kind o1_debts_due o1_debts_came o1_debts_open o1_debts_kinds), (ce_i256 y o1_debts_kinds fo1_debts_kinds)] := ⟨hP, hD⟩
  refine lv_sipush (v := 1000) hx hb dX4_canBeSeen_21 (by decide) ?_
  refine lv_icmp_lt (tgt := 29) hx hb dX4_canBeSeen_24 (by decide) (fun c_1009 => ?_) (fun c_1009 => ?_)
  · skip
    have nc_1009 := nb_lt (999) (1000) c_1009 (btop v_1008) (bkc (x := 1000) (c := 1000) (by decide)) (by decide)
    refine lv_aload_n hx hb dX4_canBeSeen_29 rfl (lv_at hl 1 rfl) ?_
    refine va_get (D := G) (ci := 6) (v := .int o1_day) (C := RX6) (T := TX6) (N := 8) hx hb hw0 inA_wsX60 hown hK.1 hP 4 rfl rfl 5 (by decide) (hw0 _ m_852) (fun _ h9 => h9) rfl dX4_canBeSeen_30 ?_
    refine lv_istore (lv' := [(5, .int o1_day), (0, .ref ob), (1, .ref o1), (2, .int a2), (3, .int a3), (4, .int a4)]) hx hb dX4_canBeSeen_33 hl (by decide) rfl (fun ls hl => ?_)
    refine loopX (fun n H locs ls st => ∃ (v_1053 : Int32), (406 - v_1053.toInt).toNat = n ∧ ((0 : Int) ≤ v_1053.toInt ∧ v_1053.toInt ≤ 406) ∧ st = [] ∧ vPD G A H [(ce_X4 ob ob_planned ob_bestWorth ob_bestOver ob_length ob_order ob_owner ob_weekday ob_spots ob_spot ob_deadline ob_opens ob_closes ob_stays ob_apart ob_minute ob_soonest ob_sums), (ce_i16 y ob_opens f_1002), (ce_i16 y ob_closes f_1003), (ce_i16 y ob_stays f_1004), (ce_X6 o1 o1_town o1_code o1_debts o1_deeds o1_knows o1_day o1_paid o1_follows), (ce_X7 o1_town o1_town_houses o1_town_fresh o1_town_introducers o1_town_x o1_town_y o1_town_rank o1_town_weekday o1_town_from o1_town_to o1_town_came o1_town_bride o1_town_told), (ce_i16 y o1_town_x fo1_town_x), (ce_i16 y o1_town_y fo1_town_y), (ce_i16 y o1_town_weekday fo1_town_weekday), (ce_i16 y o1_town_from fo1_town_from), (ce_i16 y o1_town_to fo1_town_to), (ce_X1 o1_debts o1_debts_size o1_debts_debtor o1_debts_creditor o1_debts_kind o1_debts_due o1_debts_came o1_debts_open o1_debts_kinds), (ce_i256 y o1_debts_kinds fo1_debts_kinds)] ∧ va_S A s.heap H locs ∧ lv_has ls 6 [(5, .int v_1053), (1, .ref o1), (2, .int a2), (3, .int a3), (4, .int a4)]) ?_ (n := (406 - o1_day.toInt).toNat) ⟨o1_day, rfl, (bw (0) (406) p_o1_day (by decide)), rfl, ⟨hP, hD⟩, hS, lv_sub hl [0, 2, 3, 4, 5] rfl⟩
    rintro n ih_1062 H locs ls st ⟨v_1053, hn_1062, bv_1053, rfl, ⟨hP, hD⟩, hS, hl⟩
    refine lv_iload hx hb dX4_canBeSeen_35 (lv_at hl 0 rfl) ?_
    refine lv_aload_n hx hb dX4_canBeSeen_37 rfl (lv_at hl 1 rfl) ?_
    refine va_get (D := G) (ci := 6) (v := .int o1_day) (C := RX6) (T := TX6) (N := 8) hx hb hw0 inA_wsX60 hown hK.1 hP 4 rfl rfl 5 (by decide) (hw0 _ m_852) (fun _ h9 => h9) rfl dX4_canBeSeen_38 ?_
    refine lv_bipush (v := 7) hx hb dX4_canBeSeen_41 (by decide) ?_
    refine lv_iadd hx hb dX4_canBeSeen_43 ?_
    refine lv_topi (fun v_1063 ev_1063 => ?_)
    have qv_1063 := ba_add ev_1063 p_o1_day (bkc (x := 7) (c := 7) (by decide)) (by decide)
    have bv_1063 : (7 : Int) ≤ v_1063.toInt ∧ v_1063.toInt ≤ 406 := bq_add qv_1063 p_o1_day (bkc (x := 7) (c := 7) (by decide)) _ _ (by decide)
    have qv_1063 : v_1063.toInt = o1_day.toInt + (7) := qv_1063
    refine cutW 73 (fun H locs ls st => st = [] ∧ vPD G A H [(ce_X4 ob ob_planned ob_bestWorth ob_bestOver ob_length ob_order ob_owner ob_weekday ob_spots ob_spot ob_deadline ob_opens ob_closes ob_stays ob_apart ob_minute ob_soonest ob_sums), (ce_i16 y ob_opens f_1002), (ce_i16 y ob_closes f_1003), (ce_i16 y ob_stays f_1004), (ce_X6 o1 o1_town o1_code o1_debts o1_deeds o1_knows o1_day o1_paid o1_follows), (ce_X7 o1_town o1_town_houses o1_town_fresh o1_town_introducers o1_town_x o1_town_y o1_town_rank o1_town_weekday o1_town_from o1_town_to o1_town_came o1_town_bride o1_town_told), (ce_i16 y o1_town_x fo1_town_x), (ce_i16 y o1_town_y fo1_town_y), (ce_i16 y o1_town_weekday fo1_town_weekday), (ce_i16 y o1_town_from fo1_town_from), (ce_i16 y o1_town_to fo1_town_to), (ce_X1 o1_debts o1_debts_size o1_debts_debtor o1_debts_creditor o1_debts_kind o1_debts_due o1_debts_came o1_debts_open o1_debts_kinds), (ce_i256 y o1_debts_kinds fo1_debts_kinds)] ∧ va_S A s.heap H locs ∧ lv_has ls 6 []) ?_ (fun J_73_1067 => ?_)
    · rintro H locs ls st ⟨rfl, ⟨hP, hD⟩, hS, hl⟩
      refine lv_iconst (v := 0) hx hb dX4_canBeSeen_73 (by decide) ?_
      exact W.zret (v := 0) hx hb hr rfl (fun t ht hW => ⟨⟨0, _, rfl, Or.inl (⟨f_1002, f_1003, f_1004, rfl, rfl⟩), by rw [ht]; exact hP, hD⟩, hS.F ht⟩) hS.2.2 dX4_canBeSeen_74
    · skip
      refine lv_icmp_ge (tgt := 73) hx hb dX4_canBeSeen_44 (by decide) (fun c_1068 => ?_) (fun c_1068 => ?_)
      · skip
        have nc_1068 := nb_le (406) (7) c_1068 bv_1063 bv_1053 (by decide)
        exact J_73_1067 _ _ _ _ ⟨rfl, ⟨hP, hD⟩, hS, lv_sub hl [] rfl⟩
      · skip
        have nc_1068 := nb_nle (405) (7) c_1068 bv_1053 bv_1063 (by decide)
        refine lv_iload hx hb dX4_canBeSeen_47 (lv_at hl 0 rfl) ?_
        refine lv_iload hx hb dX4_canBeSeen_49 (lv_at hl 4 rfl) ?_
        refine lv_icmp_gt (tgt := 73) hx hb dX4_canBeSeen_51 (by decide) (fun c_1069 => ?_) (fun c_1069 => ?_)
        · skip
          have nc_1069 := nb_lt (404) (0) c_1069 (btop a4) nc_1068.1 (by decide)
          exact J_73_1067 _ _ _ _ ⟨rfl, ⟨hP, hD⟩, hS, lv_sub hl [] rfl⟩
        · skip
          have nc_1069 := nb_nlt (405) (0) c_1069 nc_1068.1 (btop a4) (by decide)
          refine lv_aload_n hx hb dX4_canBeSeen_54 rfl (lv_at hl 1 rfl) ?_
          refine lv_iload_n hx hb dX4_canBeSeen_55 rfl (lv_at hl 2 rfl) ?_
          refine lv_iload_n hx hb dX4_canBeSeen_56 rfl (lv_at hl 3 rfl) ?_
          refine lv_iload hx hb dX4_canBeSeen_57 (lv_at hl 0 rfl) ?_
          refine cSim (As := [.ref o1, .int a2, .int a3, .int v_1053]) (rest := []) ⟨hx, hb, hml, hown, hw0⟩ hA hK hP hD hS [false, false, false, false, true, true, false, false, true, false, false, true, true] (sX4_isAtHome l G y _ o1 a2 a3 v_1053 o1_town o1_code o1_debts o1_deeds o1_knows o1_day o1_paid o1_follows o1_town_houses o1_town_fresh o1_town_introducers o1_town_x o1_town_y o1_town_rank o1_town_weekday o1_town_from o1_town_to o1_town_came o1_town_bride o1_town_told fo1_town_weekday o1_debts_size o1_debts_debtor o1_debts_creditor o1_debts_kind o1_debts_due o1_debts_came o1_debts_open o1_debts_kinds fo1_debts_kinds p_o1_town_houses p_o1_debts_size p_o1_day p_a2 p_a3 nc_1069.1) rfl ⟨(callB_of 4 hw0 (gA m_900) rfl rfl rfl (hw0 _ m_839) (hw0 _ m_853) cb_X4_isAtHome ⟨Nat.le_of_ble_eq_true rfl, Nat.le_of_ble_eq_true rfl⟩), (hw0 _ m_854)⟩ rfl hl.1 (Nat.le_of_ble_eq_true rfl) dX4_canBeSeen_59 ⟨Nat.le_of_ble_eq_true rfl, Nat.le_of_ble_eq_true rfl⟩ (fun r_1070 w_1070 H locs hw_1070 hP hD hS => ?_)
          rcases hw_1070 with ⟨rfl, rfl⟩ | ⟨rfl, rfl⟩
          · skip
            obtain ⟨hP, hD⟩ : vPD G A H [(ce_X4 ob ob_planned ob_bestWorth ob_bestOver ob_length ob_order ob_owner ob_weekday ob_spots ob_spot ob_deadline ob_opens ob_closes ob_stays ob_apart ob_minute ob_soonest ob_sums), (ce_i16 y ob_opens f_1002), (ce_i16 y ob_closes f_1003), (ce_i16 y ob_stays f_1004), (ce_X6 o1 o1_town o1_code o1_debts o1_deeds o1_knows o1_day o1_paid o1_follows), (ce_X7 o1_town o1_town_houses o1_town_fresh o1_town_introducers o1_town_x o1_town_y o1_town_rank o1_town_weekday o1_town_from o1_town_to o1_town_came o1_town_bride o1_town_told), (ce_i16 y o1_town_x fo1_town_x), (ce_i16 y o1_town_y fo1_town_y), (ce_i16 y o1_town_weekday fo1_town_weekday), (ce_i16 y o1_town_from fo1_town_from), (ce_i16 y o1_town_to fo1_town_to), (ce_X1 o1_debts o1_debts_size o1_debts_debtor o1_debts_creditor o1_debts_kind o1_debts_due o1_debts_came o1_debts_open o1_debts_kinds), (ce_i256 y o1_debts_kinds fo1_debts_kinds)] := ⟨hP, hD⟩
            refine lv_if_eq (tgt := 67) hx hb dX4_canBeSeen_62 (by decide) (fun _ => ?_) (fun c9 => absurd (by decide) c9)
            obtain ⟨v_1071, ev_1071⟩ : ∃ z : Int32, z = v_1053 + 1 := ⟨_, rfl⟩
            have qv_1071 := ba_add ev_1071 nc_1069.1 (bkc (x := 1) (c := 1) (by decide)) (by decide)
            have bv_1071 : (1 : Int) ≤ v_1071.toInt ∧ v_1071.toInt ≤ 406 := bq_add qv_1071 nc_1069.1 (bkc (x := 1) (c := 1) (by decide)) _ _ (by decide)
            have qv_1071 : v_1071.toInt = v_1053.toInt + (1) := qv_1071
            refine lv_iinc (v := v_1071) (lv' := [(5, .int v_1071), (1, .ref o1), (2, .int a2), (3, .int a3), (4, .int a4)]) hx hb dX4_canBeSeen_67 hl (k := 0) rfl (ev_1071.symm) (by decide) rfl (fun ls hl => ?_)
            refine lv_goto (tgt := 35) hx hb dX4_canBeSeen_70 (by decide) ?_
            exact ih_1062 _ (ml_inc (hi := 406) hn_1062 qv_1071 (by decide) ((bw (0) (406) bv_1071 (by decide))).2) _ _ _ _ ⟨v_1071, rfl, (bw (0) (406) bv_1071 (by decide)), rfl, ⟨hP, hD⟩, hS, lv_sub hl [0, 1, 2, 3, 4] rfl⟩
          · skip
            obtain ⟨hP, hD⟩ : vPD G A H [(ce_X4 ob ob_planned ob_bestWorth ob_bestOver ob_length ob_order ob_owner ob_weekday ob_spots ob_spot ob_deadline ob_opens ob_closes ob_stays ob_apart ob_minute ob_soonest ob_sums), (ce_i16 y ob_opens f_1002), (ce_i16 y ob_closes f_1003), (ce_i16 y ob_stays f_1004), (ce_X6 o1 o1_town o1_code o1_debts o1_deeds o1_knows o1_day o1_paid o1_follows), (ce_X7 o1_town o1_town_houses o1_town_fresh o1_town_introducers o1_town_x o1_town_y o1_town_rank o1_town_weekday o1_town_from o1_town_to o1_town_came o1_town_bride o1_town_told), (ce_i16 y o1_town_x fo1_town_x), (ce_i16 y o1_town_y fo1_town_y), (ce_i16 y o1_town_weekday fo1_town_weekday), (ce_i16 y o1_town_from fo1_town_from), (ce_i16 y o1_town_to fo1_town_to), (ce_X1 o1_debts o1_debts_size o1_debts_debtor o1_debts_creditor o1_debts_kind o1_debts_due o1_debts_came o1_debts_open o1_debts_kinds), (ce_i256 y o1_debts_kinds fo1_debts_kinds)] := ⟨hP, hD⟩
            refine lv_if_eq (tgt := 67) hx hb dX4_canBeSeen_62 (by decide) (fun c9 => absurd c9 (by decide)) (fun _ => ?_)
            refine lv_iconst (v := 1) hx hb dX4_canBeSeen_65 (by decide) ?_
            exact W.zret (v := 1) hx hb hr rfl (fun t ht hW => ⟨⟨1, _, rfl, Or.inr (⟨f_1002, f_1003, f_1004, rfl, rfl⟩), by rw [ht]; exact hP, hD⟩, hS.F ht⟩) hS.2.2 dX4_canBeSeen_66
  · skip
    have nc_1009 := nb_nlt (1000) (1000) c_1009 (bkc (x := 1000) (c := 1000) (by decide)) (btop v_1008) (by decide)
    refine lv_iconst (v := 0) hx hb dX4_canBeSeen_27 (by decide) ?_
    exact W.zret (v := 0) hx hb hr rfl (fun t ht hW => ⟨⟨0, _, rfl, Or.inl (⟨f_1002, f_1003, f_1004, rfl, rfl⟩), by rw [ht]; exact hP, hD⟩, hS.F ht⟩) hS.2.2 dX4_canBeSeen_28

set_option maxHeartbeats 4000000 in
set_option maxRecDepth 100000 in
theorem sX4_lostBits (l : Launch) (G : va_G) (y : Nat → ClassId) (sz : Nat) (ob : Nat) (o1 : Nat) (a2 : Int32) (ob_planned : Int32) (ob_bestWorth : Int32) (ob_bestOver : Int32) (ob_length : Int32) (ob_order : Nat) (ob_owner : Int32) (ob_weekday : Int32) (ob_spots : Int32) (ob_spot : Nat) (ob_deadline : Nat) (ob_opens : Nat) (ob_closes : Nat) (ob_stays : Nat) (ob_apart : Nat) (ob_minute : Nat) (ob_soonest : Nat) (ob_sums : Nat) (fob_opens : Nat → Int32) (fob_closes : Nat → Int32) (fob_stays : Nat → Int32) (o1_town : Nat) (o1_code : Nat) (o1_debts : Nat) (o1_deeds : Nat) (o1_knows : Nat) (o1_day : Int32) (o1_paid : Int32) (o1_follows : Nat) (o1_town_houses : Int32) (o1_town_fresh : Int32) (o1_town_introducers : Int32) (o1_town_x : Nat) (o1_town_y : Nat) (o1_town_rank : Nat) (o1_town_weekday : Nat) (o1_town_from : Nat) (o1_town_to : Nat) (o1_town_came : Nat) (o1_town_bride : Nat) (o1_town_told : Nat) (fo1_town_x : Nat → Int32) (fo1_town_y : Nat → Int32) (fo1_town_weekday : Nat → Int32) (fo1_town_from : Nat → Int32) (fo1_town_to : Nat → Int32) (o1_debts_size : Int32) (o1_debts_debtor : Nat) (o1_debts_creditor : Nat) (o1_debts_kind : Nat) (o1_debts_due : Nat) (o1_debts_came : Nat) (o1_debts_open : Nat) (o1_debts_kinds : Nat) (fo1_debts_debtor : Nat → Int32) (fo1_debts_creditor : Nat → Int32) (fo1_debts_due : Nat → Int32) (fo1_debts_open : Nat → Int32) (fo1_debts_kinds : Nat → Int32) (p_ob_planned : (0 : Int) ≤ ob_planned.toInt ∧ ob_planned.toInt ≤ 1) (p_ob_length : (0 : Int) ≤ ob_length.toInt ∧ ob_length.toInt ≤ 10) (p_ob_spots : (0 : Int) ≤ ob_spots.toInt ∧ ob_spots.toInt ≤ 10) (p_o1_town_houses : (0 : Int) ≤ o1_town_houses.toInt ∧ o1_town_houses.toInt ≤ 16) (p_o1_debts_size : (0 : Int) ≤ o1_debts_size.toInt ∧ o1_debts_size.toInt ≤ 600) (p_fo1_debts_creditor : ∀ i, (0 : Int) ≤ (fo1_debts_creditor i).toInt ∧ (fo1_debts_creditor i).toInt ≤ 15) (p_o1_day : (0 : Int) ≤ o1_day.toInt ∧ o1_day.toInt ≤ 399) (p_a2 : (0 : Int) ≤ a2.toInt ∧ a2.toInt ≤ 15) : Met l yX4_lostBits (Cond.code yX4_lostBits cX4_lostBits 6 (some .int) :: wAll) ({ frames := 4, cells := 0, slots := 0, locals := 93 }) (va_Pc [.ref ob, .ref o1, .int a2] (kp G y sz [(ce_X4 ob ob_planned ob_bestWorth ob_bestOver ob_length ob_order ob_owner ob_weekday ob_spots ob_spot ob_deadline ob_opens ob_closes ob_stays ob_apart ob_minute ob_soonest ob_sums), (ce_i16 y ob_opens fob_opens), (ce_i16 y ob_closes fob_closes), (ce_i16 y ob_stays fob_stays), (ce_X6 o1 o1_town o1_code o1_debts o1_deeds o1_knows o1_day o1_paid o1_follows), (ce_X7 o1_town o1_town_houses o1_town_fresh o1_town_introducers o1_town_x o1_town_y o1_town_rank o1_town_weekday o1_town_from o1_town_to o1_town_came o1_town_bride o1_town_told), (ce_i16 y o1_town_x fo1_town_x), (ce_i16 y o1_town_y fo1_town_y), (ce_i16 y o1_town_weekday fo1_town_weekday), (ce_i16 y o1_town_from fo1_town_from), (ce_i16 y o1_town_to fo1_town_to), (ce_X1 o1_debts o1_debts_size o1_debts_debtor o1_debts_creditor o1_debts_kind o1_debts_due o1_debts_came o1_debts_open o1_debts_kinds), (ce_i600 y o1_debts_debtor fo1_debts_debtor), (ce_i600 y o1_debts_creditor fo1_debts_creditor), (ce_i600 y o1_debts_due fo1_debts_due), (ce_i16 y o1_debts_open fo1_debts_open), (ce_i256 y o1_debts_kinds fo1_debts_kinds)])) (va_Qi (fun (r : Int32) (w : va_W) => (∃ (v_855 : Int32) (f_856 : Nat → Int32) (f_857 : Nat → Int32) (f_858 : Nat → Int32), ((0 : Int) ≤ v_855.toInt ∧ v_855.toInt ≤ 2147483647) ∧ r = v_855 ∧ w = [(ce_X4 ob ob_planned ob_bestWorth ob_bestOver ob_length ob_order ob_owner ob_weekday ob_spots ob_spot ob_deadline ob_opens ob_closes ob_stays ob_apart ob_minute ob_soonest ob_sums), (ce_i16 y ob_opens f_856), (ce_i16 y ob_closes f_857), (ce_i16 y ob_stays f_858), (ce_X6 o1 o1_town o1_code o1_debts o1_deeds o1_knows o1_day o1_paid o1_follows), (ce_X7 o1_town o1_town_houses o1_town_fresh o1_town_introducers o1_town_x o1_town_y o1_town_rank o1_town_weekday o1_town_from o1_town_to o1_town_came o1_town_bride o1_town_told), (ce_i16 y o1_town_x fo1_town_x), (ce_i16 y o1_town_y fo1_town_y), (ce_i16 y o1_town_weekday fo1_town_weekday), (ce_i16 y o1_town_from fo1_town_from), (ce_i16 y o1_town_to fo1_town_to), (ce_X1 o1_debts o1_debts_size o1_debts_debtor o1_debts_creditor o1_debts_kind o1_debts_due o1_debts_came o1_debts_open o1_debts_kinds), (ce_i600 y o1_debts_debtor fo1_debts_debtor), (ce_i600 y o1_debts_creditor fo1_debts_creditor), (ce_i600 y o1_debts_due fo1_debts_due), (ce_i16 y o1_debts_open fo1_debts_open), (ce_i256 y o1_debts_kinds fo1_debts_kinds)])) (kq G (va_A [(ce_X4 ob ob_planned ob_bestWorth ob_bestOver ob_length ob_order ob_owner ob_weekday ob_spots ob_spot ob_deadline ob_opens ob_closes ob_stays ob_apart ob_minute ob_soonest ob_sums), (ce_i16 y ob_opens fob_opens), (ce_i16 y ob_closes fob_closes), (ce_i16 y ob_stays fob_stays), (ce_X6 o1 o1_town o1_code o1_debts o1_deeds o1_knows o1_day o1_paid o1_follows), (ce_X7 o1_town o1_town_houses o1_town_fresh o1_town_introducers o1_town_x o1_town_y o1_town_rank o1_town_weekday o1_town_from o1_town_to o1_town_came o1_town_bride o1_town_told), (ce_i16 y o1_town_x fo1_town_x), (ce_i16 y o1_town_y fo1_town_y), (ce_i16 y o1_town_weekday fo1_town_weekday), (ce_i16 y o1_town_from fo1_town_from), (ce_i16 y o1_town_to fo1_town_to), (ce_X1 o1_debts o1_debts_size o1_debts_debtor o1_debts_creditor o1_debts_kind o1_debts_due o1_debts_came o1_debts_open o1_debts_kinds), (ce_i600 y o1_debts_debtor fo1_debts_debtor), (ce_i600 y o1_debts_creditor fo1_debts_creditor), (ce_i600 y o1_debts_due fo1_debts_due), (ce_i16 y o1_debts_open fo1_debts_open), (ce_i256 y o1_debts_kinds fo1_debts_kinds)] sz)) (va_A [(ce_X4 ob ob_planned ob_bestWorth ob_bestOver ob_length ob_order ob_owner ob_weekday ob_spots ob_spot ob_deadline ob_opens ob_closes ob_stays ob_apart ob_minute ob_soonest ob_sums), (ce_i16 y ob_opens fob_opens), (ce_i16 y ob_closes fob_closes), (ce_i16 y ob_stays fob_stays), (ce_X6 o1 o1_town o1_code o1_debts o1_deeds o1_knows o1_day o1_paid o1_follows), (ce_X7 o1_town o1_town_houses o1_town_fresh o1_town_introducers o1_town_x o1_town_y o1_town_rank o1_town_weekday o1_town_from o1_town_to o1_town_came o1_town_bride o1_town_told), (ce_i16 y o1_town_x fo1_town_x), (ce_i16 y o1_town_y fo1_town_y), (ce_i16 y o1_town_weekday fo1_town_weekday), (ce_i16 y o1_town_from fo1_town_from), (ce_i16 y o1_town_to fo1_town_to), (ce_X1 o1_debts o1_debts_size o1_debts_debtor o1_debts_creditor o1_debts_kind o1_debts_due o1_debts_came o1_debts_open o1_debts_kinds), (ce_i600 y o1_debts_debtor fo1_debts_debtor), (ce_i600 y o1_debts_creditor fo1_debts_creditor), (ce_i600 y o1_debts_due fo1_debts_due), (ce_i16 y o1_debts_open fo1_debts_open), (ce_i256 y o1_debts_kinds fo1_debts_kinds)] sz)) 0 0 (va_A [(ce_X4 ob ob_planned ob_bestWorth ob_bestOver ob_length ob_order ob_owner ob_weekday ob_spots ob_spot ob_deadline ob_opens ob_closes ob_stays ob_apart ob_minute ob_soonest ob_sums), (ce_i16 y ob_opens fob_opens), (ce_i16 y ob_closes fob_closes), (ce_i16 y ob_stays fob_stays), (ce_X6 o1 o1_town o1_code o1_debts o1_deeds o1_knows o1_day o1_paid o1_follows), (ce_X7 o1_town o1_town_houses o1_town_fresh o1_town_introducers o1_town_x o1_town_y o1_town_rank o1_town_weekday o1_town_from o1_town_to o1_town_came o1_town_bride o1_town_told), (ce_i16 y o1_town_x fo1_town_x), (ce_i16 y o1_town_y fo1_town_y), (ce_i16 y o1_town_weekday fo1_town_weekday), (ce_i16 y o1_town_from fo1_town_from), (ce_i16 y o1_town_to fo1_town_to), (ce_X1 o1_debts o1_debts_size o1_debts_debtor o1_debts_creditor o1_debts_kind o1_debts_due o1_debts_came o1_debts_open o1_debts_kinds), (ce_i600 y o1_debts_debtor fo1_debts_debtor), (ce_i600 y o1_debts_creditor fo1_debts_creditor), (ce_i600 y o1_debts_due fo1_debts_due), (ce_i16 y o1_debts_open fo1_debts_open), (ce_i256 y o1_debts_kinds fo1_debts_kinds)] sz) := by
  refine Met.ofW (cc := cX4_lostBits) (maxL := 6) (ret := (some .int)) (by decide) rfl ?_
  intro p e s m args below meth c s₁ B hml hv
  obtain ⟨rfl, hsz, hP, hK, hD0⟩ := hv
  have hx := B.exec
  have hb := B.bytes
  have hr := B.returns
  have hw0 : ∀ w ∈ wAll, w.before _ s = true := fun w h => atoms_spec (ws := Cond.code yX4_lostBits cX4_lostBits 6 (some .int) :: wAll) B.pre w (List.mem_cons_of_mem _ h)
  have hown : s.vm.findClass RX4 = some m.cls := findClass_of_methodNamed B.named
  subst hsz
  have hD := hD0.self (sz := s.heap.size)
  generalize hAe : va_A [(ce_X4 ob ob_planned ob_bestWorth ob_bestOver ob_length ob_order ob_owner ob_weekday ob_spots ob_spot ob_deadline ob_opens ob_closes ob_stays ob_apart ob_minute ob_soonest ob_sums), (ce_i16 y ob_opens fob_opens), (ce_i16 y ob_closes fob_closes), (ce_i16 y ob_stays fob_stays), (ce_X6 o1 o1_town o1_code o1_debts o1_deeds o1_knows o1_day o1_paid o1_follows), (ce_X7 o1_town o1_town_houses o1_town_fresh o1_town_introducers o1_town_x o1_town_y o1_town_rank o1_town_weekday o1_town_from o1_town_to o1_town_came o1_town_bride o1_town_told), (ce_i16 y o1_town_x fo1_town_x), (ce_i16 y o1_town_y fo1_town_y), (ce_i16 y o1_town_weekday fo1_town_weekday), (ce_i16 y o1_town_from fo1_town_from), (ce_i16 y o1_town_to fo1_town_to), (ce_X1 o1_debts o1_debts_size o1_debts_debtor o1_debts_creditor o1_debts_kind o1_debts_due o1_debts_came o1_debts_open o1_debts_kinds), (ce_i600 y o1_debts_debtor fo1_debts_debtor), (ce_i600 y o1_debts_creditor fo1_debts_creditor), (ce_i600 y o1_debts_due fo1_debts_due), (ce_i16 y o1_debts_open fo1_debts_open), (ce_i256 y o1_debts_kinds fo1_debts_kinds)] s.heap.size = A at hD ⊢
  have hA : ∀ q : Nat, s.heap.size ≤ q → A q := fun q h => by rw [← hAe]; exact Or.inr h
  have hS : va_S A s.heap s.heap [] := va_S.rf
  have hP : va_P G vwCl [(ce_X4 ob ob_planned ob_bestWorth ob_bestOver ob_length ob_order ob_owner ob_weekday ob_spots ob_spot ob_deadline ob_opens ob_closes ob_stays ob_apart ob_minute ob_soonest ob_sums), (ce_i16 y ob_opens fob_opens), (ce_i16 y ob_closes fob_closes), (ce_i16 y ob_stays fob_stays), (ce_X6 o1 o1_town o1_code o1_debts o1_deeds o1_knows o1_day o1_paid o1_follows), (ce_X7 o1_town o1_town_houses o1_town_fresh o1_town_introducers o1_town_x o1_town_y o1_town_rank o1_town_weekday o1_town_from o1_town_to o1_town_came o1_town_bride o1_town_told), (ce_i16 y o1_town_x fo1_town_x), (ce_i16 y o1_town_y fo1_town_y), (ce_i16 y o1_town_weekday fo1_town_weekday), (ce_i16 y o1_town_from fo1_town_from), (ce_i16 y o1_town_to fo1_town_to), (ce_X1 o1_debts o1_debts_size o1_debts_debtor o1_debts_creditor o1_debts_kind o1_debts_due o1_debts_came o1_debts_open o1_debts_kinds), (ce_i600 y o1_debts_debtor fo1_debts_debtor), (ce_i600 y o1_debts_creditor fo1_debts_creditor), (ce_i600 y o1_debts_due fo1_debts_due), (ce_i16 y o1_debts_open fo1_debts_open), (ce_i256 y o1_debts_kinds fo1_debts_kinds)] s.heap := hP
  have hl := lv_entry ([.ref ob, .ref o1, .int a2]) (n := 6) (Nat.le_of_ble_eq_true rfl)
  rw [lg_entry_eq]
  generalize (lg_sl ([.ref ob, .ref o1, .int a2]) ++ List.replicate (6 - (lg_sl ([.ref ob, .ref o1, .int a2])).length) Slot.unset).toArray = ls at hl ⊢
  have hl : lv_has ls 6 [(0, .ref ob), (1, .ref o1), (2, .int a2)] := hl
  refine lv_iconst (v := 0) hx hb dX4_lostBits_0 (by decide) ?_
  refine lv_istore_n (lv' := [(3, .int 0), (0, .ref ob), (1, .ref o1), (2, .int a2)]) hx hb dX4_lostBits_1 rfl hl (by decide) rfl (fun ls hl => ?_)
  refine lv_iconst (v := 0) hx hb dX4_lostBits_2 (by decide) ?_
  refine lv_istore (lv' := [(4, .int 0), (3, .int 0), (0, .ref ob), (1, .ref o1), (2, .int a2)]) hx hb dX4_lostBits_3 hl (by decide) rfl (fun ls hl => ?_)
  refine loopX (fun n H locs ls st => ∃ (v_1359 : Int32) (v_1360 : Int32) (f_1361 : Nat → Int32) (f_1362 : Nat → Int32) (f_1363 : Nat → Int32), (10 - v_1359.toInt).toNat = n ∧ ((0 : Int) ≤ v_1359.toInt ∧ v_1359.toInt ≤ 10) ∧ ((0 : Int) ≤ v_1360.toInt ∧ v_1360.toInt ≤ 2147483647) ∧ st = [] ∧ vPD G A H [(ce_X4 ob ob_planned ob_bestWorth ob_bestOver ob_length ob_order ob_owner ob_weekday ob_spots ob_spot ob_deadline ob_opens ob_closes ob_stays ob_apart ob_minute ob_soonest ob_sums), (ce_i16 y ob_opens f_1361), (ce_i16 y ob_closes f_1362), (ce_i16 y ob_stays f_1363), (ce_X6 o1 o1_town o1_code o1_debts o1_deeds o1_knows o1_day o1_paid o1_follows), (ce_X7 o1_town o1_town_houses o1_town_fresh o1_town_introducers o1_town_x o1_town_y o1_town_rank o1_town_weekday o1_town_from o1_town_to o1_town_came o1_town_bride o1_town_told), (ce_i16 y o1_town_x fo1_town_x), (ce_i16 y o1_town_y fo1_town_y), (ce_i16 y o1_town_weekday fo1_town_weekday), (ce_i16 y o1_town_from fo1_town_from), (ce_i16 y o1_town_to fo1_town_to), (ce_X1 o1_debts o1_debts_size o1_debts_debtor o1_debts_creditor o1_debts_kind o1_debts_due o1_debts_came o1_debts_open o1_debts_kinds), (ce_i600 y o1_debts_debtor fo1_debts_debtor), (ce_i600 y o1_debts_creditor fo1_debts_creditor), (ce_i600 y o1_debts_due fo1_debts_due), (ce_i16 y o1_debts_open fo1_debts_open), (ce_i256 y o1_debts_kinds fo1_debts_kinds)] ∧ va_S A s.heap H locs ∧ lv_has ls 6 [(4, .int v_1359), (3, .int v_1360), (0, .ref ob), (1, .ref o1), (2, .int a2)]) ?_ (n := (10 - (0 : Int32).toInt).toNat) ⟨0, 0, fob_opens, fob_closes, fob_stays, rfl, (bw (0) (10) (bkc (x := 0) (c := 0) (by decide)) (by decide)), (bw (0) (2147483647) (bkc (x := 0) (c := 0) (by decide)) (by decide)), rfl, ⟨hP, hD⟩, hS, lv_sub hl [0, 1, 2, 3, 4] rfl⟩
  rintro n ih_1395 H locs ls st ⟨v_1359, v_1360, f_1361, f_1362, f_1363, hn_1395, bv_1359, bv_1360, rfl, ⟨hP, hD⟩, hS, hl⟩
  refine lv_iload hx hb dX4_lostBits_5 (lv_at hl 0 rfl) ?_
  refine lv_bipush (v := 10) hx hb dX4_lostBits_7 (by decide) ?_
  refine lv_icmp_ge (tgt := 71) hx hb dX4_lostBits_9 (by decide) (fun c_1396 => ?_) (fun c_1396 => ?_)
  · skip
    have nc_1396 := nb_le (10) (10) c_1396 (bkc (x := 10) (c := 10) (by decide)) bv_1359 (by decide)
    refine lv_iload_n hx hb dX4_lostBits_71 rfl (lv_at hl 1 rfl) ?_
    exact W.iret (v := v_1360) hx hb hr (fun t ht hW => ⟨⟨v_1360, _, rfl, ⟨v_1360, f_1361, f_1362, f_1363, bv_1360, rfl, rfl⟩, by rw [ht]; exact hP, hD⟩, hS.F ht⟩) hS.2.2 dX4_lostBits_72
  · skip
    have nc_1396 := nb_nle (9) (10) c_1396 bv_1359 (bkc (x := 10) (c := 10) (by decide)) (by decide)
    refine lv_aload_n hx hb dX4_lostBits_12 rfl (lv_at hl 3 rfl) ?_
    refine va_get (D := G) (ci := 6) (v := .ref o1_debts) (C := RX6) (T := TX6) (N := 8) hx hb hw0 inA_wsX60 hown hK.1 hP 4 rfl rfl 2 (by decide) (hw0 _ m_836) (fun _ h9 => h9) rfl dX4_lostBits_13 ?_
    refine lv_iload_n hx hb dX4_lostBits_16 rfl (lv_at hl 4 rfl) ?_
    refine lv_iload hx hb dX4_lostBits_17 (lv_at hl 0 rfl) ?_
    refine cVim (As := [.int a2, .int v_1359]) (rest := []) ⟨hx, hb, hml, hown, hw0⟩ hA hK hP hD hS [false, false, false, false, false, false, false, false, false, false, false, true, true, false, false, true] (sX1_nth l G y _ o1_debts a2 v_1359 o1_debts_size o1_debts_debtor o1_debts_creditor o1_debts_kind o1_debts_due o1_debts_came o1_debts_open o1_debts_kinds fo1_debts_debtor fo1_debts_open p_o1_debts_size p_a2) rfl ⟨(callB_of 2 hw0 (gA m_325) rfl rfl rfl (hw0 _ m_330) (hw0 _ m_886) cb_X1_nth ⟨Nat.le_of_ble_eq_true rfl, Nat.le_of_ble_eq_true rfl⟩), (hw0 _ m_887), (hw0 _ m_888)⟩ (ci := 1) (q := (RX1, TX1, 8)) rfl rfl rfl hl.1 (Nat.le_of_ble_eq_true rfl) dX4_lostBits_19 ⟨Nat.le_of_ble_eq_true rfl, Nat.le_of_ble_eq_true rfl⟩ (fun r_1397 w_1397 H locs hw_1397 hP hD hS => ?_)
    obtain ⟨v_1398, bv_1398, er_1397, rfl⟩ := hw_1397
    subst r_1397
    obtain ⟨hP, hD⟩ : vPD G A H [(ce_X4 ob ob_planned ob_bestWorth ob_bestOver ob_length ob_order ob_owner ob_weekday ob_spots ob_spot ob_deadline ob_opens ob_closes ob_stays ob_apart ob_minute ob_soonest ob_sums), (ce_i16 y ob_opens f_1361), (ce_i16 y ob_closes f_1362), (ce_i16 y ob_stays f_1363), (ce_X6 o1 o1_town o1_code o1_debts o1_deeds o1_knows o1_day o1_paid o1_follows), (ce_X7 o1_town o1_town_houses o1_town_fresh o1_town_introducers o1_town_x o1_town_y o1_town_rank o1_town_weekday o1_town_from o1_town_to o1_town_came o1_town_bride o1_town_told), (ce_i16 y o1_town_x fo1_town_x), (ce_i16 y o1_town_y fo1_town_y), (ce_i16 y o1_town_weekday fo1_town_weekday), (ce_i16 y o1_town_from fo1_town_from), (ce_i16 y o1_town_to fo1_town_to), (ce_X1 o1_debts o1_debts_size o1_debts_debtor o1_debts_creditor o1_debts_kind o1_debts_due o1_debts_came o1_debts_open o1_debts_kinds), (ce_i600 y o1_debts_debtor fo1_debts_debtor), (ce_i600 y o1_debts_creditor fo1_debts_creditor), (ce_i600 y o1_debts_due fo1_debts_due), (ce_i16 y o1_debts_open fo1_debts_open), (ce_i256 y o1_debts_kinds fo1_debts_kinds)] := ⟨hP, hD⟩
    refine lv_istore (lv' := [(5, .int v_1398), (4, .int v_1359), (3, .int v_1360), (0, .ref ob), (1, .ref o1), (2, .int a2)]) hx hb dX4_lostBits_22 hl (by decide) rfl (fun ls hl => ?_)
    refine lv_iload hx hb dX4_lostBits_24 (lv_at hl 0 rfl) ?_
    refine cutW 65 (fun H locs ls st => ∃ (v_1411 : Int32) (f_1412 : Nat → Int32) (f_1413 : Nat → Int32) (f_1414 : Nat → Int32), ((0 : Int) ≤ v_1411.toInt ∧ v_1411.toInt ≤ 2147483647) ∧ st = [] ∧ vPD G A H [(ce_X4 ob ob_planned ob_bestWorth ob_bestOver ob_length ob_order ob_owner ob_weekday ob_spots ob_spot ob_deadline ob_opens ob_closes ob_stays ob_apart ob_minute ob_soonest ob_sums), (ce_i16 y ob_opens f_1412), (ce_i16 y ob_closes f_1413), (ce_i16 y ob_stays f_1414), (ce_X6 o1 o1_town o1_code o1_debts o1_deeds o1_knows o1_day o1_paid o1_follows), (ce_X7 o1_town o1_town_houses o1_town_fresh o1_town_introducers o1_town_x o1_town_y o1_town_rank o1_town_weekday o1_town_from o1_town_to o1_town_came o1_town_bride o1_town_told), (ce_i16 y o1_town_x fo1_town_x), (ce_i16 y o1_town_y fo1_town_y), (ce_i16 y o1_town_weekday fo1_town_weekday), (ce_i16 y o1_town_from fo1_town_from), (ce_i16 y o1_town_to fo1_town_to), (ce_X1 o1_debts o1_debts_size o1_debts_debtor o1_debts_creditor o1_debts_kind o1_debts_due o1_debts_came o1_debts_open o1_debts_kinds), (ce_i600 y o1_debts_debtor fo1_debts_debtor), (ce_i600 y o1_debts_creditor fo1_debts_creditor), (ce_i600 y o1_debts_due fo1_debts_due), (ce_i16 y o1_debts_open fo1_debts_open), (ce_i256 y o1_debts_kinds fo1_debts_kinds)] ∧ va_S A s.heap H locs ∧ lv_has ls 6 [(4, .int v_1359), (3, .int v_1411), (0, .ref ob), (1, .ref o1), (2, .int a2)]) ?_ (fun J_65_1414 => ?_)
    · rintro H locs ls st ⟨v_1411, f_1412, f_1413, f_1414, bv_1411, rfl, ⟨hP, hD⟩, hS, hl⟩
      obtain ⟨v_1415, ev_1415⟩ : ∃ z : Int32, z = v_1359 + 1 := ⟨_, rfl⟩
      have qv_1415 := ba_add ev_1415 nc_1396.1 (bkc (x := 1) (c := 1) (by decide)) (by decide)
      have bv_1415 : (1 : Int) ≤ v_1415.toInt ∧ v_1415.toInt ≤ 10 := bq_add qv_1415 nc_1396.1 (bkc (x := 1) (c := 1) (by decide)) _ _ (by decide)
      have qv_1415 : v_1415.toInt = v_1359.toInt + (1) := qv_1415
      refine lv_iinc (v := v_1415) (lv' := [(4, .int v_1415), (3, .int v_1411), (0, .ref ob), (1, .ref o1), (2, .int a2)]) hx hb dX4_lostBits_65 hl (k := 0) rfl (ev_1415.symm) (by decide) rfl (fun ls hl => ?_)
      refine lv_goto (tgt := 5) hx hb dX4_lostBits_68 (by decide) ?_
      exact ih_1395 _ (ml_inc (hi := 10) hn_1395 qv_1415 (by decide) ((bw (0) (10) bv_1415 (by decide))).2) _ _ _ _ ⟨v_1415, v_1411, f_1412, f_1413, f_1414, rfl, (bw (0) (10) bv_1415 (by decide)), bv_1411, rfl, ⟨hP, hD⟩, hS, lv_sub hl [0, 1, 2, 3, 4] rfl⟩
    · skip
      refine lv_if_lt (tgt := 65) hx hb dX4_lostBits_26 (by decide) (fun c_1416 => ?_) (fun c_1416 => ?_)
      · skip
        have nc_1416 := nb_lt (-1) (0) c_1416 bv_1398 (bkc (x := 0) (c := 0) (by decide)) (by decide)
        exact J_65_1414 _ _ _ _ ⟨v_1360, f_1361, f_1362, f_1363, bv_1360, rfl, ⟨hP, hD⟩, hS, lv_sub hl [1, 2, 3, 4, 5] rfl⟩
      · skip
        have nc_1416 := nb_nlt (0) (0) c_1416 (bkc (x := 0) (c := 0) (by decide)) bv_1398 (by decide)
        refine lv_aload_n hx hb dX4_lostBits_29 rfl (lv_at hl 3 rfl) ?_
        refine lv_aload_n hx hb dX4_lostBits_30 rfl (lv_at hl 4 rfl) ?_
        refine lv_iload_n hx hb dX4_lostBits_31 rfl (lv_at hl 5 rfl) ?_
        refine lv_aload_n hx hb dX4_lostBits_32 rfl (lv_at hl 4 rfl) ?_
        refine va_get (D := G) (ci := 6) (v := .ref o1_debts) (C := RX6) (T := TX6) (N := 8) hx hb hw0 inA_wsX60 hown hK.1 hP 4 rfl rfl 2 (by decide) (hw0 _ m_836) (fun _ h9 => h9) rfl dX4_lostBits_33 ?_
        refine va_get (D := G) (ci := 1) (v := .ref o1_debts_creditor) (C := RX1) (T := TX1) (N := 8) hx hb hw0 inA_wsX10 hown hK.1 hP 11 rfl rfl 2 (by decide) (hw0 _ m_889) (fun _ h9 => h9) rfl dX4_lostBits_36 ?_
        refine lv_iload hx hb dX4_lostBits_39 (lv_at hl 0 rfl) ?_
        refine va_iald hx hb hK.1 hP 13 1 rfl rfl (vi nc_1416.2.1 (by decide)) dX4_lostBits_41 ?_
        refine lv_topi (fun v_1417 ev_1417 => ?_)
        have bv_1417 : (0 : Int) ≤ v_1417.toInt ∧ v_1417.toInt ≤ 15 := rd_b ev_1417 p_fo1_debts_creditor
        refine lv_aload_n hx hb dX4_lostBits_42 rfl (lv_at hl 4 rfl) ?_
        refine va_get (D := G) (ci := 6) (v := .ref o1_debts) (C := RX6) (T := TX6) (N := 8) hx hb hw0 inA_wsX60 hown hK.1 hP 4 rfl rfl 2 (by decide) (hw0 _ m_836) (fun _ h9 => h9) rfl dX4_lostBits_43 ?_
        refine va_get (D := G) (ci := 1) (v := .ref o1_debts_due) (C := RX1) (T := TX1) (N := 8) hx hb hw0 inA_wsX10 hown hK.1 hP 11 rfl rfl 4 (by decide) (hw0 _ m_891) (fun _ h9 => h9) rfl dX4_lostBits_46 ?_
        refine lv_iload hx hb dX4_lostBits_49 (lv_at hl 0 rfl) ?_
        refine va_iald hx hb hK.1 hP 14 1 rfl rfl (vi nc_1416.2.1 (by decide)) dX4_lostBits_51 ?_
        refine lv_topi (fun v_1418 ev_1418 => ?_)
        refine cVim (As := [.ref o1, .int a2, .int v_1417, .int v_1418]) (rest := []) ⟨hx, hb, hml, hown, hw0⟩ hA hK hP hD hS [true, true, true, true, true, true, true, true, true, true, true, true, false, false, false, false, true] (sX4_canBeSeen l G y _ ob o1 a2 v_1417 v_1418 ob_planned ob_bestWorth ob_bestOver ob_length ob_order ob_owner ob_weekday ob_spots ob_spot ob_deadline ob_opens ob_closes ob_stays ob_apart ob_minute ob_soonest ob_sums f_1361 f_1362 f_1363 o1_town o1_code o1_debts o1_deeds o1_knows o1_day o1_paid o1_follows o1_town_houses o1_town_fresh o1_town_introducers o1_town_x o1_town_y o1_town_rank o1_town_weekday o1_town_from o1_town_to o1_town_came o1_town_bride o1_town_told fo1_town_x fo1_town_y fo1_town_weekday fo1_town_from fo1_town_to o1_debts_size o1_debts_debtor o1_debts_creditor o1_debts_kind o1_debts_due o1_debts_came o1_debts_open o1_debts_kinds fo1_debts_kinds p_ob_planned p_ob_length p_ob_spots p_o1_town_houses p_o1_debts_size p_o1_day p_a2 bv_1417) rfl ⟨(callB_of 4 hw0 (gA m_841) rfl rfl rfl (hw0 _ m_839) (hw0 _ m_912) cb_X4_canBeSeen ⟨Nat.le_of_ble_eq_true rfl, Nat.le_of_ble_eq_true rfl⟩), (hw0 _ m_913), (hw0 _ m_914)⟩ (ci := 4) (q := (RX4, TX4, 17)) rfl rfl rfl hl.1 (Nat.le_of_ble_eq_true rfl) dX4_lostBits_52 ⟨Nat.le_of_ble_eq_true rfl, Nat.le_of_ble_eq_true rfl⟩ (fun r_1419 w_1419 H locs hw_1419 hP hD hS => ?_)
        rcases hw_1419 with ⟨f_1420, f_1421, f_1422, rfl, rfl⟩ | ⟨f_1423, f_1424, f_1425, rfl, rfl⟩
        · skip
          obtain ⟨hP, hD⟩ : vPD G A H [(ce_X4 ob ob_planned ob_bestWorth ob_bestOver ob_length ob_order ob_owner ob_weekday ob_spots ob_spot ob_deadline ob_opens ob_closes ob_stays ob_apart ob_minute ob_soonest ob_sums), (ce_i16 y ob_opens f_1420), (ce_i16 y ob_closes f_1421), (ce_i16 y ob_stays f_1422), (ce_X6 o1 o1_town o1_code o1_debts o1_deeds o1_knows o1_day o1_paid o1_follows), (ce_X7 o1_town o1_town_houses o1_town_fresh o1_town_introducers o1_town_x o1_town_y o1_town_rank o1_town_weekday o1_town_from o1_town_to o1_town_came o1_town_bride o1_town_told), (ce_i16 y o1_town_x fo1_town_x), (ce_i16 y o1_town_y fo1_town_y), (ce_i16 y o1_town_weekday fo1_town_weekday), (ce_i16 y o1_town_from fo1_town_from), (ce_i16 y o1_town_to fo1_town_to), (ce_X1 o1_debts o1_debts_size o1_debts_debtor o1_debts_creditor o1_debts_kind o1_debts_due o1_debts_came o1_debts_open o1_debts_kinds), (ce_i600 y o1_debts_debtor fo1_debts_debtor), (ce_i600 y o1_debts_creditor fo1_debts_creditor), (ce_i600 y o1_debts_due fo1_debts_due), (ce_i16 y o1_debts_open fo1_debts_open), (ce_i256 y o1_debts_kinds fo1_debts_kinds)] := ⟨hP, hD⟩
          refine lv_if_ne (tgt := 65) hx hb dX4_lostBits_55 (by decide) (fun c9 => absurd (by decide) c9) (fun _ => ?_)
          refine lv_iload_n hx hb dX4_lostBits_58 rfl (lv_at hl 2 rfl) ?_
          refine lv_iconst (v := 1) hx hb dX4_lostBits_59 (by decide) ?_
          refine lv_iload hx hb dX4_lostBits_60 (lv_at hl 1 rfl) ?_
          refine lv_ishl hx hb dX4_lostBits_62 ?_
          refine lv_topi (fun v_1426 ev_1426 => ?_)
          have bv_1426 : (1 : Int) ≤ v_1426.toInt ∧ v_1426.toInt ≤ 512 := ba_shl 0 9 ev_1426 nc_1396.1 (by decide)
          refine lv_ior hx hb dX4_lostBits_63 ?_
          refine lv_topi (fun v_1427 ev_1427 => ?_)
          have bv_1427 : (0 : Int) ≤ v_1427.toInt ∧ v_1427.toInt ≤ 2147483647 := ba_or 31 ev_1427 bv_1360 bv_1426 (by decide)
          refine lv_istore_n (lv' := [(3, .int v_1427), (5, .int v_1398), (4, .int v_1359), (0, .ref ob), (1, .ref o1), (2, .int a2)]) hx hb dX4_lostBits_64 rfl hl (by decide) rfl (fun ls hl => ?_)
          exact J_65_1414 _ _ _ _ ⟨v_1427, f_1420, f_1421, f_1422, bv_1427, rfl, ⟨hP, hD⟩, hS, lv_sub hl [2, 0, 3, 4, 5] rfl⟩
        · skip
          obtain ⟨hP, hD⟩ : vPD G A H [(ce_X4 ob ob_planned ob_bestWorth ob_bestOver ob_length ob_order ob_owner ob_weekday ob_spots ob_spot ob_deadline ob_opens ob_closes ob_stays ob_apart ob_minute ob_soonest ob_sums), (ce_i16 y ob_opens f_1423), (ce_i16 y ob_closes f_1424), (ce_i16 y ob_stays f_1425), (ce_X6 o1 o1_town o1_code o1_debts o1_deeds o1_knows o1_day o1_paid o1_follows), (ce_X7 o1_town o1_town_houses o1_town_fresh o1_town_introducers o1_town_x o1_town_y o1_town_rank o1_town_weekday o1_town_from o1_town_to o1_town_came o1_town_bride o1_town_told), (ce_i16 y o1_town_x fo1_town_x), (ce_i16 y o1_town_y fo1_town_y), (ce_i16 y o1_town_weekday fo1_town_weekday), (ce_i16 y o1_town_from fo1_town_from), (ce_i16 y o1_town_to fo1_town_to), (ce_X1 o1_debts o1_debts_size o1_debts_debtor o1_debts_creditor o1_debts_kind o1_debts_due o1_debts_came o1_debts_open o1_debts_kinds), (ce_i600 y o1_debts_debtor fo1_debts_debtor), (ce_i600 y o1_debts_creditor fo1_debts_creditor), (ce_i600 y o1_debts_due fo1_debts_due), (ce_i16 y o1_debts_open fo1_debts_open), (ce_i256 y o1_debts_kinds fo1_debts_kinds)] := ⟨hP, hD⟩
          refine lv_if_ne (tgt := 65) hx hb dX4_lostBits_55 (by decide) (fun _ => ?_) (fun c9 => absurd c9 (by decide))
          exact J_65_1414 _ _ _ _ ⟨v_1360, f_1423, f_1424, f_1425, bv_1360, rfl, ⟨hP, hD⟩, hS, lv_sub hl [1, 2, 3, 4, 5] rfl⟩
