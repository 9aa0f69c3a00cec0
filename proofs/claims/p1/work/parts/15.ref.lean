set_option maxHeartbeats 4000000 in
set_option maxRecDepth 100000 in
theorem kX10_isHouse (l : Launch) (G : va_G) (y : Nat → ClassId) (sz : Nat) (ob : Nat) (a1 : Int32) (ob_0 : Value) (wo : Nat) (mi : Nat) (hm : Nat) (mt : Nat) (fv : Nat) (fr : Nat) (ob_15 : Value) (ob_16 : Value) (ob_17 : Value) (ob_18 : Value) (ob_19 : Value) (ob_20 : Value) (ob_21 : Value) (ob_22 : Value) (ob_23 : Value) (ob_24 : Value) (ob_25 : Value) (ob_26 : Value) (ob_27 : Value) (ob_28 : Value) (ob_29 : Value) (ob_30 : Value) (ob_31 : Value) (ob_32 : Value) (ob_33 : Value) (ob_34 : Value) (cd : Nat) (ob_36 : Value) (my : Nat) (wi : Nat) (nb : Nat) (mv : Nat) (fw : Nat → Int32) (z0 : fw 0 = 0) : Met l yX10_isHouse (Cond.code yX10_isHouse cX10_isHouse 2 (some .boolean) :: wAll) ({ frames := 1, cells := 0, slots := 0, locals := 25 }) (va_Pc [.ref ob, .int a1] (kp G y sz [(ob, .inr (10, [ob_0, .ref wo, .ref mi, .ref hm, .ref mt, .int 0, .ref fv, .int 0, .int 0, .int 0, .int 0, .int 0, .int 0, .int (-1), .ref fr, ob_15, ob_16, ob_17, ob_18, ob_19, ob_20, ob_21, ob_22, ob_23, ob_24, ob_25, ob_26, ob_27, ob_28, ob_29, ob_30, ob_31, ob_32, ob_33, ob_34, .ref cd, ob_36, .ref my, .ref wi, .ref nb, .ref mv])), (wo, .inl (y 1, 9080, .inl fw))])) (va_Qi (fun (r : Int32) (w : va_W) => (r = 0 ∧ w = [(ob, .inr (10, [ob_0, .ref wo, .ref mi, .ref hm, .ref mt, .int 0, .ref fv, .int 0, .int 0, .int 0, .int 0, .int 0, .int 0, .int (-1), .ref fr, ob_15, ob_16, ob_17, ob_18, ob_19, ob_20, ob_21, ob_22, ob_23, ob_24, ob_25, ob_26, ob_27, ob_28, ob_29, ob_30, ob_31, ob_32, ob_33, ob_34, .ref cd, ob_36, .ref my, .ref wi, .ref nb, .ref mv])), (wo, .inl (y 1, 9080, .inl fw))])) (kq G (va_A [(ob, .inr (10, [ob_0, .ref wo, .ref mi, .ref hm, .ref mt, .int 0, .ref fv, .int 0, .int 0, .int 0, .int 0, .int 0, .int 0, .int (-1), .ref fr, ob_15, ob_16, ob_17, ob_18, ob_19, ob_20, ob_21, ob_22, ob_23, ob_24, ob_25, ob_26, ob_27, ob_28, ob_29, ob_30, ob_31, ob_32, ob_33, ob_34, .ref cd, ob_36, .ref my, .ref wi, .ref nb, .ref mv])), (wo, .inl (y 1, 9080, .inl fw))] sz)) (va_A [(ob, .inr (10, [ob_0, .ref wo, .ref mi, .ref hm, .ref mt, .int 0, .ref fv, .int 0, .int 0, .int 0, .int 0, .int 0, .int 0, .int (-1), .ref fr, ob_15, ob_16, ob_17, ob_18, ob_19, ob_20, ob_21, ob_22, ob_23, ob_24, ob_25, ob_26, ob_27, ob_28, ob_29, ob_30, ob_31, ob_32, ob_33, ob_34, .ref cd, ob_36, .ref my, .ref wi, .ref nb, .ref mv])), (wo, .inl (y 1, 9080, .inl fw))] sz)) 0 0 (va_A [(ob, .inr (10, [ob_0, .ref wo, .ref mi, .ref hm, .ref mt, .int 0, .ref fv, .int 0, .int 0, .int 0, .int 0, .int 0, .int 0, .int (-1), .ref fr, ob_15, ob_16, ob_17, ob_18, ob_19, ob_20, ob_21, ob_22, ob_23, ob_24, ob_25, ob_26, ob_27, ob_28, ob_29, ob_30, ob_31, ob_32, ob_33, ob_34, .ref cd, ob_36, .ref my, .ref wi, .ref nb, .ref mv])), (wo, .inl (y 1, 9080, .inl fw))] sz) := by
  refine Met.ofW (cc := cX10_isHouse) (maxL := 2) (ret := (some .boolean)) (by decide) rfl ?_
  intro p e s m args below meth c s₁ B hml hv
  obtain ⟨rfl, hsz, hP, hK, hD0⟩ := hv
  have hx := B.exec
  have hb := B.bytes
  have hr := B.returns
  have hw0 : ∀ w ∈ wAll, w.before _ s = true := fun w h => atoms_spec (ws := Cond.code yX10_isHouse cX10_isHouse 2 (some .boolean) :: wAll) B.pre w (List.mem_cons_of_mem _ h)
  have hown : s.vm.findClass RX10 = some m.cls := findClass_of_methodNamed B.named
  have hlocks := B.notSynchronized
  subst hsz
  have hD := hD0.self (sz := s.heap.size)
  generalize hAe : va_A [(ob, .inr (10, [ob_0, .ref wo, .ref mi, .ref hm, .ref mt, .int 0, .ref fv, .int 0, .int 0, .int 0, .int 0, .int 0, .int 0, .int (-1), .ref fr, ob_15, ob_16, ob_17, ob_18, ob_19, ob_20, ob_21, ob_22, ob_23, ob_24, ob_25, ob_26, ob_27, ob_28, ob_29, ob_30, ob_31, ob_32, ob_33, ob_34, .ref cd, ob_36, .ref my, .ref wi, .ref nb, .ref mv])), (wo, .inl (y 1, 9080, .inl fw))] s.heap.size = A at hD ⊢
  have hA : ∀ q : Nat, s.heap.size ≤ q → A q := fun q h => by rw [← hAe]; exact Or.inr h
  have hS : va_S A s.heap s.heap [] := va_S.rf
  have hP : va_P G vwCl [(ob, .inr (10, [ob_0, .ref wo, .ref mi, .ref hm, .ref mt, .int 0, .ref fv, .int 0, .int 0, .int 0, .int 0, .int 0, .int 0, .int (-1), .ref fr, ob_15, ob_16, ob_17, ob_18, ob_19, ob_20, ob_21, ob_22, ob_23, ob_24, ob_25, ob_26, ob_27, ob_28, ob_29, ob_30, ob_31, ob_32, ob_33, ob_34, .ref cd, ob_36, .ref my, .ref wi, .ref nb, .ref mv])), (wo, .inl (y 1, 9080, .inl fw))] s.heap := hP
  have hl := lv_entry ([.ref ob, .int a1]) (n := 2) (Nat.le_of_ble_eq_true rfl)
  rw [lg_entry_eq]
  generalize (lg_sl ([.ref ob, .int a1]) ++ List.replicate (2 - (lg_sl ([.ref ob, .int a1])).length) Slot.unset).toArray = ls at hl ⊢
  have hl : lv_has ls 2 [(0, .ref ob), (1, .int a1)] := hl
  refine lv_iload_n hx hb dX10_isHouse_0 rfl (lv_at hl 1 rfl) ?_
  refine lv_i2l hx hb dX10_isHouse_1 rfl ?_
  refine lv_lconst (v := 0) hx hb dX10_isHouse_2 (by decide) ?_
  refine lv_aload_n hx hb dX10_isHouse_3 rfl (lv_at hl 0 rfl) ?_
  refine va_get (D := G) (ci := 10) (v := .ref wo) (C := RX10) (T := TX10) (N := 41) hx hb hw0 inA_wsX100 hown hK.1 hP 0 rfl rfl 1 (by decide) (hw0 _ m_132) (fun _ h9 => h9) rfl dX10_isHouse_4 ?_
  refine lv_iconst (v := 0) hx hb dX10_isHouse_7 (by decide) ?_
  refine va_iald hx hb hK.1 hP 1 1 rfl rfl (vp_in_nI (n := 0) (N := 9080) (by decide) (by decide)) dX10_isHouse_8 ?_
  refine lv_topi (fun v_1 ev_1 => ?_)
  obtain rfl : 0 = v_1 := (ev_1.trans (z0)).symm
  refine lv_iconst (v := 1) hx hb dX10_isHouse_9 (by decide) ?_
  refine lv_isub hx hb dX10_isHouse_10 ?_
  refine lv_topi (fun v_2 ev_2 => ?_)
  obtain rfl : (-1) = v_2 := (ev_2.trans (by decide)).symm
  refine lv_i2l (v := (-1)) hx hb dX10_isHouse_11 (by decide) ?_
  refine cSi (As := [.long (a1).toInt64, .long 0, .long (-1)]) (rest := []) ⟨hx, hb, hml, hown, hw0⟩ hA hK hP hD hS [] [0, 1] [] [(ob, .inr (10, [ob_0, .ref wo, .ref mi, .ref hm, .ref mt, .int 0, .ref fv, .int 0, .int 0, .int 0, .int 0, .int 0, .int 0, .int (-1), .ref fr, ob_15, ob_16, ob_17, ob_18, ob_19, ob_20, ob_21, ob_22, ob_23, ob_24, ob_25, ob_26, ob_27, ob_28, ob_29, ob_30, ob_31, ob_32, ob_33, ob_34, .ref cd, ob_36, .ref my, .ref wi, .ref nb, .ref mv])), (wo, .inl (y 1, 9080, .inl fw))] rfl rfl (by decide) (by decide) (by decide) (kX10_in l G y _ ((a1).toInt64) 0 (-1) ) ⟨(callB_of 3 hw0 (gA m_164) rfl rfl rfl (hw0 _ m_166) (hw0 _ m_167) (by decide +kernel) ⟨Nat.le_of_ble_eq_true rfl, Nat.le_of_ble_eq_true rfl⟩), (hw0 _ m_168)⟩ rfl hl.1 (Nat.le_of_ble_eq_true rfl) dX10_isHouse_12 ⟨Nat.le_of_ble_eq_true rfl, Nat.le_of_ble_eq_true rfl⟩ (fun r_3 w_3 H locs hw_3 hP hD hS => ?_)
  rcases hw_3 with ⟨c_4, rfl, rfl⟩ | ⟨c_5, rfl, rfl⟩
  · skip
    have tc_4 := in_1 (x := a1) (a := 0) (b := -1) c_4 (by decide) (by decide)
    exfalso; omega
  · skip
    have tc_5 := in_0 (x := a1) (a := 0) (b := -1) c_5 (by decide) (by decide)
    have hP : va_P G vwCl [(ob, .inr (10, [ob_0, .ref wo, .ref mi, .ref hm, .ref mt, .int 0, .ref fv, .int 0, .int 0, .int 0, .int 0, .int 0, .int 0, .int (-1), .ref fr, ob_15, ob_16, ob_17, ob_18, ob_19, ob_20, ob_21, ob_22, ob_23, ob_24, ob_25, ob_26, ob_27, ob_28, ob_29, ob_30, ob_31, ob_32, ob_33, ob_34, .ref cd, ob_36, .ref my, .ref wi, .ref nb, .ref mv])), (wo, .inl (y 1, 9080, .inl fw))] H := hP
    have hD : va_D A [(ob, .inr (10, [ob_0, .ref wo, .ref mi, .ref hm, .ref mt, .int 0, .ref fv, .int 0, .int 0, .int 0, .int 0, .int 0, .int 0, .int (-1), .ref fr, ob_15, ob_16, ob_17, ob_18, ob_19, ob_20, ob_21, ob_22, ob_23, ob_24, ob_25, ob_26, ob_27, ob_28, ob_29, ob_30, ob_31, ob_32, ob_33, ob_34, .ref cd, ob_36, .ref my, .ref wi, .ref nb, .ref mv])), (wo, .inl (y 1, 9080, .inl fw))] := hD
    refine W.widen (k := 0) (n := 0) (Nat.le_of_ble_eq_true rfl) (Nat.le_of_ble_eq_true rfl) ?_
    exact W.zret (v := 0) hx hb hr rfl (fun t ht hW => ⟨⟨0, ([(ob, .inr (10, [ob_0, .ref wo, .ref mi, .ref hm, .ref mt, .int 0, .ref fv, .int 0, .int 0, .int 0, .int 0, .int 0, .int 0, .int (-1), .ref fr, ob_15, ob_16, ob_17, ob_18, ob_19, ob_20, ob_21, ob_22, ob_23, ob_24, ob_25, ob_26, ob_27, ob_28, ob_29, ob_30, ob_31, ob_32, ob_33, ob_34, .ref cd, ob_36, .ref my, .ref wi, .ref nb, .ref mv])), (wo, .inl (y 1, 9080, .inl fw))] : va_W), rfl, ⟨rfl, rfl⟩, by rw [ht]; exact hP, hD⟩, hS.F ht⟩) hS.2.2 dX10_isHouse_15

set_option maxHeartbeats 4000000 in
set_option maxRecDepth 100000 in
theorem kX10_areTwo (l : Launch) (G : va_G) (y : Nat → ClassId) (sz : Nat) (ob : Nat) (a1 : Int32) (a2 : Int32) (ob_0 : Value) (wo : Nat) (mi : Nat) (hm : Nat) (mt : Nat) (fv : Nat) (fr : Nat) (ob_15 : Value) (ob_16 : Value) (ob_17 : Value) (ob_18 : Value) (ob_19 : Value) (ob_20 : Value) (ob_21 : Value) (ob_22 : Value) (ob_23 : Value) (ob_24 : Value) (ob_25 : Value) (ob_26 : Value) (ob_27 : Value) (ob_28 : Value) (ob_29 : Value) (ob_30 : Value) (ob_31 : Value) (ob_32 : Value) (ob_33 : Value) (ob_34 : Value) (cd : Nat) (ob_36 : Value) (my : Nat) (wi : Nat) (nb : Nat) (mv : Nat) (fw : Nat → Int32) (z0 : fw 0 = 0) : Met l yX10_areTwo (Cond.code yX10_areTwo cX10_areTwo 3 (some .boolean) :: wAll) ({ frames := 2, cells := 0, slots := 0, locals := 46 }) (va_Pc [.ref ob, .int a1, .int a2] (kp G y sz [(ob, .inr (10, [ob_0, .ref wo, .ref mi, .ref hm, .ref mt, .int 0, .ref fv, .int 0, .int 0, .int 0, .int 0, .int 0, .int 0, .int (-1), .ref fr, ob_15, ob_16, ob_17, ob_18, ob_19, ob_20, ob_21, ob_22, ob_23, ob_24, ob_25, ob_26, ob_27, ob_28, ob_29, ob_30, ob_31, ob_32, ob_33, ob_34, .ref cd, ob_36, .ref my, .ref wi, .ref nb, .ref mv])), (wo, .inl (y 1, 9080, .inl fw))])) (va_Qi (fun (r : Int32) (w : va_W) => (r = 0 ∧ w = [(ob, .inr (10, [ob_0, .ref wo, .ref mi, .ref hm, .ref mt, .int 0, .ref fv, .int 0, .int 0, .int 0, .int 0, .int 0, .int 0, .int (-1), .ref fr, ob_15, ob_16, ob_17, ob_18, ob_19, ob_20, ob_21, ob_22, ob_23, ob_24, ob_25, ob_26, ob_27, ob_28, ob_29, ob_30, ob_31, ob_32, ob_33, ob_34, .ref cd, ob_36, .ref my, .ref wi, .ref nb, .ref mv])), (wo, .inl (y 1, 9080, .inl fw))])) (kq G (va_A [(ob, .inr (10, [ob_0, .ref wo, .ref mi, .ref hm, .ref mt, .int 0, .ref fv, .int 0, .int 0, .int 0, .int 0, .int 0, .int 0, .int (-1), .ref fr, ob_15, ob_16, ob_17, ob_18, ob_19, ob_20, ob_21, ob_22, ob_23, ob_24, ob_25, ob_26, ob_27, ob_28, ob_29, ob_30, ob_31, ob_32, ob_33, ob_34, .ref cd, ob_36, .ref my, .ref wi, .ref nb, .ref mv])), (wo, .inl (y 1, 9080, .inl fw))] sz)) (va_A [(ob, .inr (10, [ob_0, .ref wo, .ref mi, .ref hm, .ref mt, .int 0, .ref fv, .int 0, .int 0, .int 0, .int 0, .int 0, .int 0, .int (-1), .ref fr, ob_15, ob_16, ob_17, ob_18, ob_19, ob_20, ob_21, ob_22, ob_23, ob_24, ob_25, ob_26, ob_27, ob_28, ob_29, ob_30, ob_31, ob_32, ob_33, ob_34, .ref cd, ob_36, .ref my, .ref wi, .ref nb, .ref mv])), (wo, .inl (y 1, 9080, .inl fw))] sz)) 0 0 (va_A [(ob, .inr (10, [ob_0, .ref wo, .ref mi, .ref hm, .ref mt, .int 0, .ref fv, .int 0, .int 0, .int 0, .int 0, .int 0, .int 0, .int (-1), .ref fr, ob_15, ob_16, ob_17, ob_18, ob_19, ob_20, ob_21, ob_22, ob_23, ob_24, ob_25, ob_26, ob_27, ob_28, ob_29, ob_30, ob_31, ob_32, ob_33, ob_34, .ref cd, ob_36, .ref my, .ref wi, .ref nb, .ref mv])), (wo, .inl (y 1, 9080, .inl fw))] sz) := by
  refine Met.ofW (cc := cX10_areTwo) (maxL := 3) (ret := (some .boolean)) (by decide) rfl ?_
  intro p e s m args below meth c s₁ B hml hv
  obtain ⟨rfl, hsz, hP, hK, hD0⟩ := hv
  have hx := B.exec
  have hb := B.bytes
  have hr := B.returns
  have hw0 : ∀ w ∈ wAll, w.before _ s = true := fun w h => atoms_spec (ws := Cond.code yX10_areTwo cX10_areTwo 3 (some .boolean) :: wAll) B.pre w (List.mem_cons_of_mem _ h)
  have hown : s.vm.findClass RX10 = some m.cls := findClass_of_methodNamed B.named
  have hlocks := B.notSynchronized
  subst hsz
  have hD := hD0.self (sz := s.heap.size)
  generalize hAe : va_A [(ob, .inr (10, [ob_0, .ref wo, .ref mi, .ref hm, .ref mt, .int 0, .ref fv, .int 0, .int 0, .int 0, .int 0, .int 0, .int 0, .int (-1), .ref fr, ob_15, ob_16, ob_17, ob_18, ob_19, ob_20, ob_21, ob_22, ob_23, ob_24, ob_25, ob_26, ob_27, ob_28, ob_29, ob_30, ob_31, ob_32, ob_33, ob_34, .ref cd, ob_36, .ref my, .ref wi, .ref nb, .ref mv])), (wo, .inl (y 1, 9080, .inl fw))] s.heap.size = A at hD ⊢
  have hA : ∀ q : Nat, s.heap.size ≤ q → A q := fun q h => by rw [← hAe]; exact Or.inr h
  have hS : va_S A s.heap s.heap [] := va_S.rf
  have hP : va_P G vwCl [(ob, .inr (10, [ob_0, .ref wo, .ref mi, .ref hm, .ref mt, .int 0, .ref fv, .int 0, .int 0, .int 0, .int 0, .int 0, .int 0, .int (-1), .ref fr, ob_15, ob_16, ob_17, ob_18, ob_19, ob_20, ob_21, ob_22, ob_23, ob_24, ob_25, ob_26, ob_27, ob_28, ob_29, ob_30, ob_31, ob_32, ob_33, ob_34, .ref cd, ob_36, .ref my, .ref wi, .ref nb, .ref mv])), (wo, .inl (y 1, 9080, .inl fw))] s.heap := hP
  have hl := lv_entry ([.ref ob, .int a1, .int a2]) (n := 3) (Nat.le_of_ble_eq_true rfl)
  rw [lg_entry_eq]
  generalize (lg_sl ([.ref ob, .int a1, .int a2]) ++ List.replicate (3 - (lg_sl ([.ref ob, .int a1, .int a2])).length) Slot.unset).toArray = ls at hl ⊢
  have hl : lv_has ls 3 [(0, .ref ob), (1, .int a1), (2, .int a2)] := hl
  refine lv_aload_n hx hb dX10_areTwo_0 rfl (lv_at hl 0 rfl) ?_
  refine lv_iload_n hx hb dX10_areTwo_1 rfl (lv_at hl 1 rfl) ?_
  refine cVi (As := [.int a1]) (rest := []) ⟨hx, hb, hml, hown, hw0⟩ hA hK hP hD hS [0, 1] [] [(ob, .inr (10, [ob_0, .ref wo, .ref mi, .ref hm, .ref mt, .int 0, .ref fv, .int 0, .int 0, .int 0, .int 0, .int 0, .int 0, .int (-1), .ref fr, ob_15, ob_16, ob_17, ob_18, ob_19, ob_20, ob_21, ob_22, ob_23, ob_24, ob_25, ob_26, ob_27, ob_28, ob_29, ob_30, ob_31, ob_32, ob_33, ob_34, .ref cd, ob_36, .ref my, .ref wi, .ref nb, .ref mv])), (wo, .inl (y 1, 9080, .inl fw))] [] rfl rfl (by decide) (by decide) (by decide) (kX10_isHouse l G y _ ob a1 (ob_0) wo mi hm mt fv fr (ob_15) (ob_16) (ob_17) (ob_18) (ob_19) (ob_20) (ob_21) (ob_22) (ob_23) (ob_24) (ob_25) (ob_26) (ob_27) (ob_28) (ob_29) (ob_30) (ob_31) (ob_32) (ob_33) (ob_34) cd (ob_36) my wi nb mv fw z0) ⟨(callB_of 1 hw0 (gA m_356) rfl rfl rfl (hw0 _ m_166) (hw0 _ m_357) (by decide +kernel) ⟨Nat.le_of_ble_eq_true rfl, Nat.le_of_ble_eq_true rfl⟩), (hw0 _ m_358), (hw0 _ m_359)⟩ (ci := 10) (q := (RX10, TX10, 41)) rfl rfl rfl hl.1 (Nat.le_of_ble_eq_true rfl) dX10_areTwo_2 ⟨Nat.le_of_ble_eq_true rfl, Nat.le_of_ble_eq_true rfl⟩ (fun r_1 w_1 H locs hw_1 hP hD hS => ?_)
  obtain ⟨rfl, rfl⟩ := hw_1
  have hP : va_P G vwCl [(ob, .inr (10, [ob_0, .ref wo, .ref mi, .ref hm, .ref mt, .int 0, .ref fv, .int 0, .int 0, .int 0, .int 0, .int 0, .int 0, .int (-1), .ref fr, ob_15, ob_16, ob_17, ob_18, ob_19, ob_20, ob_21, ob_22, ob_23, ob_24, ob_25, ob_26, ob_27, ob_28, ob_29, ob_30, ob_31, ob_32, ob_33, ob_34, .ref cd, ob_36, .ref my, .ref wi, .ref nb, .ref mv])), (wo, .inl (y 1, 9080, .inl fw))] H := hP
  have hD : va_D A [(ob, .inr (10, [ob_0, .ref wo, .ref mi, .ref hm, .ref mt, .int 0, .ref fv, .int 0, .int 0, .int 0, .int 0, .int 0, .int 0, .int (-1), .ref fr, ob_15, ob_16, ob_17, ob_18, ob_19, ob_20, ob_21, ob_22, ob_23, ob_24, ob_25, ob_26, ob_27, ob_28, ob_29, ob_30, ob_31, ob_32, ob_33, ob_34, .ref cd, ob_36, .ref my, .ref wi, .ref nb, .ref mv])), (wo, .inl (y 1, 9080, .inl fw))] := hD
  refine lv_if_eq (tgt := 25) hx hb dX10_areTwo_5 (by decide) (fun _ => ?_) (fun c9 => absurd (by decide) c9)
  refine lv_iconst (v := 0) hx hb dX10_areTwo_25 (by decide) ?_
  refine W.widen (k := 0) (n := 0) (Nat.le_of_ble_eq_true rfl) (Nat.le_of_ble_eq_true rfl) ?_
  exact W.zret (v := 0) hx hb hr rfl (fun t ht hW => ⟨⟨0, ([(ob, .inr (10, [ob_0, .ref wo, .ref mi, .ref hm, .ref mt, .int 0, .ref fv, .int 0, .int 0, .int 0, .int 0, .int 0, .int 0, .int (-1), .ref fr, ob_15, ob_16, ob_17, ob_18, ob_19, ob_20, ob_21, ob_22, ob_23, ob_24, ob_25, ob_26, ob_27, ob_28, ob_29, ob_30, ob_31, ob_32, ob_33, ob_34, .ref cd, ob_36, .ref my, .ref wi, .ref nb, .ref mv])), (wo, .inl (y 1, 9080, .inl fw))] : va_W), rfl, ⟨rfl, rfl⟩, by rw [ht]; exact hP, hD⟩, hS.F ht⟩) hS.2.2 dX10_areTwo_26

set_option maxHeartbeats 4000000 in
set_option maxRecDepth 100000 in
theorem kX10_isRound (l : Launch) (G : va_G) (y : Nat → ClassId) (sz : Nat) (ob : Nat) (a1 : Int32) (a2 : Int32) (ob_0 : Value) (wo : Nat) (mi : Nat) (hm : Nat) (mt : Nat) (fv : Nat) (fr : Nat) (ob_15 : Value) (ob_16 : Value) (ob_17 : Value) (ob_18 : Value) (ob_19 : Value) (ob_20 : Value) (ob_21 : Value) (ob_22 : Value) (ob_23 : Value) (ob_24 : Value) (ob_25 : Value) (ob_26 : Value) (ob_27 : Value) (ob_28 : Value) (ob_29 : Value) (ob_30 : Value) (ob_31 : Value) (ob_32 : Value) (ob_33 : Value) (ob_34 : Value) (cd : Nat) (ob_36 : Value) (my : Nat) (wi : Nat) (nb : Nat) (mv : Nat) (fw : Nat → Int32) (z0 : fw 0 = 0) : Met l yX10_isRound (Cond.code yX10_isRound cX10_isRound 3 (some .boolean) :: wAll) ({ frames := 2, cells := 0, slots := 0, locals := 46 }) (va_Pc [.ref ob, .int a1, .int a2] (kp G y sz [(ob, .inr (10, [ob_0, .ref wo, .ref mi, .ref hm, .ref mt, .int 0, .ref fv, .int 0, .int 0, .int 0, .int 0, .int 0, .int 0, .int (-1), .ref fr, ob_15, ob_16, ob_17, ob_18, ob_19, ob_20, ob_21, ob_22, ob_23, ob_24, ob_25, ob_26, ob_27, ob_28, ob_29, ob_30, ob_31, ob_32, ob_33, ob_34, .ref cd, ob_36, .ref my, .ref wi, .ref nb, .ref mv])), (wo, .inl (y 1, 9080, .inl fw))])) (va_Qi (fun (r : Int32) (w : va_W) => (r = 0 ∧ w = [(ob, .inr (10, [ob_0, .ref wo, .ref mi, .ref hm, .ref mt, .int 0, .ref fv, .int 0, .int 0, .int 0, .int 0, .int 0, .int 0, .int (-1), .ref fr, ob_15, ob_16, ob_17, ob_18, ob_19, ob_20, ob_21, ob_22, ob_23, ob_24, ob_25, ob_26, ob_27, ob_28, ob_29, ob_30, ob_31, ob_32, ob_33, ob_34, .ref cd, ob_36, .ref my, .ref wi, .ref nb, .ref mv])), (wo, .inl (y 1, 9080, .inl fw))])) (kq G (va_A [(ob, .inr (10, [ob_0, .ref wo, .ref mi, .ref hm, .ref mt, .int 0, .ref fv, .int 0, .int 0, .int 0, .int 0, .int 0, .int 0, .int (-1), .ref fr, ob_15, ob_16, ob_17, ob_18, ob_19, ob_20, ob_21, ob_22, ob_23, ob_24, ob_25, ob_26, ob_27, ob_28, ob_29, ob_30, ob_31, ob_32, ob_33, ob_34, .ref cd, ob_36, .ref my, .ref wi, .ref nb, .ref mv])), (wo, .inl (y 1, 9080, .inl fw))] sz)) (va_A [(ob, .inr (10, [ob_0, .ref wo, .ref mi, .ref hm, .ref mt, .int 0, .ref fv, .int 0, .int 0, .int 0, .int 0, .int 0, .int 0, .int (-1), .ref fr, ob_15, ob_16, ob_17, ob_18, ob_19, ob_20, ob_21, ob_22, ob_23, ob_24, ob_25, ob_26, ob_27, ob_28, ob_29, ob_30, ob_31, ob_32, ob_33, ob_34, .ref cd, ob_36, .ref my, .ref wi, .ref nb, .ref mv])), (wo, .inl (y 1, 9080, .inl fw))] sz)) 0 0 (va_A [(ob, .inr (10, [ob_0, .ref wo, .ref mi, .ref hm, .ref mt, .int 0, .ref fv, .int 0, .int 0, .int 0, .int 0, .int 0, .int 0, .int (-1), .ref fr, ob_15, ob_16, ob_17, ob_18, ob_19, ob_20, ob_21, ob_22, ob_23, ob_24, ob_25, ob_26, ob_27, ob_28, ob_29, ob_30, ob_31, ob_32, ob_33, ob_34, .ref cd, ob_36, .ref my, .ref wi, .ref nb, .ref mv])), (wo, .inl (y 1, 9080, .inl fw))] sz) := by
  refine Met.ofW (cc := cX10_isRound) (maxL := 3) (ret := (some .boolean)) (by decide) rfl ?_
  intro p e s m args below meth c s₁ B hml hv
  obtain ⟨rfl, hsz, hP, hK, hD0⟩ := hv
  have hx := B.exec
  have hb := B.bytes
  have hr := B.returns
  have hw0 : ∀ w ∈ wAll, w.before _ s = true := fun w h => atoms_spec (ws := Cond.code yX10_isRound cX10_isRound 3 (some .boolean) :: wAll) B.pre w (List.mem_cons_of_mem _ h)
  have hown : s.vm.findClass RX10 = some m.cls := findClass_of_methodNamed B.named
  have hlocks := B.notSynchronized
  subst hsz
  have hD := hD0.self (sz := s.heap.size)
  generalize hAe : va_A [(ob, .inr (10, [ob_0, .ref wo, .ref mi, .ref hm, .ref mt, .int 0, .ref fv, .int 0, .int 0, .int 0, .int 0, .int 0, .int 0, .int (-1), .ref fr, ob_15, ob_16, ob_17, ob_18, ob_19, ob_20, ob_21, ob_22, ob_23, ob_24, ob_25, ob_26, ob_27, ob_28, ob_29, ob_30, ob_31, ob_32, ob_33, ob_34, .ref cd, ob_36, .ref my, .ref wi, .ref nb, .ref mv])), (wo, .inl (y 1, 9080, .inl fw))] s.heap.size = A at hD ⊢
  have hA : ∀ q : Nat, s.heap.size ≤ q → A q := fun q h => by rw [← hAe]; exact Or.inr h
  have hS : va_S A s.heap s.heap [] := va_S.rf
  have hP : va_P G vwCl [(ob, .inr (10, [ob_0, .ref wo, .ref mi, .ref hm, .ref mt, .int 0, .ref fv, .int 0, .int 0, .int 0, .int 0, .int 0, .int 0, .int (-1), .ref fr, ob_15, ob_16, ob_17, ob_18, ob_19, ob_20, ob_21, ob_22, ob_23, ob_24, ob_25, ob_26, ob_27, ob_28, ob_29, ob_30, ob_31, ob_32, ob_33, ob_34, .ref cd, ob_36, .ref my, .ref wi, .ref nb, .ref mv])), (wo, .inl (y 1, 9080, .inl fw))] s.heap := hP
  have hl := lv_entry ([.ref ob, .int a1, .int a2]) (n := 3) (Nat.le_of_ble_eq_true rfl)
  rw [lg_entry_eq]
  generalize (lg_sl ([.ref ob, .int a1, .int a2]) ++ List.replicate (3 - (lg_sl ([.ref ob, .int a1, .int a2])).length) Slot.unset).toArray = ls at hl ⊢
  have hl : lv_has ls 3 [(0, .ref ob), (1, .int a1), (2, .int a2)] := hl
  refine lv_aload_n hx hb dX10_isRound_0 rfl (lv_at hl 0 rfl) ?_
  refine lv_iload_n hx hb dX10_isRound_1 rfl (lv_at hl 1 rfl) ?_
  refine cVi (As := [.int a1]) (rest := []) ⟨hx, hb, hml, hown, hw0⟩ hA hK hP hD hS [0, 1] [] [(ob, .inr (10, [ob_0, .ref wo, .ref mi, .ref hm, .ref mt, .int 0, .ref fv, .int 0, .int 0, .int 0, .int 0, .int 0, .int 0, .int (-1), .ref fr, ob_15, ob_16, ob_17, ob_18, ob_19, ob_20, ob_21, ob_22, ob_23, ob_24, ob_25, ob_26, ob_27, ob_28, ob_29, ob_30, ob_31, ob_32, ob_33, ob_34, .ref cd, ob_36, .ref my, .ref wi, .ref nb, .ref mv])), (wo, .inl (y 1, 9080, .inl fw))] [] rfl rfl (by decide) (by decide) (by decide) (kX10_isHouse l G y _ ob a1 (ob_0) wo mi hm mt fv fr (ob_15) (ob_16) (ob_17) (ob_18) (ob_19) (ob_20) (ob_21) (ob_22) (ob_23) (ob_24) (ob_25) (ob_26) (ob_27) (ob_28) (ob_29) (ob_30) (ob_31) (ob_32) (ob_33) (ob_34) cd (ob_36) my wi nb mv fw z0) ⟨(callB_of 1 hw0 (gA m_356) rfl rfl rfl (hw0 _ m_166) (hw0 _ m_357) (by decide +kernel) ⟨Nat.le_of_ble_eq_true rfl, Nat.le_of_ble_eq_true rfl⟩), (hw0 _ m_358), (hw0 _ m_359)⟩ (ci := 10) (q := (RX10, TX10, 41)) rfl rfl rfl hl.1 (Nat.le_of_ble_eq_true rfl) dX10_isRound_2 ⟨Nat.le_of_ble_eq_true rfl, Nat.le_of_ble_eq_true rfl⟩ (fun r_1 w_1 H locs hw_1 hP hD hS => ?_)
  obtain ⟨rfl, rfl⟩ := hw_1
  have hP : va_P G vwCl [(ob, .inr (10, [ob_0, .ref wo, .ref mi, .ref hm, .ref mt, .int 0, .ref fv, .int 0, .int 0, .int 0, .int 0, .int 0, .int 0, .int (-1), .ref fr, ob_15, ob_16, ob_17, ob_18, ob_19, ob_20, ob_21, ob_22, ob_23, ob_24, ob_25, ob_26, ob_27, ob_28, ob_29, ob_30, ob_31, ob_32, ob_33, ob_34, .ref cd, ob_36, .ref my, .ref wi, .ref nb, .ref mv])), (wo, .inl (y 1, 9080, .inl fw))] H := hP
  have hD : va_D A [(ob, .inr (10, [ob_0, .ref wo, .ref mi, .ref hm, .ref mt, .int 0, .ref fv, .int 0, .int 0, .int 0, .int 0, .int 0, .int 0, .int (-1), .ref fr, ob_15, ob_16, ob_17, ob_18, ob_19, ob_20, ob_21, ob_22, ob_23, ob_24, ob_25, ob_26, ob_27, ob_28, ob_29, ob_30, ob_31, ob_32, ob_33, ob_34, .ref cd, ob_36, .ref my, .ref wi, .ref nb, .ref mv])), (wo, .inl (y 1, 9080, .inl fw))] := hD
  refine lv_if_eq (tgt := 28) hx hb dX10_isRound_5 (by decide) (fun _ => ?_) (fun c9 => absurd (by decide) c9)
  refine lv_iconst (v := 0) hx hb dX10_isRound_28 (by decide) ?_
  refine W.widen (k := 0) (n := 0) (Nat.le_of_ble_eq_true rfl) (Nat.le_of_ble_eq_true rfl) ?_
  exact W.zret (v := 0) hx hb hr rfl (fun t ht hW => ⟨⟨0, ([(ob, .inr (10, [ob_0, .ref wo, .ref mi, .ref hm, .ref mt, .int 0, .ref fv, .int 0, .int 0, .int 0, .int 0, .int 0, .int 0, .int (-1), .ref fr, ob_15, ob_16, ob_17, ob_18, ob_19, ob_20, ob_21, ob_22, ob_23, ob_24, ob_25, ob_26, ob_27, ob_28, ob_29, ob_30, ob_31, ob_32, ob_33, ob_34, .ref cd, ob_36, .ref my, .ref wi, .ref nb, .ref mv])), (wo, .inl (y 1, 9080, .inl fw))] : va_W), rfl, ⟨rfl, rfl⟩, by rw [ht]; exact hP, hD⟩, hS.F ht⟩) hS.2.2 dX10_isRound_29

set_option maxHeartbeats 4000000 in
set_option maxRecDepth 100000 in
theorem kX10_bars (l : Launch) (G : va_G) (y : Nat → ClassId) (sz : Nat) (ob : Nat) (a1 : Int32) (a2 : Int32) (a3 : Int32) (ob_0 : Value) (wo : Nat) (mi : Nat) (hm : Nat) (mt : Nat) (fv : Nat) (fr : Nat) (ob_15 : Value) (ob_16 : Value) (ob_17 : Value) (ob_18 : Value) (ob_19 : Value) (ob_20 : Value) (ob_21 : Value) (ob_22 : Value) (ob_23 : Value) (ob_24 : Value) (ob_25 : Value) (ob_26 : Value) (ob_27 : Value) (ob_28 : Value) (ob_29 : Value) (ob_30 : Value) (ob_31 : Value) (ob_32 : Value) (ob_33 : Value) (ob_34 : Value) (cd : Nat) (ob_36 : Value) (my : Nat) (wi : Nat) (nb : Nat) (mv : Nat) (fw : Nat → Int32) (z0 : fw 0 = 0) : Met l yX10_bars (Cond.code yX10_bars cX10_bars 4 (some .int) :: wAll) ({ frames := 3, cells := 0, slots := 0, locals := 68 }) (va_Pc [.ref ob, .int a1, .int a2, .int a3] (kp G y sz [(ob, .inr (10, [ob_0, .ref wo, .ref mi, .ref hm, .ref mt, .int 0, .ref fv, .int 0, .int 0, .int 0, .int 0, .int 0, .int 0, .int (-1), .ref fr, ob_15, ob_16, ob_17, ob_18, ob_19, ob_20, ob_21, ob_22, ob_23, ob_24, ob_25, ob_26, ob_27, ob_28, ob_29, ob_30, ob_31, ob_32, ob_33, ob_34, .ref cd, ob_36, .ref my, .ref wi, .ref nb, .ref mv])), (wo, .inl (y 1, 9080, .inl fw))])) (va_Qi (fun (r : Int32) (_ : va_W) => r = -2) (kq G (va_A [(ob, .inr (10, [ob_0, .ref wo, .ref mi, .ref hm, .ref mt, .int 0, .ref fv, .int 0, .int 0, .int 0, .int 0, .int 0, .int 0, .int (-1), .ref fr, ob_15, ob_16, ob_17, ob_18, ob_19, ob_20, ob_21, ob_22, ob_23, ob_24, ob_25, ob_26, ob_27, ob_28, ob_29, ob_30, ob_31, ob_32, ob_33, ob_34, .ref cd, ob_36, .ref my, .ref wi, .ref nb, .ref mv])), (wo, .inl (y 1, 9080, .inl fw))] sz)) (va_A [(ob, .inr (10, [ob_0, .ref wo, .ref mi, .ref hm, .ref mt, .int 0, .ref fv, .int 0, .int 0, .int 0, .int 0, .int 0, .int 0, .int (-1), .ref fr, ob_15, ob_16, ob_17, ob_18, ob_19, ob_20, ob_21, ob_22, ob_23, ob_24, ob_25, ob_26, ob_27, ob_28, ob_29, ob_30, ob_31, ob_32, ob_33, ob_34, .ref cd, ob_36, .ref my, .ref wi, .ref nb, .ref mv])), (wo, .inl (y 1, 9080, .inl fw))] sz)) 0 0 (va_A [(ob, .inr (10, [ob_0, .ref wo, .ref mi, .ref hm, .ref mt, .int 0, .ref fv, .int 0, .int 0, .int 0, .int 0, .int 0, .int 0, .int (-1), .ref fr, ob_15, ob_16, ob_17, ob_18, ob_19, ob_20, ob_21, ob_22, ob_23, ob_24, ob_25, ob_26, ob_27, ob_28, ob_29, ob_30, ob_31, ob_32, ob_33, ob_34, .ref cd, ob_36, .ref my, .ref wi, .ref nb, .ref mv])), (wo, .inl (y 1, 9080, .inl fw))] sz) := by
  refine Met.ofW (cc := cX10_bars) (maxL := 4) (ret := (some .int)) (by decide) rfl ?_
  intro p e s m args below meth c s₁ B hml hv
  obtain ⟨rfl, hsz, hP, hK, hD0⟩ := hv
  have hx := B.exec
  have hb := B.bytes
  have hr := B.returns
  have hw0 : ∀ w ∈ wAll, w.before _ s = true := fun w h => atoms_spec (ws := Cond.code yX10_bars cX10_bars 4 (some .int) :: wAll) B.pre w (List.mem_cons_of_mem _ h)
  have hown : s.vm.findClass RX10 = some m.cls := findClass_of_methodNamed B.named
  have hlocks := B.notSynchronized
  subst hsz
  have hD := hD0.self (sz := s.heap.size)
  generalize hAe : va_A [(ob, .inr (10, [ob_0, .ref wo, .ref mi, .ref hm, .ref mt, .int 0, .ref fv, .int 0, .int 0, .int 0, .int 0, .int 0, .int 0, .int (-1), .ref fr, ob_15, ob_16, ob_17, ob_18, ob_19, ob_20, ob_21, ob_22, ob_23, ob_24, ob_25, ob_26, ob_27, ob_28, ob_29, ob_30, ob_31, ob_32, ob_33, ob_34, .ref cd, ob_36, .ref my, .ref wi, .ref nb, .ref mv])), (wo, .inl (y 1, 9080, .inl fw))] s.heap.size = A at hD ⊢
  have hA : ∀ q : Nat, s.heap.size ≤ q → A q := fun q h => by rw [← hAe]; exact Or.inr h
  have hS : va_S A s.heap s.heap [] := va_S.rf
  have hP : va_P G vwCl [(ob, .inr (10, [ob_0, .ref wo, .ref mi, .ref hm, .ref mt, .int 0, .ref fv, .int 0, .int 0, .int 0, .int 0, .int 0, .int 0, .int (-1), .ref fr, ob_15, ob_16, ob_17, ob_18, ob_19, ob_20, ob_21, ob_22, ob_23, ob_24, ob_25, ob_26, ob_27, ob_28, ob_29, ob_30, ob_31, ob_32, ob_33, ob_34, .ref cd, ob_36, .ref my, .ref wi, .ref nb, .ref mv])), (wo, .inl (y 1, 9080, .inl fw))] s.heap := hP
  have hl := lv_entry ([.ref ob, .int a1, .int a2, .int a3]) (n := 4) (Nat.le_of_ble_eq_true rfl)
  rw [lg_entry_eq]
  generalize (lg_sl ([.ref ob, .int a1, .int a2, .int a3]) ++ List.replicate (4 - (lg_sl ([.ref ob, .int a1, .int a2, .int a3])).length) Slot.unset).toArray = ls at hl ⊢
  have hl : lv_has ls 4 [(0, .ref ob), (1, .int a1), (2, .int a2), (3, .int a3)] := hl
  refine lv_aload_n hx hb dX10_bars_0 rfl (lv_at hl 0 rfl) ?_
  refine lv_iload_n hx hb dX10_bars_1 rfl (lv_at hl 1 rfl) ?_
  refine lv_iload_n hx hb dX10_bars_2 rfl (lv_at hl 2 rfl) ?_
  refine cVi (As := [.int a1, .int a2]) (rest := []) ⟨hx, hb, hml, hown, hw0⟩ hA hK hP hD hS [0, 1] [] [(ob, .inr (10, [ob_0, .ref wo, .ref mi, .ref hm, .ref mt, .int 0, .ref fv, .int 0, .int 0, .int 0, .int 0, .int 0, .int 0, .int (-1), .ref fr, ob_15, ob_16, ob_17, ob_18, ob_19, ob_20, ob_21, ob_22, ob_23, ob_24, ob_25, ob_26, ob_27, ob_28, ob_29, ob_30, ob_31, ob_32, ob_33, ob_34, .ref cd, ob_36, .ref my, .ref wi, .ref nb, .ref mv])), (wo, .inl (y 1, 9080, .inl fw))] [] rfl rfl (by decide) (by decide) (by decide) (kX10_areTwo l G y _ ob a1 a2 (ob_0) wo mi hm mt fv fr (ob_15) (ob_16) (ob_17) (ob_18) (ob_19) (ob_20) (ob_21) (ob_22) (ob_23) (ob_24) (ob_25) (ob_26) (ob_27) (ob_28) (ob_29) (ob_30) (ob_31) (ob_32) (ob_33) (ob_34) cd (ob_36) my wi nb mv fw z0) ⟨(callB_of 2 hw0 (gA m_360) rfl rfl rfl (hw0 _ m_166) (hw0 _ m_362) (by decide +kernel) ⟨Nat.le_of_ble_eq_true rfl, Nat.le_of_ble_eq_true rfl⟩), (hw0 _ m_363), (hw0 _ m_364)⟩ (ci := 10) (q := (RX10, TX10, 41)) rfl rfl rfl hl.1 (Nat.le_of_ble_eq_true rfl) dX10_bars_3 ⟨Nat.le_of_ble_eq_true rfl, Nat.le_of_ble_eq_true rfl⟩ (fun r_1 w_1 H locs hw_1 hP hD hS => ?_)
  obtain ⟨rfl, rfl⟩ := hw_1
  have hP : va_P G vwCl [(ob, .inr (10, [ob_0, .ref wo, .ref mi, .ref hm, .ref mt, .int 0, .ref fv, .int 0, .int 0, .int 0, .int 0, .int 0, .int 0, .int (-1), .ref fr, ob_15, ob_16, ob_17, ob_18, ob_19, ob_20, ob_21, ob_22, ob_23, ob_24, ob_25, ob_26, ob_27, ob_28, ob_29, ob_30, ob_31, ob_32, ob_33, ob_34, .ref cd, ob_36, .ref my, .ref wi, .ref nb, .ref mv])), (wo, .inl (y 1, 9080, .inl fw))] H := hP
  have hD : va_D A [(ob, .inr (10, [ob_0, .ref wo, .ref mi, .ref hm, .ref mt, .int 0, .ref fv, .int 0, .int 0, .int 0, .int 0, .int 0, .int 0, .int (-1), .ref fr, ob_15, ob_16, ob_17, ob_18, ob_19, ob_20, ob_21, ob_22, ob_23, ob_24, ob_25, ob_26, ob_27, ob_28, ob_29, ob_30, ob_31, ob_32, ob_33, ob_34, .ref cd, ob_36, .ref my, .ref wi, .ref nb, .ref mv])), (wo, .inl (y 1, 9080, .inl fw))] := hD
  refine lv_if_eq (tgt := 26) hx hb dX10_bars_6 (by decide) (fun _ => ?_) (fun c9 => absurd (by decide) c9)
  refine lv_bipush (v := (-2)) hx hb dX10_bars_26 (by decide) ?_
  refine W.widen (k := 0) (n := 0) (Nat.le_of_ble_eq_true rfl) (Nat.le_of_ble_eq_true rfl) ?_
  exact W.iret (v := (-2)) hx hb hr (fun t ht hW => ⟨⟨(-2), _, rfl, rfl, by rw [ht]; exact hP, hD⟩, hS.F ht⟩) hS.2.2 dX10_bars_28

set_option maxHeartbeats 4000000 in
set_option maxRecDepth 100000 in
theorem kX10_does (l : Launch) (G : va_G) (y : Nat → ClassId) (sz : Nat) (ob : Nat) (a1 : Int32) (a2 : Int32) (a3 : Int32) (ob_0 : Value) (wo : Nat) (mi : Nat) (hm : Nat) (mt : Nat) (fv : Nat) (fr : Nat) (ob_15 : Value) (ob_16 : Value) (ob_17 : Value) (ob_18 : Value) (ob_19 : Value) (ob_20 : Value) (ob_21 : Value) (ob_22 : Value) (ob_23 : Value) (ob_24 : Value) (ob_25 : Value) (ob_26 : Value) (ob_27 : Value) (ob_28 : Value) (ob_29 : Value) (ob_30 : Value) (ob_31 : Value) (ob_32 : Value) (ob_33 : Value) (ob_34 : Value) (cd : Nat) (ob_36 : Value) (my : Nat) (wi : Nat) (nb : Nat) (mv : Nat) (fw : Nat → Int32) (z0 : fw 0 = 0) : Met l yX10_does (Cond.code yX10_does cX10_does 4 (some .int) :: wAll) ({ frames := 3, cells := 0, slots := 0, locals := 68 }) (va_Pc [.ref ob, .int a1, .int a2, .int a3] (kp G y sz [(ob, .inr (10, [ob_0, .ref wo, .ref mi, .ref hm, .ref mt, .int 0, .ref fv, .int 0, .int 0, .int 0, .int 0, .int 0, .int 0, .int (-1), .ref fr, ob_15, ob_16, ob_17, ob_18, ob_19, ob_20, ob_21, ob_22, ob_23, ob_24, ob_25, ob_26, ob_27, ob_28, ob_29, ob_30, ob_31, ob_32, ob_33, ob_34, .ref cd, ob_36, .ref my, .ref wi, .ref nb, .ref mv])), (wo, .inl (y 1, 9080, .inl fw))])) (va_Qi (fun (r : Int32) (_ : va_W) => r = -2) (kq G (va_A [(ob, .inr (10, [ob_0, .ref wo, .ref mi, .ref hm, .ref mt, .int 0, .ref fv, .int 0, .int 0, .int 0, .int 0, .int 0, .int 0, .int (-1), .ref fr, ob_15, ob_16, ob_17, ob_18, ob_19, ob_20, ob_21, ob_22, ob_23, ob_24, ob_25, ob_26, ob_27, ob_28, ob_29, ob_30, ob_31, ob_32, ob_33, ob_34, .ref cd, ob_36, .ref my, .ref wi, .ref nb, .ref mv])), (wo, .inl (y 1, 9080, .inl fw))] sz)) (va_A [(ob, .inr (10, [ob_0, .ref wo, .ref mi, .ref hm, .ref mt, .int 0, .ref fv, .int 0, .int 0, .int 0, .int 0, .int 0, .int 0, .int (-1), .ref fr, ob_15, ob_16, ob_17, ob_18, ob_19, ob_20, ob_21, ob_22, ob_23, ob_24, ob_25, ob_26, ob_27, ob_28, ob_29, ob_30, ob_31, ob_32, ob_33, ob_34, .ref cd, ob_36, .ref my, .ref wi, .ref nb, .ref mv])), (wo, .inl (y 1, 9080, .inl fw))] sz)) 0 0 (va_A [(ob, .inr (10, [ob_0, .ref wo, .ref mi, .ref hm, .ref mt, .int 0, .ref fv, .int 0, .int 0, .int 0, .int 0, .int 0, .int 0, .int (-1), .ref fr, ob_15, ob_16, ob_17, ob_18, ob_19, ob_20, ob_21, ob_22, ob_23, ob_24, ob_25, ob_26, ob_27, ob_28, ob_29, ob_30, ob_31, ob_32, ob_33, ob_34, .ref cd, ob_36, .ref my, .ref wi, .ref nb, .ref mv])), (wo, .inl (y 1, 9080, .inl fw))] sz) := by
  refine Met.ofW (cc := cX10_does) (maxL := 4) (ret := (some .int)) (by decide) rfl ?_
  intro p e s m args below meth c s₁ B hml hv
  obtain ⟨rfl, hsz, hP, hK, hD0⟩ := hv
  have hx := B.exec
  have hb := B.bytes
  have hr := B.returns
  have hw0 : ∀ w ∈ wAll, w.before _ s = true := fun w h => atoms_spec (ws := Cond.code yX10_does cX10_does 4 (some .int) :: wAll) B.pre w (List.mem_cons_of_mem _ h)
  have hown : s.vm.findClass RX10 = some m.cls := findClass_of_methodNamed B.named
  have hlocks := B.notSynchronized
  subst hsz
  have hD := hD0.self (sz := s.heap.size)
  generalize hAe : va_A [(ob, .inr (10, [ob_0, .ref wo, .ref mi, .ref hm, .ref mt, .int 0, .ref fv, .int 0, .int 0, .int 0, .int 0, .int 0, .int 0, .int (-1), .ref fr, ob_15, ob_16, ob_17, ob_18, ob_19, ob_20, ob_21, ob_22, ob_23, ob_24, ob_25, ob_26, ob_27, ob_28, ob_29, ob_30, ob_31, ob_32, ob_33, ob_34, .ref cd, ob_36, .ref my, .ref wi, .ref nb, .ref mv])), (wo, .inl (y 1, 9080, .inl fw))] s.heap.size = A at hD ⊢
  have hA : ∀ q : Nat, s.heap.size ≤ q → A q := fun q h => by rw [← hAe]; exact Or.inr h
  have hS : va_S A s.heap s.heap [] := va_S.rf
  have hP : va_P G vwCl [(ob, .inr (10, [ob_0, .ref wo, .ref mi, .ref hm, .ref mt, .int 0, .ref fv, .int 0, .int 0, .int 0, .int 0, .int 0, .int 0, .int (-1), .ref fr, ob_15, ob_16, ob_17, ob_18, ob_19, ob_20, ob_21, ob_22, ob_23, ob_24, ob_25, ob_26, ob_27, ob_28, ob_29, ob_30, ob_31, ob_32, ob_33, ob_34, .ref cd, ob_36, .ref my, .ref wi, .ref nb, .ref mv])), (wo, .inl (y 1, 9080, .inl fw))] s.heap := hP
  have hl := lv_entry ([.ref ob, .int a1, .int a2, .int a3]) (n := 4) (Nat.le_of_ble_eq_true rfl)
  rw [lg_entry_eq]
  generalize (lg_sl ([.ref ob, .int a1, .int a2, .int a3]) ++ List.replicate (4 - (lg_sl ([.ref ob, .int a1, .int a2, .int a3])).length) Slot.unset).toArray = ls at hl ⊢
  have hl : lv_has ls 4 [(0, .ref ob), (1, .int a1), (2, .int a2), (3, .int a3)] := hl
  refine lv_aload_n hx hb dX10_does_0 rfl (lv_at hl 0 rfl) ?_
  refine lv_iload_n hx hb dX10_does_1 rfl (lv_at hl 1 rfl) ?_
  refine lv_iload_n hx hb dX10_does_2 rfl (lv_at hl 2 rfl) ?_
  refine cVi (As := [.int a1, .int a2]) (rest := []) ⟨hx, hb, hml, hown, hw0⟩ hA hK hP hD hS [0, 1] [] [(ob, .inr (10, [ob_0, .ref wo, .ref mi, .ref hm, .ref mt, .int 0, .ref fv, .int 0, .int 0, .int 0, .int 0, .int 0, .int 0, .int (-1), .ref fr, ob_15, ob_16, ob_17, ob_18, ob_19, ob_20, ob_21, ob_22, ob_23, ob_24, ob_25, ob_26, ob_27, ob_28, ob_29, ob_30, ob_31, ob_32, ob_33, ob_34, .ref cd, ob_36, .ref my, .ref wi, .ref nb, .ref mv])), (wo, .inl (y 1, 9080, .inl fw))] [] rfl rfl (by decide) (by decide) (by decide) (kX10_areTwo l G y _ ob a1 a2 (ob_0) wo mi hm mt fv fr (ob_15) (ob_16) (ob_17) (ob_18) (ob_19) (ob_20) (ob_21) (ob_22) (ob_23) (ob_24) (ob_25) (ob_26) (ob_27) (ob_28) (ob_29) (ob_30) (ob_31) (ob_32) (ob_33) (ob_34) cd (ob_36) my wi nb mv fw z0) ⟨(callB_of 2 hw0 (gA m_360) rfl rfl rfl (hw0 _ m_166) (hw0 _ m_362) (by decide +kernel) ⟨Nat.le_of_ble_eq_true rfl, Nat.le_of_ble_eq_true rfl⟩), (hw0 _ m_363), (hw0 _ m_364)⟩ (ci := 10) (q := (RX10, TX10, 41)) rfl rfl rfl hl.1 (Nat.le_of_ble_eq_true rfl) dX10_does_3 ⟨Nat.le_of_ble_eq_true rfl, Nat.le_of_ble_eq_true rfl⟩ (fun r_1 w_1 H locs hw_1 hP hD hS => ?_)
  obtain ⟨rfl, rfl⟩ := hw_1
  have hP : va_P G vwCl [(ob, .inr (10, [ob_0, .ref wo, .ref mi, .ref hm, .ref mt, .int 0, .ref fv, .int 0, .int 0, .int 0, .int 0, .int 0, .int 0, .int (-1), .ref fr, ob_15, ob_16, ob_17, ob_18, ob_19, ob_20, ob_21, ob_22, ob_23, ob_24, ob_25, ob_26, ob_27, ob_28, ob_29, ob_30, ob_31, ob_32, ob_33, ob_34, .ref cd, ob_36, .ref my, .ref wi, .ref nb, .ref mv])), (wo, .inl (y 1, 9080, .inl fw))] H := hP
  have hD : va_D A [(ob, .inr (10, [ob_0, .ref wo, .ref mi, .ref hm, .ref mt, .int 0, .ref fv, .int 0, .int 0, .int 0, .int 0, .int 0, .int 0, .int (-1), .ref fr, ob_15, ob_16, ob_17, ob_18, ob_19, ob_20, ob_21, ob_22, ob_23, ob_24, ob_25, ob_26, ob_27, ob_28, ob_29, ob_30, ob_31, ob_32, ob_33, ob_34, .ref cd, ob_36, .ref my, .ref wi, .ref nb, .ref mv])), (wo, .inl (y 1, 9080, .inl fw))] := hD
  refine lv_if_eq (tgt := 16) hx hb dX10_does_6 (by decide) (fun _ => ?_) (fun c9 => absurd (by decide) c9)
  refine lv_bipush (v := (-2)) hx hb dX10_does_16 (by decide) ?_
  refine W.widen (k := 0) (n := 0) (Nat.le_of_ble_eq_true rfl) (Nat.le_of_ble_eq_true rfl) ?_
  exact W.iret (v := (-2)) hx hb hr (fun t ht hW => ⟨⟨(-2), _, rfl, rfl, by rw [ht]; exact hP, hD⟩, hS.F ht⟩) hS.2.2 dX10_does_18

set_option maxHeartbeats 4000000 in
set_option maxRecDepth 100000 in
theorem kX10_meet (l : Launch) (G : va_G) (y : Nat → ClassId) (sz : Nat) (ob : Nat) (a1 : Int32) (a2 : Int32) (ob_0 : Value) (wo : Nat) (mi : Nat) (hm : Nat) (mt : Nat) (fv : Nat) (fr : Nat) (ob_15 : Value) (ob_16 : Value) (ob_17 : Value) (ob_18 : Value) (ob_19 : Value) (ob_20 : Value) (ob_21 : Value) (ob_22 : Value) (ob_23 : Value) (ob_24 : Value) (ob_25 : Value) (ob_26 : Value) (ob_27 : Value) (ob_28 : Value) (ob_29 : Value) (ob_30 : Value) (ob_31 : Value) (ob_32 : Value) (ob_33 : Value) (ob_34 : Value) (cd : Nat) (ob_36 : Value) (my : Nat) (wi : Nat) (nb : Nat) (mv : Nat) (fw : Nat → Int32) (z0 : fw 0 = 0) : Met l yX10_meet (Cond.code yX10_meet cX10_meet 4 (some .int) :: wAll) ({ frames := 3, cells := 0, slots := 0, locals := 68 }) (va_Pc [.ref ob, .int a1, .int a2] (kp G y sz [(ob, .inr (10, [ob_0, .ref wo, .ref mi, .ref hm, .ref mt, .int 0, .ref fv, .int 0, .int 0, .int 0, .int 0, .int 0, .int 0, .int (-1), .ref fr, ob_15, ob_16, ob_17, ob_18, ob_19, ob_20, ob_21, ob_22, ob_23, ob_24, ob_25, ob_26, ob_27, ob_28, ob_29, ob_30, ob_31, ob_32, ob_33, ob_34, .ref cd, ob_36, .ref my, .ref wi, .ref nb, .ref mv])), (wo, .inl (y 1, 9080, .inl fw))])) (va_Qi (fun (r : Int32) (_ : va_W) => r = -2) (kq G (va_A [(ob, .inr (10, [ob_0, .ref wo, .ref mi, .ref hm, .ref mt, .int 0, .ref fv, .int 0, .int 0, .int 0, .int 0, .int 0, .int 0, .int (-1), .ref fr, ob_15, ob_16, ob_17, ob_18, ob_19, ob_20, ob_21, ob_22, ob_23, ob_24, ob_25, ob_26, ob_27, ob_28, ob_29, ob_30, ob_31, ob_32, ob_33, ob_34, .ref cd, ob_36, .ref my, .ref wi, .ref nb, .ref mv])), (wo, .inl (y 1, 9080, .inl fw))] sz)) (va_A [(ob, .inr (10, [ob_0, .ref wo, .ref mi, .ref hm, .ref mt, .int 0, .ref fv, .int 0, .int 0, .int 0, .int 0, .int 0, .int 0, .int (-1), .ref fr, ob_15, ob_16, ob_17, ob_18, ob_19, ob_20, ob_21, ob_22, ob_23, ob_24, ob_25, ob_26, ob_27, ob_28, ob_29, ob_30, ob_31, ob_32, ob_33, ob_34, .ref cd, ob_36, .ref my, .ref wi, .ref nb, .ref mv])), (wo, .inl (y 1, 9080, .inl fw))] sz)) 0 0 (va_A [(ob, .inr (10, [ob_0, .ref wo, .ref mi, .ref hm, .ref mt, .int 0, .ref fv, .int 0, .int 0, .int 0, .int 0, .int 0, .int 0, .int (-1), .ref fr, ob_15, ob_16, ob_17, ob_18, ob_19, ob_20, ob_21, ob_22, ob_23, ob_24, ob_25, ob_26, ob_27, ob_28, ob_29, ob_30, ob_31, ob_32, ob_33, ob_34, .ref cd, ob_36, .ref my, .ref wi, .ref nb, .ref mv])), (wo, .inl (y 1, 9080, .inl fw))] sz) := by
  refine Met.ofW (cc := cX10_meet) (maxL := 4) (ret := (some .int)) (by decide) rfl ?_
  intro p e s m args below meth c s₁ B hml hv
  obtain ⟨rfl, hsz, hP, hK, hD0⟩ := hv
  have hx := B.exec
  have hb := B.bytes
  have hr := B.returns
  have hw0 : ∀ w ∈ wAll, w.before _ s = true := fun w h => atoms_spec (ws := Cond.code yX10_meet cX10_meet 4 (some .int) :: wAll) B.pre w (List.mem_cons_of_mem _ h)
  have hown : s.vm.findClass RX10 = some m.cls := findClass_of_methodNamed B.named
  have hlocks := B.notSynchronized
  subst hsz
  have hD := hD0.self (sz := s.heap.size)
  generalize hAe : va_A [(ob, .inr (10, [ob_0, .ref wo, .ref mi, .ref hm, .ref mt, .int 0, .ref fv, .int 0, .int 0, .int 0, .int 0, .int 0, .int 0, .int (-1), .ref fr, ob_15, ob_16, ob_17, ob_18, ob_19, ob_20, ob_21, ob_22, ob_23, ob_24, ob_25, ob_26, ob_27, ob_28, ob_29, ob_30, ob_31, ob_32, ob_33, ob_34, .ref cd, ob_36, .ref my, .ref wi, .ref nb, .ref mv])), (wo, .inl (y 1, 9080, .inl fw))] s.heap.size = A at hD ⊢
  have hA : ∀ q : Nat, s.heap.size ≤ q → A q := fun q h => by rw [← hAe]; exact Or.inr h
  have hS : va_S A s.heap s.heap [] := va_S.rf
  have hP : va_P G vwCl [(ob, .inr (10, [ob_0, .ref wo, .ref mi, .ref hm, .ref mt, .int 0, .ref fv, .int 0, .int 0, .int 0, .int 0, .int 0, .int 0, .int (-1), .ref fr, ob_15, ob_16, ob_17, ob_18, ob_19, ob_20, ob_21, ob_22, ob_23, ob_24, ob_25, ob_26, ob_27, ob_28, ob_29, ob_30, ob_31, ob_32, ob_33, ob_34, .ref cd, ob_36, .ref my, .ref wi, .ref nb, .ref mv])), (wo, .inl (y 1, 9080, .inl fw))] s.heap := hP
  have hl := lv_entry ([.ref ob, .int a1, .int a2]) (n := 4) (Nat.le_of_ble_eq_true rfl)
  rw [lg_entry_eq]
  generalize (lg_sl ([.ref ob, .int a1, .int a2]) ++ List.replicate (4 - (lg_sl ([.ref ob, .int a1, .int a2])).length) Slot.unset).toArray = ls at hl ⊢
  have hl : lv_has ls 4 [(0, .ref ob), (1, .int a1), (2, .int a2)] := hl
  refine lv_aload_n hx hb dX10_meet_0 rfl (lv_at hl 0 rfl) ?_
  refine lv_iload_n hx hb dX10_meet_1 rfl (lv_at hl 1 rfl) ?_
  refine lv_iload_n hx hb dX10_meet_2 rfl (lv_at hl 2 rfl) ?_
  refine cVi (As := [.int a1, .int a2]) (rest := []) ⟨hx, hb, hml, hown, hw0⟩ hA hK hP hD hS [0, 1] [] [(ob, .inr (10, [ob_0, .ref wo, .ref mi, .ref hm, .ref mt, .int 0, .ref fv, .int 0, .int 0, .int 0, .int 0, .int 0, .int 0, .int (-1), .ref fr, ob_15, ob_16, ob_17, ob_18, ob_19, ob_20, ob_21, ob_22, ob_23, ob_24, ob_25, ob_26, ob_27, ob_28, ob_29, ob_30, ob_31, ob_32, ob_33, ob_34, .ref cd, ob_36, .ref my, .ref wi, .ref nb, .ref mv])), (wo, .inl (y 1, 9080, .inl fw))] [] rfl rfl (by decide) (by decide) (by decide) (kX10_areTwo l G y _ ob a1 a2 (ob_0) wo mi hm mt fv fr (ob_15) (ob_16) (ob_17) (ob_18) (ob_19) (ob_20) (ob_21) (ob_22) (ob_23) (ob_24) (ob_25) (ob_26) (ob_27) (ob_28) (ob_29) (ob_30) (ob_31) (ob_32) (ob_33) (ob_34) cd (ob_36) my wi nb mv fw z0) ⟨(callB_of 2 hw0 (gA m_360) rfl rfl rfl (hw0 _ m_166) (hw0 _ m_362) (by decide +kernel) ⟨Nat.le_of_ble_eq_true rfl, Nat.le_of_ble_eq_true rfl⟩), (hw0 _ m_363), (hw0 _ m_364)⟩ (ci := 10) (q := (RX10, TX10, 41)) rfl rfl rfl hl.1 (Nat.le_of_ble_eq_true rfl) dX10_meet_3 ⟨Nat.le_of_ble_eq_true rfl, Nat.le_of_ble_eq_true rfl⟩ (fun r_1 w_1 H locs hw_1 hP hD hS => ?_)
  obtain ⟨rfl, rfl⟩ := hw_1
  have hP : va_P G vwCl [(ob, .inr (10, [ob_0, .ref wo, .ref mi, .ref hm, .ref mt, .int 0, .ref fv, .int 0, .int 0, .int 0, .int 0, .int 0, .int 0, .int (-1), .ref fr, ob_15, ob_16, ob_17, ob_18, ob_19, ob_20, ob_21, ob_22, ob_23, ob_24, ob_25, ob_26, ob_27, ob_28, ob_29, ob_30, ob_31, ob_32, ob_33, ob_34, .ref cd, ob_36, .ref my, .ref wi, .ref nb, .ref mv])), (wo, .inl (y 1, 9080, .inl fw))] H := hP
  have hD : va_D A [(ob, .inr (10, [ob_0, .ref wo, .ref mi, .ref hm, .ref mt, .int 0, .ref fv, .int 0, .int 0, .int 0, .int 0, .int 0, .int 0, .int (-1), .ref fr, ob_15, ob_16, ob_17, ob_18, ob_19, ob_20, ob_21, ob_22, ob_23, ob_24, ob_25, ob_26, ob_27, ob_28, ob_29, ob_30, ob_31, ob_32, ob_33, ob_34, .ref cd, ob_36, .ref my, .ref wi, .ref nb, .ref mv])), (wo, .inl (y 1, 9080, .inl fw))] := hD
  refine lv_if_ne (tgt := 12) hx hb dX10_meet_6 (by decide) (fun c9 => absurd (by decide) c9) (fun _ => ?_)
  refine lv_bipush (v := (-2)) hx hb dX10_meet_9 (by decide) ?_
  refine W.widen (k := 0) (n := 0) (Nat.le_of_ble_eq_true rfl) (Nat.le_of_ble_eq_true rfl) ?_
  exact W.iret (v := (-2)) hx hb hr (fun t ht hW => ⟨⟨(-2), _, rfl, rfl, by rw [ht]; exact hP, hD⟩, hS.F ht⟩) hS.2.2 dX10_meet_11

set_option maxHeartbeats 4000000 in
set_option maxRecDepth 100000 in
theorem kX10_known (l : Launch) (G : va_G) (y : Nat → ClassId) (sz : Nat) (ob : Nat) (a1 : Int32) (a2 : Int32) (ob_0 : Value) (wo : Nat) (mi : Nat) (hm : Nat) (mt : Nat) (fv : Nat) (fr : Nat) (ob_15 : Value) (ob_16 : Value) (ob_17 : Value) (ob_18 : Value) (ob_19 : Value) (ob_20 : Value) (ob_21 : Value) (ob_22 : Value) (ob_23 : Value) (ob_24 : Value) (ob_25 : Value) (ob_26 : Value) (ob_27 : Value) (ob_28 : Value) (ob_29 : Value) (ob_30 : Value) (ob_31 : Value) (ob_32 : Value) (ob_33 : Value) (ob_34 : Value) (cd : Nat) (ob_36 : Value) (my : Nat) (wi : Nat) (nb : Nat) (mv : Nat) (fw : Nat → Int32) (z0 : fw 0 = 0) : Met l yX10_known (Cond.code yX10_known cX10_known 3 (some .int) :: wAll) ({ frames := 3, cells := 0, slots := 0, locals := 68 }) (va_Pc [.ref ob, .int a1, .int a2] (kp G y sz [(ob, .inr (10, [ob_0, .ref wo, .ref mi, .ref hm, .ref mt, .int 0, .ref fv, .int 0, .int 0, .int 0, .int 0, .int 0, .int 0, .int (-1), .ref fr, ob_15, ob_16, ob_17, ob_18, ob_19, ob_20, ob_21, ob_22, ob_23, ob_24, ob_25, ob_26, ob_27, ob_28, ob_29, ob_30, ob_31, ob_32, ob_33, ob_34, .ref cd, ob_36, .ref my, .ref wi, .ref nb, .ref mv])), (wo, .inl (y 1, 9080, .inl fw))])) (va_Qi (fun (r : Int32) (_ : va_W) => r = -2) (kq G (va_A [(ob, .inr (10, [ob_0, .ref wo, .ref mi, .ref hm, .ref mt, .int 0, .ref fv, .int 0, .int 0, .int 0, .int 0, .int 0, .int 0, .int (-1), .ref fr, ob_15, ob_16, ob_17, ob_18, ob_19, ob_20, ob_21, ob_22, ob_23, ob_24, ob_25, ob_26, ob_27, ob_28, ob_29, ob_30, ob_31, ob_32, ob_33, ob_34, .ref cd, ob_36, .ref my, .ref wi, .ref nb, .ref mv])), (wo, .inl (y 1, 9080, .inl fw))] sz)) (va_A [(ob, .inr (10, [ob_0, .ref wo, .ref mi, .ref hm, .ref mt, .int 0, .ref fv, .int 0, .int 0, .int 0, .int 0, .int 0, .int 0, .int (-1), .ref fr, ob_15, ob_16, ob_17, ob_18, ob_19, ob_20, ob_21, ob_22, ob_23, ob_24, ob_25, ob_26, ob_27, ob_28, ob_29, ob_30, ob_31, ob_32, ob_33, ob_34, .ref cd, ob_36, .ref my, .ref wi, .ref nb, .ref mv])), (wo, .inl (y 1, 9080, .inl fw))] sz)) 0 0 (va_A [(ob, .inr (10, [ob_0, .ref wo, .ref mi, .ref hm, .ref mt, .int 0, .ref fv, .int 0, .int 0, .int 0, .int 0, .int 0, .int 0, .int (-1), .ref fr, ob_15, ob_16, ob_17, ob_18, ob_19, ob_20, ob_21, ob_22, ob_23, ob_24, ob_25, ob_26, ob_27, ob_28, ob_29, ob_30, ob_31, ob_32, ob_33, ob_34, .ref cd, ob_36, .ref my, .ref wi, .ref nb, .ref mv])), (wo, .inl (y 1, 9080, .inl fw))] sz) := by
  refine Met.ofW (cc := cX10_known) (maxL := 3) (ret := (some .int)) (by decide) rfl ?_
  intro p e s m args below meth c s₁ B hml hv
  obtain ⟨rfl, hsz, hP, hK, hD0⟩ := hv
  have hx := B.exec
  have hb := B.bytes
  have hr := B.returns
  have hw0 : ∀ w ∈ wAll, w.before _ s = true := fun w h => atoms_spec (ws := Cond.code yX10_known cX10_known 3 (some .int) :: wAll) B.pre w (List.mem_cons_of_mem _ h)
  have hown : s.vm.findClass RX10 = some m.cls := findClass_of_methodNamed B.named
  have hlocks := B.notSynchronized
  subst hsz
  have hD := hD0.self (sz := s.heap.size)
  generalize hAe : va_A [(ob, .inr (10, [ob_0, .ref wo, .ref mi, .ref hm, .ref mt, .int 0, .ref fv, .int 0, .int 0, .int 0, .int 0, .int 0, .int 0, .int (-1), .ref fr, ob_15, ob_16, ob_17, ob_18, ob_19, ob_20, ob_21, ob_22, ob_23, ob_24, ob_25, ob_26, ob_27, ob_28, ob_29, ob_30, ob_31, ob_32, ob_33, ob_34, .ref cd, ob_36, .ref my, .ref wi, .ref nb, .ref mv])), (wo, .inl (y 1, 9080, .inl fw))] s.heap.size = A at hD ⊢
  have hA : ∀ q : Nat, s.heap.size ≤ q → A q := fun q h => by rw [← hAe]; exact Or.inr h
  have hS : va_S A s.heap s.heap [] := va_S.rf
  have hP : va_P G vwCl [(ob, .inr (10, [ob_0, .ref wo, .ref mi, .ref hm, .ref mt, .int 0, .ref fv, .int 0, .int 0, .int 0, .int 0, .int 0, .int 0, .int (-1), .ref fr, ob_15, ob_16, ob_17, ob_18, ob_19, ob_20, ob_21, ob_22, ob_23, ob_24, ob_25, ob_26, ob_27, ob_28, ob_29, ob_30, ob_31, ob_32, ob_33, ob_34, .ref cd, ob_36, .ref my, .ref wi, .ref nb, .ref mv])), (wo, .inl (y 1, 9080, .inl fw))] s.heap := hP
  have hl := lv_entry ([.ref ob, .int a1, .int a2]) (n := 3) (Nat.le_of_ble_eq_true rfl)
  rw [lg_entry_eq]
  generalize (lg_sl ([.ref ob, .int a1, .int a2]) ++ List.replicate (3 - (lg_sl ([.ref ob, .int a1, .int a2])).length) Slot.unset).toArray = ls at hl ⊢
  have hl : lv_has ls 3 [(0, .ref ob), (1, .int a1), (2, .int a2)] := hl
  refine lv_aload_n hx hb dX10_known_0 rfl (lv_at hl 0 rfl) ?_
  refine lv_iload_n hx hb dX10_known_1 rfl (lv_at hl 1 rfl) ?_
  refine lv_iload_n hx hb dX10_known_2 rfl (lv_at hl 2 rfl) ?_
  refine cVi (As := [.int a1, .int a2]) (rest := []) ⟨hx, hb, hml, hown, hw0⟩ hA hK hP hD hS [0, 1] [] [(ob, .inr (10, [ob_0, .ref wo, .ref mi, .ref hm, .ref mt, .int 0, .ref fv, .int 0, .int 0, .int 0, .int 0, .int 0, .int 0, .int (-1), .ref fr, ob_15, ob_16, ob_17, ob_18, ob_19, ob_20, ob_21, ob_22, ob_23, ob_24, ob_25, ob_26, ob_27, ob_28, ob_29, ob_30, ob_31, ob_32, ob_33, ob_34, .ref cd, ob_36, .ref my, .ref wi, .ref nb, .ref mv])), (wo, .inl (y 1, 9080, .inl fw))] [] rfl rfl (by decide) (by decide) (by decide) (kX10_areTwo l G y _ ob a1 a2 (ob_0) wo mi hm mt fv fr (ob_15) (ob_16) (ob_17) (ob_18) (ob_19) (ob_20) (ob_21) (ob_22) (ob_23) (ob_24) (ob_25) (ob_26) (ob_27) (ob_28) (ob_29) (ob_30) (ob_31) (ob_32) (ob_33) (ob_34) cd (ob_36) my wi nb mv fw z0) ⟨(callB_of 2 hw0 (gA m_360) rfl rfl rfl (hw0 _ m_166) (hw0 _ m_362) (by decide +kernel) ⟨Nat.le_of_ble_eq_true rfl, Nat.le_of_ble_eq_true rfl⟩), (hw0 _ m_363), (hw0 _ m_364)⟩ (ci := 10) (q := (RX10, TX10, 41)) rfl rfl rfl hl.1 (Nat.le_of_ble_eq_true rfl) dX10_known_3 ⟨Nat.le_of_ble_eq_true rfl, Nat.le_of_ble_eq_true rfl⟩ (fun r_1 w_1 H locs hw_1 hP hD hS => ?_)
  obtain ⟨rfl, rfl⟩ := hw_1
  have hP : va_P G vwCl [(ob, .inr (10, [ob_0, .ref wo, .ref mi, .ref hm, .ref mt, .int 0, .ref fv, .int 0, .int 0, .int 0, .int 0, .int 0, .int 0, .int (-1), .ref fr, ob_15, ob_16, ob_17, ob_18, ob_19, ob_20, ob_21, ob_22, ob_23, ob_24, ob_25, ob_26, ob_27, ob_28, ob_29, ob_30, ob_31, ob_32, ob_33, ob_34, .ref cd, ob_36, .ref my, .ref wi, .ref nb, .ref mv])), (wo, .inl (y 1, 9080, .inl fw))] H := hP
  have hD : va_D A [(ob, .inr (10, [ob_0, .ref wo, .ref mi, .ref hm, .ref mt, .int 0, .ref fv, .int 0, .int 0, .int 0, .int 0, .int 0, .int 0, .int (-1), .ref fr, ob_15, ob_16, ob_17, ob_18, ob_19, ob_20, ob_21, ob_22, ob_23, ob_24, ob_25, ob_26, ob_27, ob_28, ob_29, ob_30, ob_31, ob_32, ob_33, ob_34, .ref cd, ob_36, .ref my, .ref wi, .ref nb, .ref mv])), (wo, .inl (y 1, 9080, .inl fw))] := hD
  refine lv_if_ne (tgt := 14) hx hb dX10_known_6 (by decide) (fun c9 => absurd (by decide) c9) (fun _ => ?_)
  refine lv_bipush (v := (-2)) hx hb dX10_known_9 (by decide) ?_
  refine lv_goto (tgt := 28) hx hb dX10_known_11 (by decide) ?_
  refine W.widen (k := 0) (n := 0) (Nat.le_of_ble_eq_true rfl) (Nat.le_of_ble_eq_true rfl) ?_
  exact W.iret (v := (-2)) hx hb hr (fun t ht hW => ⟨⟨(-2), _, rfl, rfl, by rw [ht]; exact hP, hD⟩, hS.F ht⟩) hS.2.2 dX10_known_28

set_option maxHeartbeats 4000000 in
set_option maxRecDepth 100000 in
theorem kX10_debts (l : Launch) (G : va_G) (y : Nat → ClassId) (sz : Nat) (ob : Nat) (a1 : Int32) (ob_0 : Value) (wo : Nat) (mi : Nat) (hm : Nat) (mt : Nat) (fv : Nat) (fr : Nat) (ob_15 : Value) (ob_16 : Value) (ob_17 : Value) (ob_18 : Value) (ob_19 : Value) (ob_20 : Value) (ob_21 : Value) (ob_22 : Value) (ob_23 : Value) (ob_24 : Value) (ob_25 : Value) (ob_26 : Value) (ob_27 : Value) (ob_28 : Value) (ob_29 : Value) (ob_30 : Value) (ob_31 : Value) (ob_32 : Value) (ob_33 : Value) (ob_34 : Value) (cd : Nat) (ob_36 : Value) (my : Nat) (wi : Nat) (nb : Nat) (mv : Nat) (fw : Nat → Int32) (z0 : fw 0 = 0) : Met l yX10_debts (Cond.code yX10_debts cX10_debts 2 (some .int) :: wAll) ({ frames := 2, cells := 0, slots := 0, locals := 46 }) (va_Pc [.ref ob, .int a1] (kp G y sz [(ob, .inr (10, [ob_0, .ref wo, .ref mi, .ref hm, .ref mt, .int 0, .ref fv, .int 0, .int 0, .int 0, .int 0, .int 0, .int 0, .int (-1), .ref fr, ob_15, ob_16, ob_17, ob_18, ob_19, ob_20, ob_21, ob_22, ob_23, ob_24, ob_25, ob_26, ob_27, ob_28, ob_29, ob_30, ob_31, ob_32, ob_33, ob_34, .ref cd, ob_36, .ref my, .ref wi, .ref nb, .ref mv])), (wo, .inl (y 1, 9080, .inl fw))])) (va_Qi (fun (r : Int32) (_ : va_W) => r = -2) (kq G (va_A [(ob, .inr (10, [ob_0, .ref wo, .ref mi, .ref hm, .ref mt, .int 0, .ref fv, .int 0, .int 0, .int 0, .int 0, .int 0, .int 0, .int (-1), .ref fr, ob_15, ob_16, ob_17, ob_18, ob_19, ob_20, ob_21, ob_22, ob_23, ob_24, ob_25, ob_26, ob_27, ob_28, ob_29, ob_30, ob_31, ob_32, ob_33, ob_34, .ref cd, ob_36, .ref my, .ref wi, .ref nb, .ref mv])), (wo, .inl (y 1, 9080, .inl fw))] sz)) (va_A [(ob, .inr (10, [ob_0, .ref wo, .ref mi, .ref hm, .ref mt, .int 0, .ref fv, .int 0, .int 0, .int 0, .int 0, .int 0, .int 0, .int (-1), .ref fr, ob_15, ob_16, ob_17, ob_18, ob_19, ob_20, ob_21, ob_22, ob_23, ob_24, ob_25, ob_26, ob_27, ob_28, ob_29, ob_30, ob_31, ob_32, ob_33, ob_34, .ref cd, ob_36, .ref my, .ref wi, .ref nb, .ref mv])), (wo, .inl (y 1, 9080, .inl fw))] sz)) 0 0 (va_A [(ob, .inr (10, [ob_0, .ref wo, .ref mi, .ref hm, .ref mt, .int 0, .ref fv, .int 0, .int 0, .int 0, .int 0, .int 0, .int 0, .int (-1), .ref fr, ob_15, ob_16, ob_17, ob_18, ob_19, ob_20, ob_21, ob_22, ob_23, ob_24, ob_25, ob_26, ob_27, ob_28, ob_29, ob_30, ob_31, ob_32, ob_33, ob_34, .ref cd, ob_36, .ref my, .ref wi, .ref nb, .ref mv])), (wo, .inl (y 1, 9080, .inl fw))] sz) := by
  refine Met.ofW (cc := cX10_debts) (maxL := 2) (ret := (some .int)) (by decide) rfl ?_
  intro p e s m args below meth c s₁ B hml hv
  obtain ⟨rfl, hsz, hP, hK, hD0⟩ := hv
  have hx := B.exec
  have hb := B.bytes
  have hr := B.returns
  have hw0 : ∀ w ∈ wAll, w.before _ s = true := fun w h => atoms_spec (ws := Cond.code yX10_debts cX10_debts 2 (some .int) :: wAll) B.pre w (List.mem_cons_of_mem _ h)
  have hown : s.vm.findClass RX10 = some m.cls := findClass_of_methodNamed B.named
  have hlocks := B.notSynchronized
  subst hsz
  have hD := hD0.self (sz := s.heap.size)
  generalize hAe : va_A [(ob, .inr (10, [ob_0, .ref wo, .ref mi, .ref hm, .ref mt, .int 0, .ref fv, .int 0, .int 0, .int 0, .int 0, .int 0, .int 0, .int (-1), .ref fr, ob_15, ob_16, ob_17, ob_18, ob_19, ob_20, ob_21, ob_22, ob_23, ob_24, ob_25, ob_26, ob_27, ob_28, ob_29, ob_30, ob_31, ob_32, ob_33, ob_34, .ref cd, ob_36, .ref my, .ref wi, .ref nb, .ref mv])), (wo, .inl (y 1, 9080, .inl fw))] s.heap.size = A at hD ⊢
  have hA : ∀ q : Nat, s.heap.size ≤ q → A q := fun q h => by rw [← hAe]; exact Or.inr h
  have hS : va_S A s.heap s.heap [] := va_S.rf
  have hP : va_P G vwCl [(ob, .inr (10, [ob_0, .ref wo, .ref mi, .ref hm, .ref mt, .int 0, .ref fv, .int 0, .int 0, .int 0, .int 0, .int 0, .int 0, .int (-1), .ref fr, ob_15, ob_16, ob_17, ob_18, ob_19, ob_20, ob_21, ob_22, ob_23, ob_24, ob_25, ob_26, ob_27, ob_28, ob_29, ob_30, ob_31, ob_32, ob_33, ob_34, .ref cd, ob_36, .ref my, .ref wi, .ref nb, .ref mv])), (wo, .inl (y 1, 9080, .inl fw))] s.heap := hP
  have hl := lv_entry ([.ref ob, .int a1]) (n := 2) (Nat.le_of_ble_eq_true rfl)
  rw [lg_entry_eq]
  generalize (lg_sl ([.ref ob, .int a1]) ++ List.replicate (2 - (lg_sl ([.ref ob, .int a1])).length) Slot.unset).toArray = ls at hl ⊢
  have hl : lv_has ls 2 [(0, .ref ob), (1, .int a1)] := hl
  refine lv_aload_n hx hb dX10_debts_0 rfl (lv_at hl 0 rfl) ?_
  refine lv_iload_n hx hb dX10_debts_1 rfl (lv_at hl 1 rfl) ?_
  refine cVi (As := [.int a1]) (rest := []) ⟨hx, hb, hml, hown, hw0⟩ hA hK hP hD hS [0, 1] [] [(ob, .inr (10, [ob_0, .ref wo, .ref mi, .ref hm, .ref mt, .int 0, .ref fv, .int 0, .int 0, .int 0, .int 0, .int 0, .int 0, .int (-1), .ref fr, ob_15, ob_16, ob_17, ob_18, ob_19, ob_20, ob_21, ob_22, ob_23, ob_24, ob_25, ob_26, ob_27, ob_28, ob_29, ob_30, ob_31, ob_32, ob_33, ob_34, .ref cd, ob_36, .ref my, .ref wi, .ref nb, .ref mv])), (wo, .inl (y 1, 9080, .inl fw))] [] rfl rfl (by decide) (by decide) (by decide) (kX10_isHouse l G y _ ob a1 (ob_0) wo mi hm mt fv fr (ob_15) (ob_16) (ob_17) (ob_18) (ob_19) (ob_20) (ob_21) (ob_22) (ob_23) (ob_24) (ob_25) (ob_26) (ob_27) (ob_28) (ob_29) (ob_30) (ob_31) (ob_32) (ob_33) (ob_34) cd (ob_36) my wi nb mv fw z0) ⟨(callB_of 1 hw0 (gA m_356) rfl rfl rfl (hw0 _ m_166) (hw0 _ m_357) (by decide +kernel) ⟨Nat.le_of_ble_eq_true rfl, Nat.le_of_ble_eq_true rfl⟩), (hw0 _ m_358), (hw0 _ m_359)⟩ (ci := 10) (q := (RX10, TX10, 41)) rfl rfl rfl hl.1 (Nat.le_of_ble_eq_true rfl) dX10_debts_2 ⟨Nat.le_of_ble_eq_true rfl, Nat.le_of_ble_eq_true rfl⟩ (fun r_1 w_1 H locs hw_1 hP hD hS => ?_)
  obtain ⟨rfl, rfl⟩ := hw_1
  have hP : va_P G vwCl [(ob, .inr (10, [ob_0, .ref wo, .ref mi, .ref hm, .ref mt, .int 0, .ref fv, .int 0, .int 0, .int 0, .int 0, .int 0, .int 0, .int (-1), .ref fr, ob_15, ob_16, ob_17, ob_18, ob_19, ob_20, ob_21, ob_22, ob_23, ob_24, ob_25, ob_26, ob_27, ob_28, ob_29, ob_30, ob_31, ob_32, ob_33, ob_34, .ref cd, ob_36, .ref my, .ref wi, .ref nb, .ref mv])), (wo, .inl (y 1, 9080, .inl fw))] H := hP
  have hD : va_D A [(ob, .inr (10, [ob_0, .ref wo, .ref mi, .ref hm, .ref mt, .int 0, .ref fv, .int 0, .int 0, .int 0, .int 0, .int 0, .int 0, .int (-1), .ref fr, ob_15, ob_16, ob_17, ob_18, ob_19, ob_20, ob_21, ob_22, ob_23, ob_24, ob_25, ob_26, ob_27, ob_28, ob_29, ob_30, ob_31, ob_32, ob_33, ob_34, .ref cd, ob_36, .ref my, .ref wi, .ref nb, .ref mv])), (wo, .inl (y 1, 9080, .inl fw))] := hD
  refine lv_if_eq (tgt := 16) hx hb dX10_debts_5 (by decide) (fun _ => ?_) (fun c9 => absurd (by decide) c9)
  refine lv_bipush (v := (-2)) hx hb dX10_debts_16 (by decide) ?_
  refine W.widen (k := 0) (n := 0) (Nat.le_of_ble_eq_true rfl) (Nat.le_of_ble_eq_true rfl) ?_
  exact W.iret (v := (-2)) hx hb hr (fun t ht hW => ⟨⟨(-2), _, rfl, rfl, by rw [ht]; exact hP, hD⟩, hS.F ht⟩) hS.2.2 dX10_debts_18

set_option maxHeartbeats 4000000 in
set_option maxRecDepth 100000 in
theorem kX10_slights (l : Launch) (G : va_G) (y : Nat → ClassId) (sz : Nat) (ob : Nat) (a1 : Int32) (ob_0 : Value) (wo : Nat) (mi : Nat) (hm : Nat) (mt : Nat) (fv : Nat) (fr : Nat) (ob_15 : Value) (ob_16 : Value) (ob_17 : Value) (ob_18 : Value) (ob_19 : Value) (ob_20 : Value) (ob_21 : Value) (ob_22 : Value) (ob_23 : Value) (ob_24 : Value) (ob_25 : Value) (ob_26 : Value) (ob_27 : Value) (ob_28 : Value) (ob_29 : Value) (ob_30 : Value) (ob_31 : Value) (ob_32 : Value) (ob_33 : Value) (ob_34 : Value) (cd : Nat) (ob_36 : Value) (my : Nat) (wi : Nat) (nb : Nat) (mv : Nat) (fw : Nat → Int32) (z0 : fw 0 = 0) : Met l yX10_slights (Cond.code yX10_slights cX10_slights 2 (some .int) :: wAll) ({ frames := 2, cells := 0, slots := 0, locals := 46 }) (va_Pc [.ref ob, .int a1] (kp G y sz [(ob, .inr (10, [ob_0, .ref wo, .ref mi, .ref hm, .ref mt, .int 0, .ref fv, .int 0, .int 0, .int 0, .int 0, .int 0, .int 0, .int (-1), .ref fr, ob_15, ob_16, ob_17, ob_18, ob_19, ob_20, ob_21, ob_22, ob_23, ob_24, ob_25, ob_26, ob_27, ob_28, ob_29, ob_30, ob_31, ob_32, ob_33, ob_34, .ref cd, ob_36, .ref my, .ref wi, .ref nb, .ref mv])), (wo, .inl (y 1, 9080, .inl fw))])) (va_Qi (fun (r : Int32) (_ : va_W) => r = -2) (kq G (va_A [(ob, .inr (10, [ob_0, .ref wo, .ref mi, .ref hm, .ref mt, .int 0, .ref fv, .int 0, .int 0, .int 0, .int 0, .int 0, .int 0, .int (-1), .ref fr, ob_15, ob_16, ob_17, ob_18, ob_19, ob_20, ob_21, ob_22, ob_23, ob_24, ob_25, ob_26, ob_27, ob_28, ob_29, ob_30, ob_31, ob_32, ob_33, ob_34, .ref cd, ob_36, .ref my, .ref wi, .ref nb, .ref mv])), (wo, .inl (y 1, 9080, .inl fw))] sz)) (va_A [(ob, .inr (10, [ob_0, .ref wo, .ref mi, .ref hm, .ref mt, .int 0, .ref fv, .int 0, .int 0, .int 0, .int 0, .int 0, .int 0, .int (-1), .ref fr, ob_15, ob_16, ob_17, ob_18, ob_19, ob_20, ob_21, ob_22, ob_23, ob_24, ob_25, ob_26, ob_27, ob_28, ob_29, ob_30, ob_31, ob_32, ob_33, ob_34, .ref cd, ob_36, .ref my, .ref wi, .ref nb, .ref mv])), (wo, .inl (y 1, 9080, .inl fw))] sz)) 0 0 (va_A [(ob, .inr (10, [ob_0, .ref wo, .ref mi, .ref hm, .ref mt, .int 0, .ref fv, .int 0, .int 0, .int 0, .int 0, .int 0, .int 0, .int (-1), .ref fr, ob_15, ob_16, ob_17, ob_18, ob_19, ob_20, ob_21, ob_22, ob_23, ob_24, ob_25, ob_26, ob_27, ob_28, ob_29, ob_30, ob_31, ob_32, ob_33, ob_34, .ref cd, ob_36, .ref my, .ref wi, .ref nb, .ref mv])), (wo, .inl (y 1, 9080, .inl fw))] sz) := by
  refine Met.ofW (cc := cX10_slights) (maxL := 2) (ret := (some .int)) (by decide) rfl ?_
  intro p e s m args below meth c s₁ B hml hv
  obtain ⟨rfl, hsz, hP, hK, hD0⟩ := hv
  have hx := B.exec
  have hb := B.bytes
  have hr := B.returns
  have hw0 : ∀ w ∈ wAll, w.before _ s = true := fun w h => atoms_spec (ws := Cond.code yX10_slights cX10_slights 2 (some .int) :: wAll) B.pre w (List.mem_cons_of_mem _ h)
  have hown : s.vm.findClass RX10 = some m.cls := findClass_of_methodNamed B.named
  have hlocks := B.notSynchronized
  subst hsz
  have hD := hD0.self (sz := s.heap.size)
  generalize hAe : va_A [(ob, .inr (10, [ob_0, .ref wo, .ref mi, .ref hm, .ref mt, .int 0, .ref fv, .int 0, .int 0, .int 0, .int 0, .int 0, .int 0, .int (-1), .ref fr, ob_15, ob_16, ob_17, ob_18, ob_19, ob_20, ob_21, ob_22, ob_23, ob_24, ob_25, ob_26, ob_27, ob_28, ob_29, ob_30, ob_31, ob_32, ob_33, ob_34, .ref cd, ob_36, .ref my, .ref wi, .ref nb, .ref mv])), (wo, .inl (y 1, 9080, .inl fw))] s.heap.size = A at hD ⊢
  have hA : ∀ q : Nat, s.heap.size ≤ q → A q := fun q h => by rw [← hAe]; exact Or.inr h
  have hS : va_S A s.heap s.heap [] := va_S.rf
  have hP : va_P G vwCl [(ob, .inr (10, [ob_0, .ref wo, .ref mi, .ref hm, .ref mt, .int 0, .ref fv, .int 0, .int 0, .int 0, .int 0, .int 0, .int 0, .int (-1), .ref fr, ob_15, ob_16, ob_17, ob_18, ob_19, ob_20, ob_21, ob_22, ob_23, ob_24, ob_25, ob_26, ob_27, ob_28, ob_29, ob_30, ob_31, ob_32, ob_33, ob_34, .ref cd, ob_36, .ref my, .ref wi, .ref nb, .ref mv])), (wo, .inl (y 1, 9080, .inl fw))] s.heap := hP
  have hl := lv_entry ([.ref ob, .int a1]) (n := 2) (Nat.le_of_ble_eq_true rfl)
  rw [lg_entry_eq]
  generalize (lg_sl ([.ref ob, .int a1]) ++ List.replicate (2 - (lg_sl ([.ref ob, .int a1])).length) Slot.unset).toArray = ls at hl ⊢
  have hl : lv_has ls 2 [(0, .ref ob), (1, .int a1)] := hl
  refine lv_aload_n hx hb dX10_slights_0 rfl (lv_at hl 0 rfl) ?_
  refine lv_iload_n hx hb dX10_slights_1 rfl (lv_at hl 1 rfl) ?_
  refine cVi (As := [.int a1]) (rest := []) ⟨hx, hb, hml, hown, hw0⟩ hA hK hP hD hS [0, 1] [] [(ob, .inr (10, [ob_0, .ref wo, .ref mi, .ref hm, .ref mt, .int 0, .ref fv, .int 0, .int 0, .int 0, .int 0, .int 0, .int 0, .int (-1), .ref fr, ob_15, ob_16, ob_17, ob_18, ob_19, ob_20, ob_21, ob_22, ob_23, ob_24, ob_25, ob_26, ob_27, ob_28, ob_29, ob_30, ob_31, ob_32, ob_33, ob_34, .ref cd, ob_36, .ref my, .ref wi, .ref nb, .ref mv])), (wo, .inl (y 1, 9080, .inl fw))] [] rfl rfl (by decide) (by decide) (by decide) (kX10_isHouse l G y _ ob a1 (ob_0) wo mi hm mt fv fr (ob_15) (ob_16) (ob_17) (ob_18) (ob_19) (ob_20) (ob_21) (ob_22) (ob_23) (ob_24) (ob_25) (ob_26) (ob_27) (ob_28) (ob_29) (ob_30) (ob_31) (ob_32) (ob_33) (ob_34) cd (ob_36) my wi nb mv fw z0) ⟨(callB_of 1 hw0 (gA m_356) rfl rfl rfl (hw0 _ m_166) (hw0 _ m_357) (by decide +kernel) ⟨Nat.le_of_ble_eq_true rfl, Nat.le_of_ble_eq_true rfl⟩), (hw0 _ m_358), (hw0 _ m_359)⟩ (ci := 10) (q := (RX10, TX10, 41)) rfl rfl rfl hl.1 (Nat.le_of_ble_eq_true rfl) dX10_slights_2 ⟨Nat.le_of_ble_eq_true rfl, Nat.le_of_ble_eq_true rfl⟩ (fun r_1 w_1 H locs hw_1 hP hD hS => ?_)
  obtain ⟨rfl, rfl⟩ := hw_1
  have hP : va_P G vwCl [(ob, .inr (10, [ob_0, .ref wo, .ref mi, .ref hm, .ref mt, .int 0, .ref fv, .int 0, .int 0, .int 0, .int 0, .int 0, .int 0, .int (-1), .ref fr, ob_15, ob_16, ob_17, ob_18, ob_19, ob_20, ob_21, ob_22, ob_23, ob_24, ob_25, ob_26, ob_27, ob_28, ob_29, ob_30, ob_31, ob_32, ob_33, ob_34, .ref cd, ob_36, .ref my, .ref wi, .ref nb, .ref mv])), (wo, .inl (y 1, 9080, .inl fw))] H := hP
  have hD : va_D A [(ob, .inr (10, [ob_0, .ref wo, .ref mi, .ref hm, .ref mt, .int 0, .ref fv, .int 0, .int 0, .int 0, .int 0, .int 0, .int 0, .int (-1), .ref fr, ob_15, ob_16, ob_17, ob_18, ob_19, ob_20, ob_21, ob_22, ob_23, ob_24, ob_25, ob_26, ob_27, ob_28, ob_29, ob_30, ob_31, ob_32, ob_33, ob_34, .ref cd, ob_36, .ref my, .ref wi, .ref nb, .ref mv])), (wo, .inl (y 1, 9080, .inl fw))] := hD
  refine lv_if_eq (tgt := 16) hx hb dX10_slights_5 (by decide) (fun _ => ?_) (fun c9 => absurd (by decide) c9)
  refine lv_bipush (v := (-2)) hx hb dX10_slights_16 (by decide) ?_
  refine W.widen (k := 0) (n := 0) (Nat.le_of_ble_eq_true rfl) (Nat.le_of_ble_eq_true rfl) ?_
  exact W.iret (v := (-2)) hx hb hr (fun t ht hW => ⟨⟨(-2), _, rfl, rfl, by rw [ht]; exact hP, hD⟩, hS.F ht⟩) hS.2.2 dX10_slights_18

set_option maxHeartbeats 4000000 in
set_option maxRecDepth 100000 in
theorem kX10_owes (l : Launch) (G : va_G) (y : Nat → ClassId) (sz : Nat) (ob : Nat) (a1 : Int32) (a2 : Int32) (a3 : Int32) (ob_0 : Value) (wo : Nat) (mi : Nat) (hm : Nat) (mt : Nat) (fv : Nat) (fr : Nat) (ob_15 : Value) (ob_16 : Value) (ob_17 : Value) (ob_18 : Value) (ob_19 : Value) (ob_20 : Value) (ob_21 : Value) (ob_22 : Value) (ob_23 : Value) (ob_24 : Value) (ob_25 : Value) (ob_26 : Value) (ob_27 : Value) (ob_28 : Value) (ob_29 : Value) (ob_30 : Value) (ob_31 : Value) (ob_32 : Value) (ob_33 : Value) (ob_34 : Value) (cd : Nat) (ob_36 : Value) (my : Nat) (wi : Nat) (nb : Nat) (mv : Nat) (fw : Nat → Int32) (z0 : fw 0 = 0) : Met l yX10_owes (Cond.code yX10_owes cX10_owes 6 (some .int) :: wAll) ({ frames := 3, cells := 0, slots := 0, locals := 68 }) (va_Pc [.ref ob, .int a1, .int a2, .int a3] (kp G y sz [(ob, .inr (10, [ob_0, .ref wo, .ref mi, .ref hm, .ref mt, .int 0, .ref fv, .int 0, .int 0, .int 0, .int 0, .int 0, .int 0, .int (-1), .ref fr, ob_15, ob_16, ob_17, ob_18, ob_19, ob_20, ob_21, ob_22, ob_23, ob_24, ob_25, ob_26, ob_27, ob_28, ob_29, ob_30, ob_31, ob_32, ob_33, ob_34, .ref cd, ob_36, .ref my, .ref wi, .ref nb, .ref mv])), (wo, .inl (y 1, 9080, .inl fw))])) (va_Qi (fun (r : Int32) (_ : va_W) => r = -2) (kq G (va_A [(ob, .inr (10, [ob_0, .ref wo, .ref mi, .ref hm, .ref mt, .int 0, .ref fv, .int 0, .int 0, .int 0, .int 0, .int 0, .int 0, .int (-1), .ref fr, ob_15, ob_16, ob_17, ob_18, ob_19, ob_20, ob_21, ob_22, ob_23, ob_24, ob_25, ob_26, ob_27, ob_28, ob_29, ob_30, ob_31, ob_32, ob_33, ob_34, .ref cd, ob_36, .ref my, .ref wi, .ref nb, .ref mv])), (wo, .inl (y 1, 9080, .inl fw))] sz)) (va_A [(ob, .inr (10, [ob_0, .ref wo, .ref mi, .ref hm, .ref mt, .int 0, .ref fv, .int 0, .int 0, .int 0, .int 0, .int 0, .int 0, .int (-1), .ref fr, ob_15, ob_16, ob_17, ob_18, ob_19, ob_20, ob_21, ob_22, ob_23, ob_24, ob_25, ob_26, ob_27, ob_28, ob_29, ob_30, ob_31, ob_32, ob_33, ob_34, .ref cd, ob_36, .ref my, .ref wi, .ref nb, .ref mv])), (wo, .inl (y 1, 9080, .inl fw))] sz)) 0 0 (va_A [(ob, .inr (10, [ob_0, .ref wo, .ref mi, .ref hm, .ref mt, .int 0, .ref fv, .int 0, .int 0, .int 0, .int 0, .int 0, .int 0, .int (-1), .ref fr, ob_15, ob_16, ob_17, ob_18, ob_19, ob_20, ob_21, ob_22, ob_23, ob_24, ob_25, ob_26, ob_27, ob_28, ob_29, ob_30, ob_31, ob_32, ob_33, ob_34, .ref cd, ob_36, .ref my, .ref wi, .ref nb, .ref mv])), (wo, .inl (y 1, 9080, .inl fw))] sz) := by
  refine Met.ofW (cc := cX10_owes) (maxL := 6) (ret := (some .int)) (by decide) rfl ?_
  intro p e s m args below meth c s₁ B hml hv
  obtain ⟨rfl, hsz, hP, hK, hD0⟩ := hv
  have hx := B.exec
  have hb := B.bytes
  have hr := B.returns
  have hw0 : ∀ w ∈ wAll, w.before _ s = true := fun w h => atoms_spec (ws := Cond.code yX10_owes cX10_owes 6 (some .int) :: wAll) B.pre w (List.mem_cons_of_mem _ h)
  have hown : s.vm.findClass RX10 = some m.cls := findClass_of_methodNamed B.named
  have hlocks := B.notSynchronized
  subst hsz
  have hD := hD0.self (sz := s.heap.size)
  generalize hAe : va_A [(ob, .inr (10, [ob_0, .ref wo, .ref mi, .ref hm, .ref mt, .int 0, .ref fv, .int 0, .int 0, .int 0, .int 0, .int 0, .int 0, .int (-1), .ref fr, ob_15, ob_16, ob_17, ob_18, ob_19, ob_20, ob_21, ob_22, ob_23, ob_24, ob_25, ob_26, ob_27, ob_28, ob_29, ob_30, ob_31, ob_32, ob_33, ob_34, .ref cd, ob_36, .ref my, .ref wi, .ref nb, .ref mv])), (wo, .inl (y 1, 9080, .inl fw))] s.heap.size = A at hD ⊢
  have hA : ∀ q : Nat, s.heap.size ≤ q → A q := fun q h => by rw [← hAe]; exact Or.inr h
  have hS : va_S A s.heap s.heap [] := va_S.rf
  have hP : va_P G vwCl [(ob, .inr (10, [ob_0, .ref wo, .ref mi, .ref hm, .ref mt, .int 0, .ref fv, .int 0, .int 0, .int 0, .int 0, .int 0, .int 0, .int (-1), .ref fr, ob_15, ob_16, ob_17, ob_18, ob_19, ob_20, ob_21, ob_22, ob_23, ob_24, ob_25, ob_26, ob_27, ob_28, ob_29, ob_30, ob_31, ob_32, ob_33, ob_34, .ref cd, ob_36, .ref my, .ref wi, .ref nb, .ref mv])), (wo, .inl (y 1, 9080, .inl fw))] s.heap := hP
  have hl := lv_entry ([.ref ob, .int a1, .int a2, .int a3]) (n := 6) (Nat.le_of_ble_eq_true rfl)
  rw [lg_entry_eq]
  generalize (lg_sl ([.ref ob, .int a1, .int a2, .int a3]) ++ List.replicate (6 - (lg_sl ([.ref ob, .int a1, .int a2, .int a3])).length) Slot.unset).toArray = ls at hl ⊢
  have hl : lv_has ls 6 [(0, .ref ob), (1, .int a1), (2, .int a2), (3, .int a3)] := hl
  refine lv_aload_n hx hb dX10_owes_0 rfl (lv_at hl 0 rfl) ?_
  refine lv_iload_n hx hb dX10_owes_1 rfl (lv_at hl 1 rfl) ?_
  refine lv_iload_n hx hb dX10_owes_2 rfl (lv_at hl 2 rfl) ?_
  refine cVi (As := [.int a1, .int a2]) (rest := []) ⟨hx, hb, hml, hown, hw0⟩ hA hK hP hD hS [0, 1] [] [(ob, .inr (10, [ob_0, .ref wo, .ref mi, .ref hm, .ref mt, .int 0, .ref fv, .int 0, .int 0, .int 0, .int 0, .int 0, .int 0, .int (-1), .ref fr, ob_15, ob_16, ob_17, ob_18, ob_19, ob_20, ob_21, ob_22, ob_23, ob_24, ob_25, ob_26, ob_27, ob_28, ob_29, ob_30, ob_31, ob_32, ob_33, ob_34, .ref cd, ob_36, .ref my, .ref wi, .ref nb, .ref mv])), (wo, .inl (y 1, 9080, .inl fw))] [] rfl rfl (by decide) (by decide) (by decide) (kX10_areTwo l G y _ ob a1 a2 (ob_0) wo mi hm mt fv fr (ob_15) (ob_16) (ob_17) (ob_18) (ob_19) (ob_20) (ob_21) (ob_22) (ob_23) (ob_24) (ob_25) (ob_26) (ob_27) (ob_28) (ob_29) (ob_30) (ob_31) (ob_32) (ob_33) (ob_34) cd (ob_36) my wi nb mv fw z0) ⟨(callB_of 2 hw0 (gA m_360) rfl rfl rfl (hw0 _ m_166) (hw0 _ m_362) (by decide +kernel) ⟨Nat.le_of_ble_eq_true rfl, Nat.le_of_ble_eq_true rfl⟩), (hw0 _ m_363), (hw0 _ m_364)⟩ (ci := 10) (q := (RX10, TX10, 41)) rfl rfl rfl hl.1 (Nat.le_of_ble_eq_true rfl) dX10_owes_3 ⟨Nat.le_of_ble_eq_true rfl, Nat.le_of_ble_eq_true rfl⟩ (fun r_1 w_1 H locs hw_1 hP hD hS => ?_)
  obtain ⟨rfl, rfl⟩ := hw_1
  have hP : va_P G vwCl [(ob, .inr (10, [ob_0, .ref wo, .ref mi, .ref hm, .ref mt, .int 0, .ref fv, .int 0, .int 0, .int 0, .int 0, .int 0, .int 0, .int (-1), .ref fr, ob_15, ob_16, ob_17, ob_18, ob_19, ob_20, ob_21, ob_22, ob_23, ob_24, ob_25, ob_26, ob_27, ob_28, ob_29, ob_30, ob_31, ob_32, ob_33, ob_34, .ref cd, ob_36, .ref my, .ref wi, .ref nb, .ref mv])), (wo, .inl (y 1, 9080, .inl fw))] H := hP
  have hD : va_D A [(ob, .inr (10, [ob_0, .ref wo, .ref mi, .ref hm, .ref mt, .int 0, .ref fv, .int 0, .int 0, .int 0, .int 0, .int 0, .int 0, .int (-1), .ref fr, ob_15, ob_16, ob_17, ob_18, ob_19, ob_20, ob_21, ob_22, ob_23, ob_24, ob_25, ob_26, ob_27, ob_28, ob_29, ob_30, ob_31, ob_32, ob_33, ob_34, .ref cd, ob_36, .ref my, .ref wi, .ref nb, .ref mv])), (wo, .inl (y 1, 9080, .inl fw))] := hD
  refine lv_if_eq (tgt := 16) hx hb dX10_owes_6 (by decide) (fun _ => ?_) (fun c9 => absurd (by decide) c9)
  refine lv_bipush (v := (-2)) hx hb dX10_owes_16 (by decide) ?_
  refine W.widen (k := 0) (n := 0) (Nat.le_of_ble_eq_true rfl) (Nat.le_of_ble_eq_true rfl) ?_
  exact W.iret (v := (-2)) hx hb hr (fun t ht hW => ⟨⟨(-2), _, rfl, rfl, by rw [ht]; exact hP, hD⟩, hS.F ht⟩) hS.2.2 dX10_owes_18

set_option maxHeartbeats 4000000 in
set_option maxRecDepth 100000 in
theorem kX10_worth (l : Launch) (G : va_G) (y : Nat → ClassId) (sz : Nat) (ob : Nat) (a1 : Int32) (a2 : Int32) (ob_0 : Value) (wo : Nat) (mi : Nat) (hm : Nat) (mt : Nat) (fv : Nat) (fr : Nat) (ob_15 : Value) (ob_16 : Value) (ob_17 : Value) (ob_18 : Value) (ob_19 : Value) (ob_20 : Value) (ob_21 : Value) (ob_22 : Value) (ob_23 : Value) (ob_24 : Value) (ob_25 : Value) (ob_26 : Value) (ob_27 : Value) (ob_28 : Value) (ob_29 : Value) (ob_30 : Value) (ob_31 : Value) (ob_32 : Value) (ob_33 : Value) (ob_34 : Value) (cd : Nat) (ob_36 : Value) (my : Nat) (wi : Nat) (nb : Nat) (mv : Nat) (fw : Nat → Int32) (z0 : fw 0 = 0) : Met l yX10_worth (Cond.code yX10_worth cX10_worth 3 (some .int) :: wAll) ({ frames := 3, cells := 0, slots := 0, locals := 68 }) (va_Pc [.ref ob, .int a1, .int a2] (kp G y sz [(ob, .inr (10, [ob_0, .ref wo, .ref mi, .ref hm, .ref mt, .int 0, .ref fv, .int 0, .int 0, .int 0, .int 0, .int 0, .int 0, .int (-1), .ref fr, ob_15, ob_16, ob_17, ob_18, ob_19, ob_20, ob_21, ob_22, ob_23, ob_24, ob_25, ob_26, ob_27, ob_28, ob_29, ob_30, ob_31, ob_32, ob_33, ob_34, .ref cd, ob_36, .ref my, .ref wi, .ref nb, .ref mv])), (wo, .inl (y 1, 9080, .inl fw))])) (va_Qi (fun (r : Int32) (_ : va_W) => r = -2) (kq G (va_A [(ob, .inr (10, [ob_0, .ref wo, .ref mi, .ref hm, .ref mt, .int 0, .ref fv, .int 0, .int 0, .int 0, .int 0, .int 0, .int 0, .int (-1), .ref fr, ob_15, ob_16, ob_17, ob_18, ob_19, ob_20, ob_21, ob_22, ob_23, ob_24, ob_25, ob_26, ob_27, ob_28, ob_29, ob_30, ob_31, ob_32, ob_33, ob_34, .ref cd, ob_36, .ref my, .ref wi, .ref nb, .ref mv])), (wo, .inl (y 1, 9080, .inl fw))] sz)) (va_A [(ob, .inr (10, [ob_0, .ref wo, .ref mi, .ref hm, .ref mt, .int 0, .ref fv, .int 0, .int 0, .int 0, .int 0, .int 0, .int 0, .int (-1), .ref fr, ob_15, ob_16, ob_17, ob_18, ob_19, ob_20, ob_21, ob_22, ob_23, ob_24, ob_25, ob_26, ob_27, ob_28, ob_29, ob_30, ob_31, ob_32, ob_33, ob_34, .ref cd, ob_36, .ref my, .ref wi, .ref nb, .ref mv])), (wo, .inl (y 1, 9080, .inl fw))] sz)) 0 0 (va_A [(ob, .inr (10, [ob_0, .ref wo, .ref mi, .ref hm, .ref mt, .int 0, .ref fv, .int 0, .int 0, .int 0, .int 0, .int 0, .int 0, .int (-1), .ref fr, ob_15, ob_16, ob_17, ob_18, ob_19, ob_20, ob_21, ob_22, ob_23, ob_24, ob_25, ob_26, ob_27, ob_28, ob_29, ob_30, ob_31, ob_32, ob_33, ob_34, .ref cd, ob_36, .ref my, .ref wi, .ref nb, .ref mv])), (wo, .inl (y 1, 9080, .inl fw))] sz) := by
  refine Met.ofW (cc := cX10_worth) (maxL := 3) (ret := (some .int)) (by decide) rfl ?_
  intro p e s m args below meth c s₁ B hml hv
  obtain ⟨rfl, hsz, hP, hK, hD0⟩ := hv
  have hx := B.exec
  have hb := B.bytes
  have hr := B.returns
  have hw0 : ∀ w ∈ wAll, w.before _ s = true := fun w h => atoms_spec (ws := Cond.code yX10_worth cX10_worth 3 (some .int) :: wAll) B.pre w (List.mem_cons_of_mem _ h)
  have hown : s.vm.findClass RX10 = some m.cls := findClass_of_methodNamed B.named
  have hlocks := B.notSynchronized
  subst hsz
  have hD := hD0.self (sz := s.heap.size)
  generalize hAe : va_A [(ob, .inr (10, [ob_0, .ref wo, .ref mi, .ref hm, .ref mt, .int 0, .ref fv, .int 0, .int 0, .int 0, .int 0, .int 0, .int 0, .int (-1), .ref fr, ob_15, ob_16, ob_17, ob_18, ob_19, ob_20, ob_21, ob_22, ob_23, ob_24, ob_25, ob_26, ob_27, ob_28, ob_29, ob_30, ob_31, ob_32, ob_33, ob_34, .ref cd, ob_36, .ref my, .ref wi, .ref nb, .ref mv])), (wo, .inl (y 1, 9080, .inl fw))] s.heap.size = A at hD ⊢
  have hA : ∀ q : Nat, s.heap.size ≤ q → A q := fun q h => by rw [← hAe]; exact Or.inr h
  have hS : va_S A s.heap s.heap [] := va_S.rf
  have hP : va_P G vwCl [(ob, .inr (10, [ob_0, .ref wo, .ref mi, .ref hm, .ref mt, .int 0, .ref fv, .int 0, .int 0, .int 0, .int 0, .int 0, .int 0, .int (-1), .ref fr, ob_15, ob_16, ob_17, ob_18, ob_19, ob_20, ob_21, ob_22, ob_23, ob_24, ob_25, ob_26, ob_27, ob_28, ob_29, ob_30, ob_31, ob_32, ob_33, ob_34, .ref cd, ob_36, .ref my, .ref wi, .ref nb, .ref mv])), (wo, .inl (y 1, 9080, .inl fw))] s.heap := hP
  have hl := lv_entry ([.ref ob, .int a1, .int a2]) (n := 3) (Nat.le_of_ble_eq_true rfl)
  rw [lg_entry_eq]
  generalize (lg_sl ([.ref ob, .int a1, .int a2]) ++ List.replicate (3 - (lg_sl ([.ref ob, .int a1, .int a2])).length) Slot.unset).toArray = ls at hl ⊢
  have hl : lv_has ls 3 [(0, .ref ob), (1, .int a1), (2, .int a2)] := hl
  refine lv_aload_n hx hb dX10_worth_0 rfl (lv_at hl 0 rfl) ?_
  refine lv_iload_n hx hb dX10_worth_1 rfl (lv_at hl 1 rfl) ?_
  refine lv_iload_n hx hb dX10_worth_2 rfl (lv_at hl 2 rfl) ?_
  refine cVi (As := [.int a1, .int a2]) (rest := []) ⟨hx, hb, hml, hown, hw0⟩ hA hK hP hD hS [0, 1] [] [(ob, .inr (10, [ob_0, .ref wo, .ref mi, .ref hm, .ref mt, .int 0, .ref fv, .int 0, .int 0, .int 0, .int 0, .int 0, .int 0, .int (-1), .ref fr, ob_15, ob_16, ob_17, ob_18, ob_19, ob_20, ob_21, ob_22, ob_23, ob_24, ob_25, ob_26, ob_27, ob_28, ob_29, ob_30, ob_31, ob_32, ob_33, ob_34, .ref cd, ob_36, .ref my, .ref wi, .ref nb, .ref mv])), (wo, .inl (y 1, 9080, .inl fw))] [] rfl rfl (by decide) (by decide) (by decide) (kX10_isRound l G y _ ob a1 a2 (ob_0) wo mi hm mt fv fr (ob_15) (ob_16) (ob_17) (ob_18) (ob_19) (ob_20) (ob_21) (ob_22) (ob_23) (ob_24) (ob_25) (ob_26) (ob_27) (ob_28) (ob_29) (ob_30) (ob_31) (ob_32) (ob_33) (ob_34) cd (ob_36) my wi nb mv fw z0) ⟨(callB_of 2 hw0 (gA m_361) rfl rfl rfl (hw0 _ m_166) (hw0 _ m_372) (by decide +kernel) ⟨Nat.le_of_ble_eq_true rfl, Nat.le_of_ble_eq_true rfl⟩), (hw0 _ m_373), (hw0 _ m_374)⟩ (ci := 10) (q := (RX10, TX10, 41)) rfl rfl rfl hl.1 (Nat.le_of_ble_eq_true rfl) dX10_worth_3 ⟨Nat.le_of_ble_eq_true rfl, Nat.le_of_ble_eq_true rfl⟩ (fun r_1 w_1 H locs hw_1 hP hD hS => ?_)
  obtain ⟨rfl, rfl⟩ := hw_1
  have hP : va_P G vwCl [(ob, .inr (10, [ob_0, .ref wo, .ref mi, .ref hm, .ref mt, .int 0, .ref fv, .int 0, .int 0, .int 0, .int 0, .int 0, .int 0, .int (-1), .ref fr, ob_15, ob_16, ob_17, ob_18, ob_19, ob_20, ob_21, ob_22, ob_23, ob_24, ob_25, ob_26, ob_27, ob_28, ob_29, ob_30, ob_31, ob_32, ob_33, ob_34, .ref cd, ob_36, .ref my, .ref wi, .ref nb, .ref mv])), (wo, .inl (y 1, 9080, .inl fw))] H := hP
  have hD : va_D A [(ob, .inr (10, [ob_0, .ref wo, .ref mi, .ref hm, .ref mt, .int 0, .ref fv, .int 0, .int 0, .int 0, .int 0, .int 0, .int 0, .int (-1), .ref fr, ob_15, ob_16, ob_17, ob_18, ob_19, ob_20, ob_21, ob_22, ob_23, ob_24, ob_25, ob_26, ob_27, ob_28, ob_29, ob_30, ob_31, ob_32, ob_33, ob_34, .ref cd, ob_36, .ref my, .ref wi, .ref nb, .ref mv])), (wo, .inl (y 1, 9080, .inl fw))] := hD
  refine lv_if_ne (tgt := 12) hx hb dX10_worth_6 (by decide) (fun c9 => absurd (by decide) c9) (fun _ => ?_)
  refine lv_bipush (v := (-2)) hx hb dX10_worth_9 (by decide) ?_
  refine W.widen (k := 0) (n := 0) (Nat.le_of_ble_eq_true rfl) (Nat.le_of_ble_eq_true rfl) ?_
  exact W.iret (v := (-2)) hx hb hr (fun t ht hW => ⟨⟨(-2), _, rfl, rfl, by rw [ht]; exact hP, hD⟩, hS.F ht⟩) hS.2.2 dX10_worth_11

set_option maxHeartbeats 4000000 in
set_option maxRecDepth 100000 in
theorem kX10_round (l : Launch) (G : va_G) (y : Nat → ClassId) (sz : Nat) (ob : Nat) (a1 : Int32) (a2 : Int32) (a3 : Int32) (ob_0 : Value) (wo : Nat) (mi : Nat) (hm : Nat) (mt : Nat) (fv : Nat) (fr : Nat) (ob_15 : Value) (ob_16 : Value) (ob_17 : Value) (ob_18 : Value) (ob_19 : Value) (ob_20 : Value) (ob_21 : Value) (ob_22 : Value) (ob_23 : Value) (ob_24 : Value) (ob_25 : Value) (ob_26 : Value) (ob_27 : Value) (ob_28 : Value) (ob_29 : Value) (ob_30 : Value) (ob_31 : Value) (ob_32 : Value) (ob_33 : Value) (ob_34 : Value) (cd : Nat) (ob_36 : Value) (my : Nat) (wi : Nat) (nb : Nat) (mv : Nat) (fw : Nat → Int32) (z0 : fw 0 = 0) : Met l yX10_round (Cond.code yX10_round cX10_round 5 (some .int) :: wAll) ({ frames := 3, cells := 0, slots := 0, locals := 68 }) (va_Pc [.ref ob, .int a1, .int a2, .int a3] (kp G y sz [(ob, .inr (10, [ob_0, .ref wo, .ref mi, .ref hm, .ref mt, .int 0, .ref fv, .int 0, .int 0, .int 0, .int 0, .int 0, .int 0, .int (-1), .ref fr, ob_15, ob_16, ob_17, ob_18, ob_19, ob_20, ob_21, ob_22, ob_23, ob_24, ob_25, ob_26, ob_27, ob_28, ob_29, ob_30, ob_31, ob_32, ob_33, ob_34, .ref cd, ob_36, .ref my, .ref wi, .ref nb, .ref mv])), (wo, .inl (y 1, 9080, .inl fw))])) (va_Qi (fun (r : Int32) (_ : va_W) => r = -2) (kq G (va_A [(ob, .inr (10, [ob_0, .ref wo, .ref mi, .ref hm, .ref mt, .int 0, .ref fv, .int 0, .int 0, .int 0, .int 0, .int 0, .int 0, .int (-1), .ref fr, ob_15, ob_16, ob_17, ob_18, ob_19, ob_20, ob_21, ob_22, ob_23, ob_24, ob_25, ob_26, ob_27, ob_28, ob_29, ob_30, ob_31, ob_32, ob_33, ob_34, .ref cd, ob_36, .ref my, .ref wi, .ref nb, .ref mv])), (wo, .inl (y 1, 9080, .inl fw))] sz)) (va_A [(ob, .inr (10, [ob_0, .ref wo, .ref mi, .ref hm, .ref mt, .int 0, .ref fv, .int 0, .int 0, .int 0, .int 0, .int 0, .int 0, .int (-1), .ref fr, ob_15, ob_16, ob_17, ob_18, ob_19, ob_20, ob_21, ob_22, ob_23, ob_24, ob_25, ob_26, ob_27, ob_28, ob_29, ob_30, ob_31, ob_32, ob_33, ob_34, .ref cd, ob_36, .ref my, .ref wi, .ref nb, .ref mv])), (wo, .inl (y 1, 9080, .inl fw))] sz)) 0 0 (va_A [(ob, .inr (10, [ob_0, .ref wo, .ref mi, .ref hm, .ref mt, .int 0, .ref fv, .int 0, .int 0, .int 0, .int 0, .int 0, .int 0, .int (-1), .ref fr, ob_15, ob_16, ob_17, ob_18, ob_19, ob_20, ob_21, ob_22, ob_23, ob_24, ob_25, ob_26, ob_27, ob_28, ob_29, ob_30, ob_31, ob_32, ob_33, ob_34, .ref cd, ob_36, .ref my, .ref wi, .ref nb, .ref mv])), (wo, .inl (y 1, 9080, .inl fw))] sz) := by
  refine Met.ofW (cc := cX10_round) (maxL := 5) (ret := (some .int)) (by decide) rfl ?_
  intro p e s m args below meth c s₁ B hml hv
  obtain ⟨rfl, hsz, hP, hK, hD0⟩ := hv
  have hx := B.exec
  have hb := B.bytes
  have hr := B.returns
  have hw0 : ∀ w ∈ wAll, w.before _ s = true := fun w h => atoms_spec (ws := Cond.code yX10_round cX10_round 5 (some .int) :: wAll) B.pre w (List.mem_cons_of_mem _ h)
  have hown : s.vm.findClass RX10 = some m.cls := findClass_of_methodNamed B.named
  have hlocks := B.notSynchronized
  subst hsz
  have hD := hD0.self (sz := s.heap.size)
  generalize hAe : va_A [(ob, .inr (10, [ob_0, .ref wo, .ref mi, .ref hm, .ref mt, .int 0, .ref fv, .int 0, .int 0, .int 0, .int 0, .int 0, .int 0, .int (-1), .ref fr, ob_15, ob_16, ob_17, ob_18, ob_19, ob_20, ob_21, ob_22, ob_23, ob_24, ob_25, ob_26, ob_27, ob_28, ob_29, ob_30, ob_31, ob_32, ob_33, ob_34, .ref cd, ob_36, .ref my, .ref wi, .ref nb, .ref mv])), (wo, .inl (y 1, 9080, .inl fw))] s.heap.size = A at hD ⊢
  have hA : ∀ q : Nat, s.heap.size ≤ q → A q := fun q h => by rw [← hAe]; exact Or.inr h
  have hS : va_S A s.heap s.heap [] := va_S.rf
  have hP : va_P G vwCl [(ob, .inr (10, [ob_0, .ref wo, .ref mi, .ref hm, .ref mt, .int 0, .ref fv, .int 0, .int 0, .int 0, .int 0, .int 0, .int 0, .int (-1), .ref fr, ob_15, ob_16, ob_17, ob_18, ob_19, ob_20, ob_21, ob_22, ob_23, ob_24, ob_25, ob_26, ob_27, ob_28, ob_29, ob_30, ob_31, ob_32, ob_33, ob_34, .ref cd, ob_36, .ref my, .ref wi, .ref nb, .ref mv])), (wo, .inl (y 1, 9080, .inl fw))] s.heap := hP
  have hl := lv_entry ([.ref ob, .int a1, .int a2, .int a3]) (n := 5) (Nat.le_of_ble_eq_true rfl)
  rw [lg_entry_eq]
  generalize (lg_sl ([.ref ob, .int a1, .int a2, .int a3]) ++ List.replicate (5 - (lg_sl ([.ref ob, .int a1, .int a2, .int a3])).length) Slot.unset).toArray = ls at hl ⊢
  have hl : lv_has ls 5 [(0, .ref ob), (1, .int a1), (2, .int a2), (3, .int a3)] := hl
  refine lv_aload_n hx hb dX10_round_0 rfl (lv_at hl 0 rfl) ?_
  refine lv_iload_n hx hb dX10_round_1 rfl (lv_at hl 1 rfl) ?_
  refine lv_iload_n hx hb dX10_round_2 rfl (lv_at hl 2 rfl) ?_
  refine cVi (As := [.int a1, .int a2]) (rest := []) ⟨hx, hb, hml, hown, hw0⟩ hA hK hP hD hS [0, 1] [] [(ob, .inr (10, [ob_0, .ref wo, .ref mi, .ref hm, .ref mt, .int 0, .ref fv, .int 0, .int 0, .int 0, .int 0, .int 0, .int 0, .int (-1), .ref fr, ob_15, ob_16, ob_17, ob_18, ob_19, ob_20, ob_21, ob_22, ob_23, ob_24, ob_25, ob_26, ob_27, ob_28, ob_29, ob_30, ob_31, ob_32, ob_33, ob_34, .ref cd, ob_36, .ref my, .ref wi, .ref nb, .ref mv])), (wo, .inl (y 1, 9080, .inl fw))] [] rfl rfl (by decide) (by decide) (by decide) (kX10_isRound l G y _ ob a1 a2 (ob_0) wo mi hm mt fv fr (ob_15) (ob_16) (ob_17) (ob_18) (ob_19) (ob_20) (ob_21) (ob_22) (ob_23) (ob_24) (ob_25) (ob_26) (ob_27) (ob_28) (ob_29) (ob_30) (ob_31) (ob_32) (ob_33) (ob_34) cd (ob_36) my wi nb mv fw z0) ⟨(callB_of 2 hw0 (gA m_361) rfl rfl rfl (hw0 _ m_166) (hw0 _ m_372) (by decide +kernel) ⟨Nat.le_of_ble_eq_true rfl, Nat.le_of_ble_eq_true rfl⟩), (hw0 _ m_373), (hw0 _ m_374)⟩ (ci := 10) (q := (RX10, TX10, 41)) rfl rfl rfl hl.1 (Nat.le_of_ble_eq_true rfl) dX10_round_3 ⟨Nat.le_of_ble_eq_true rfl, Nat.le_of_ble_eq_true rfl⟩ (fun r_1 w_1 H locs hw_1 hP hD hS => ?_)
  obtain ⟨rfl, rfl⟩ := hw_1
  have hP : va_P G vwCl [(ob, .inr (10, [ob_0, .ref wo, .ref mi, .ref hm, .ref mt, .int 0, .ref fv, .int 0, .int 0, .int 0, .int 0, .int 0, .int 0, .int (-1), .ref fr, ob_15, ob_16, ob_17, ob_18, ob_19, ob_20, ob_21, ob_22, ob_23, ob_24, ob_25, ob_26, ob_27, ob_28, ob_29, ob_30, ob_31, ob_32, ob_33, ob_34, .ref cd, ob_36, .ref my, .ref wi, .ref nb, .ref mv])), (wo, .inl (y 1, 9080, .inl fw))] H := hP
  have hD : va_D A [(ob, .inr (10, [ob_0, .ref wo, .ref mi, .ref hm, .ref mt, .int 0, .ref fv, .int 0, .int 0, .int 0, .int 0, .int 0, .int 0, .int (-1), .ref fr, ob_15, ob_16, ob_17, ob_18, ob_19, ob_20, ob_21, ob_22, ob_23, ob_24, ob_25, ob_26, ob_27, ob_28, ob_29, ob_30, ob_31, ob_32, ob_33, ob_34, .ref cd, ob_36, .ref my, .ref wi, .ref nb, .ref mv])), (wo, .inl (y 1, 9080, .inl fw))] := hD
  refine lv_if_ne (tgt := 12) hx hb dX10_round_6 (by decide) (fun c9 => absurd (by decide) c9) (fun _ => ?_)
  refine lv_bipush (v := (-2)) hx hb dX10_round_9 (by decide) ?_
  refine W.widen (k := 0) (n := 0) (Nat.le_of_ble_eq_true rfl) (Nat.le_of_ble_eq_true rfl) ?_
  exact W.iret (v := (-2)) hx hb hr (fun t ht hW => ⟨⟨(-2), _, rfl, rfl, by rw [ht]; exact hP, hD⟩, hS.F ht⟩) hS.2.2 dX10_round_11

set_option maxHeartbeats 4000000 in
set_option maxRecDepth 100000 in
theorem kX10_over (l : Launch) (G : va_G) (y : Nat → ClassId) (sz : Nat) (ob : Nat) (a1 : Int32) (a2 : Int32) (ob_0 : Value) (wo : Nat) (mi : Nat) (hm : Nat) (mt : Nat) (fv : Nat) (fr : Nat) (ob_15 : Value) (ob_16 : Value) (ob_17 : Value) (ob_18 : Value) (ob_19 : Value) (ob_20 : Value) (ob_21 : Value) (ob_22 : Value) (ob_23 : Value) (ob_24 : Value) (ob_25 : Value) (ob_26 : Value) (ob_27 : Value) (ob_28 : Value) (ob_29 : Value) (ob_30 : Value) (ob_31 : Value) (ob_32 : Value) (ob_33 : Value) (ob_34 : Value) (cd : Nat) (ob_36 : Value) (my : Nat) (wi : Nat) (nb : Nat) (mv : Nat) (fw : Nat → Int32) (z0 : fw 0 = 0) : Met l yX10_over (Cond.code yX10_over cX10_over 3 (some .int) :: wAll) ({ frames := 3, cells := 0, slots := 0, locals := 68 }) (va_Pc [.ref ob, .int a1, .int a2] (kp G y sz [(ob, .inr (10, [ob_0, .ref wo, .ref mi, .ref hm, .ref mt, .int 0, .ref fv, .int 0, .int 0, .int 0, .int 0, .int 0, .int 0, .int (-1), .ref fr, ob_15, ob_16, ob_17, ob_18, ob_19, ob_20, ob_21, ob_22, ob_23, ob_24, ob_25, ob_26, ob_27, ob_28, ob_29, ob_30, ob_31, ob_32, ob_33, ob_34, .ref cd, ob_36, .ref my, .ref wi, .ref nb, .ref mv])), (wo, .inl (y 1, 9080, .inl fw))])) (va_Qi (fun (r : Int32) (_ : va_W) => r = -2) (kq G (va_A [(ob, .inr (10, [ob_0, .ref wo, .ref mi, .ref hm, .ref mt, .int 0, .ref fv, .int 0, .int 0, .int 0, .int 0, .int 0, .int 0, .int (-1), .ref fr, ob_15, ob_16, ob_17, ob_18, ob_19, ob_20, ob_21, ob_22, ob_23, ob_24, ob_25, ob_26, ob_27, ob_28, ob_29, ob_30, ob_31, ob_32, ob_33, ob_34, .ref cd, ob_36, .ref my, .ref wi, .ref nb, .ref mv])), (wo, .inl (y 1, 9080, .inl fw))] sz)) (va_A [(ob, .inr (10, [ob_0, .ref wo, .ref mi, .ref hm, .ref mt, .int 0, .ref fv, .int 0, .int 0, .int 0, .int 0, .int 0, .int 0, .int (-1), .ref fr, ob_15, ob_16, ob_17, ob_18, ob_19, ob_20, ob_21, ob_22, ob_23, ob_24, ob_25, ob_26, ob_27, ob_28, ob_29, ob_30, ob_31, ob_32, ob_33, ob_34, .ref cd, ob_36, .ref my, .ref wi, .ref nb, .ref mv])), (wo, .inl (y 1, 9080, .inl fw))] sz)) 0 0 (va_A [(ob, .inr (10, [ob_0, .ref wo, .ref mi, .ref hm, .ref mt, .int 0, .ref fv, .int 0, .int 0, .int 0, .int 0, .int 0, .int 0, .int (-1), .ref fr, ob_15, ob_16, ob_17, ob_18, ob_19, ob_20, ob_21, ob_22, ob_23, ob_24, ob_25, ob_26, ob_27, ob_28, ob_29, ob_30, ob_31, ob_32, ob_33, ob_34, .ref cd, ob_36, .ref my, .ref wi, .ref nb, .ref mv])), (wo, .inl (y 1, 9080, .inl fw))] sz) := by
  refine Met.ofW (cc := cX10_over) (maxL := 3) (ret := (some .int)) (by decide) rfl ?_
  intro p e s m args below meth c s₁ B hml hv
  obtain ⟨rfl, hsz, hP, hK, hD0⟩ := hv
  have hx := B.exec
  have hb := B.bytes
  have hr := B.returns
  have hw0 : ∀ w ∈ wAll, w.before _ s = true := fun w h => atoms_spec (ws := Cond.code yX10_over cX10_over 3 (some .int) :: wAll) B.pre w (List.mem_cons_of_mem _ h)
  have hown : s.vm.findClass RX10 = some m.cls := findClass_of_methodNamed B.named
  have hlocks := B.notSynchronized
  subst hsz
  have hD := hD0.self (sz := s.heap.size)
  generalize hAe : va_A [(ob, .inr (10, [ob_0, .ref wo, .ref mi, .ref hm, .ref mt, .int 0, .ref fv, .int 0, .int 0, .int 0, .int 0, .int 0, .int 0, .int (-1), .ref fr, ob_15, ob_16, ob_17, ob_18, ob_19, ob_20, ob_21, ob_22, ob_23, ob_24, ob_25, ob_26, ob_27, ob_28, ob_29, ob_30, ob_31, ob_32, ob_33, ob_34, .ref cd, ob_36, .ref my, .ref wi, .ref nb, .ref mv])), (wo, .inl (y 1, 9080, .inl fw))] s.heap.size = A at hD ⊢
  have hA : ∀ q : Nat, s.heap.size ≤ q → A q := fun q h => by rw [← hAe]; exact Or.inr h
  have hS : va_S A s.heap s.heap [] := va_S.rf
  have hP : va_P G vwCl [(ob, .inr (10, [ob_0, .ref wo, .ref mi, .ref hm, .ref mt, .int 0, .ref fv, .int 0, .int 0, .int 0, .int 0, .int 0, .int 0, .int (-1), .ref fr, ob_15, ob_16, ob_17, ob_18, ob_19, ob_20, ob_21, ob_22, ob_23, ob_24, ob_25, ob_26, ob_27, ob_28, ob_29, ob_30, ob_31, ob_32, ob_33, ob_34, .ref cd, ob_36, .ref my, .ref wi, .ref nb, .ref mv])), (wo, .inl (y 1, 9080, .inl fw))] s.heap := hP
  have hl := lv_entry ([.ref ob, .int a1, .int a2]) (n := 3) (Nat.le_of_ble_eq_true rfl)
  rw [lg_entry_eq]
  generalize (lg_sl ([.ref ob, .int a1, .int a2]) ++ List.replicate (3 - (lg_sl ([.ref ob, .int a1, .int a2])).length) Slot.unset).toArray = ls at hl ⊢
  have hl : lv_has ls 3 [(0, .ref ob), (1, .int a1), (2, .int a2)] := hl
  refine lv_aload_n hx hb dX10_over_0 rfl (lv_at hl 0 rfl) ?_
  refine lv_iload_n hx hb dX10_over_1 rfl (lv_at hl 1 rfl) ?_
  refine lv_iload_n hx hb dX10_over_2 rfl (lv_at hl 2 rfl) ?_
  refine cVi (As := [.int a1, .int a2]) (rest := []) ⟨hx, hb, hml, hown, hw0⟩ hA hK hP hD hS [0, 1] [] [(ob, .inr (10, [ob_0, .ref wo, .ref mi, .ref hm, .ref mt, .int 0, .ref fv, .int 0, .int 0, .int 0, .int 0, .int 0, .int 0, .int (-1), .ref fr, ob_15, ob_16, ob_17, ob_18, ob_19, ob_20, ob_21, ob_22, ob_23, ob_24, ob_25, ob_26, ob_27, ob_28, ob_29, ob_30, ob_31, ob_32, ob_33, ob_34, .ref cd, ob_36, .ref my, .ref wi, .ref nb, .ref mv])), (wo, .inl (y 1, 9080, .inl fw))] [] rfl rfl (by decide) (by decide) (by decide) (kX10_isRound l G y _ ob a1 a2 (ob_0) wo mi hm mt fv fr (ob_15) (ob_16) (ob_17) (ob_18) (ob_19) (ob_20) (ob_21) (ob_22) (ob_23) (ob_24) (ob_25) (ob_26) (ob_27) (ob_28) (ob_29) (ob_30) (ob_31) (ob_32) (ob_33) (ob_34) cd (ob_36) my wi nb mv fw z0) ⟨(callB_of 2 hw0 (gA m_361) rfl rfl rfl (hw0 _ m_166) (hw0 _ m_372) (by decide +kernel) ⟨Nat.le_of_ble_eq_true rfl, Nat.le_of_ble_eq_true rfl⟩), (hw0 _ m_373), (hw0 _ m_374)⟩ (ci := 10) (q := (RX10, TX10, 41)) rfl rfl rfl hl.1 (Nat.le_of_ble_eq_true rfl) dX10_over_3 ⟨Nat.le_of_ble_eq_true rfl, Nat.le_of_ble_eq_true rfl⟩ (fun r_1 w_1 H locs hw_1 hP hD hS => ?_)
  obtain ⟨rfl, rfl⟩ := hw_1
  have hP : va_P G vwCl [(ob, .inr (10, [ob_0, .ref wo, .ref mi, .ref hm, .ref mt, .int 0, .ref fv, .int 0, .int 0, .int 0, .int 0, .int 0, .int 0, .int (-1), .ref fr, ob_15, ob_16, ob_17, ob_18, ob_19, ob_20, ob_21, ob_22, ob_23, ob_24, ob_25, ob_26, ob_27, ob_28, ob_29, ob_30, ob_31, ob_32, ob_33, ob_34, .ref cd, ob_36, .ref my, .ref wi, .ref nb, .ref mv])), (wo, .inl (y 1, 9080, .inl fw))] H := hP
  have hD : va_D A [(ob, .inr (10, [ob_0, .ref wo, .ref mi, .ref hm, .ref mt, .int 0, .ref fv, .int 0, .int 0, .int 0, .int 0, .int 0, .int 0, .int (-1), .ref fr, ob_15, ob_16, ob_17, ob_18, ob_19, ob_20, ob_21, ob_22, ob_23, ob_24, ob_25, ob_26, ob_27, ob_28, ob_29, ob_30, ob_31, ob_32, ob_33, ob_34, .ref cd, ob_36, .ref my, .ref wi, .ref nb, .ref mv])), (wo, .inl (y 1, 9080, .inl fw))] := hD
  refine lv_if_ne (tgt := 12) hx hb dX10_over_6 (by decide) (fun c9 => absurd (by decide) c9) (fun _ => ?_)
  refine lv_bipush (v := (-2)) hx hb dX10_over_9 (by decide) ?_
  refine W.widen (k := 0) (n := 0) (Nat.le_of_ble_eq_true rfl) (Nat.le_of_ble_eq_true rfl) ?_
  exact W.iret (v := (-2)) hx hb hr (fun t ht hW => ⟨⟨(-2), _, rfl, rfl, by rw [ht]; exact hP, hD⟩, hS.F ht⟩) hS.2.2 dX10_over_11

set_option maxHeartbeats 4000000 in
set_option maxRecDepth 100000 in
theorem kX10_may (l : Launch) (G : va_G) (y : Nat → ClassId) (sz : Nat) (ob : Nat) (a1 : Int32) (a2 : Int32) (a3 : Int32) (ob_0 : Value) (wo : Nat) (mi : Nat) (hm : Nat) (mt : Nat) (fv : Nat) (fr : Nat) (ob_15 : Value) (ob_16 : Value) (ob_17 : Value) (ob_18 : Value) (ob_19 : Value) (ob_20 : Value) (ob_21 : Value) (ob_22 : Value) (ob_23 : Value) (ob_24 : Value) (ob_25 : Value) (ob_26 : Value) (ob_27 : Value) (ob_28 : Value) (ob_29 : Value) (ob_30 : Value) (ob_31 : Value) (ob_32 : Value) (ob_33 : Value) (ob_34 : Value) (cd : Nat) (ob_36 : Value) (my : Nat) (wi : Nat) (nb : Nat) (mv : Nat) (fw : Nat → Int32) (z0 : fw 0 = 0) : Met l yX10_may (Cond.code yX10_may cX10_may 11 (some .int) :: wAll) ({ frames := 3, cells := 0, slots := 0, locals := 68 }) (va_Pc [.ref ob, .int a1, .int a2, .int a3] (kp G y sz [(ob, .inr (10, [ob_0, .ref wo, .ref mi, .ref hm, .ref mt, .int 0, .ref fv, .int 0, .int 0, .int 0, .int 0, .int 0, .int 0, .int (-1), .ref fr, ob_15, ob_16, ob_17, ob_18, ob_19, ob_20, ob_21, ob_22, ob_23, ob_24, ob_25, ob_26, ob_27, ob_28, ob_29, ob_30, ob_31, ob_32, ob_33, ob_34, .ref cd, ob_36, .ref my, .ref wi, .ref nb, .ref mv])), (wo, .inl (y 1, 9080, .inl fw))])) (va_Qi (fun (r : Int32) (_ : va_W) => r = -2) (kq G (va_A [(ob, .inr (10, [ob_0, .ref wo, .ref mi, .ref hm, .ref mt, .int 0, .ref fv, .int 0, .int 0, .int 0, .int 0, .int 0, .int 0, .int (-1), .ref fr, ob_15, ob_16, ob_17, ob_18, ob_19, ob_20, ob_21, ob_22, ob_23, ob_24, ob_25, ob_26, ob_27, ob_28, ob_29, ob_30, ob_31, ob_32, ob_33, ob_34, .ref cd, ob_36, .ref my, .ref wi, .ref nb, .ref mv])), (wo, .inl (y 1, 9080, .inl fw))] sz)) (va_A [(ob, .inr (10, [ob_0, .ref wo, .ref mi, .ref hm, .ref mt, .int 0, .ref fv, .int 0, .int 0, .int 0, .int 0, .int 0, .int 0, .int (-1), .ref fr, ob_15, ob_16, ob_17, ob_18, ob_19, ob_20, ob_21, ob_22, ob_23, ob_24, ob_25, ob_26, ob_27, ob_28, ob_29, ob_30, ob_31, ob_32, ob_33, ob_34, .ref cd, ob_36, .ref my, .ref wi, .ref nb, .ref mv])), (wo, .inl (y 1, 9080, .inl fw))] sz)) 0 0 (va_A [(ob, .inr (10, [ob_0, .ref wo, .ref mi, .ref hm, .ref mt, .int 0, .ref fv, .int 0, .int 0, .int 0, .int 0, .int 0, .int 0, .int (-1), .ref fr, ob_15, ob_16, ob_17, ob_18, ob_19, ob_20, ob_21, ob_22, ob_23, ob_24, ob_25, ob_26, ob_27, ob_28, ob_29, ob_30, ob_31, ob_32, ob_33, ob_34, .ref cd, ob_36, .ref my, .ref wi, .ref nb, .ref mv])), (wo, .inl (y 1, 9080, .inl fw))] sz) := by
  refine Met.ofW (cc := cX10_may) (maxL := 11) (ret := (some .int)) (by decide) rfl ?_
  intro p e s m args below meth c s₁ B hml hv
  obtain ⟨rfl, hsz, hP, hK, hD0⟩ := hv
  have hx := B.exec
  have hb := B.bytes
  have hr := B.returns
  have hw0 : ∀ w ∈ wAll, w.before _ s = true := fun w h => atoms_spec (ws := Cond.code yX10_may cX10_may 11 (some .int) :: wAll) B.pre w (List.mem_cons_of_mem _ h)
  have hown : s.vm.findClass RX10 = some m.cls := findClass_of_methodNamed B.named
  have hlocks := B.notSynchronized
  subst hsz
  have hD := hD0.self (sz := s.heap.size)
  generalize hAe : va_A [(ob, .inr (10, [ob_0, .ref wo, .ref mi, .ref hm, .ref mt, .int 0, .ref fv, .int 0, .int 0, .int 0, .int 0, .int 0, .int 0, .int (-1), .ref fr, ob_15, ob_16, ob_17, ob_18, ob_19, ob_20, ob_21, ob_22, ob_23, ob_24, ob_25, ob_26, ob_27, ob_28, ob_29, ob_30, ob_31, ob_32, ob_33, ob_34, .ref cd, ob_36, .ref my, .ref wi, .ref nb, .ref mv])), (wo, .inl (y 1, 9080, .inl fw))] s.heap.size = A at hD ⊢
  have hA : ∀ q : Nat, s.heap.size ≤ q → A q := fun q h => by rw [← hAe]; exact Or.inr h
  have hS : va_S A s.heap s.heap [] := va_S.rf
  have hP : va_P G vwCl [(ob, .inr (10, [ob_0, .ref wo, .ref mi, .ref hm, .ref mt, .int 0, .ref fv, .int 0, .int 0, .int 0, .int 0, .int 0, .int 0, .int (-1), .ref fr, ob_15, ob_16, ob_17, ob_18, ob_19, ob_20, ob_21, ob_22, ob_23, ob_24, ob_25, ob_26, ob_27, ob_28, ob_29, ob_30, ob_31, ob_32, ob_33, ob_34, .ref cd, ob_36, .ref my, .ref wi, .ref nb, .ref mv])), (wo, .inl (y 1, 9080, .inl fw))] s.heap := hP
  have hl := lv_entry ([.ref ob, .int a1, .int a2, .int a3]) (n := 11) (Nat.le_of_ble_eq_true rfl)
  rw [lg_entry_eq]
  generalize (lg_sl ([.ref ob, .int a1, .int a2, .int a3]) ++ List.replicate (11 - (lg_sl ([.ref ob, .int a1, .int a2, .int a3])).length) Slot.unset).toArray = ls at hl ⊢
  have hl : lv_has ls 11 [(0, .ref ob), (1, .int a1), (2, .int a2), (3, .int a3)] := hl
  refine lv_iload_n hx hb dX10_may_0 rfl (lv_at hl 1 rfl) ?_
  refine cSi (As := [.int a1]) (rest := []) ⟨hx, hb, hml, hown, hw0⟩ hA hK hP hD hS [] [0, 1] [] [(ob, .inr (10, [ob_0, .ref wo, .ref mi, .ref hm, .ref mt, .int 0, .ref fv, .int 0, .int 0, .int 0, .int 0, .int 0, .int 0, .int (-1), .ref fr, ob_15, ob_16, ob_17, ob_18, ob_19, ob_20, ob_21, ob_22, ob_23, ob_24, ob_25, ob_26, ob_27, ob_28, ob_29, ob_30, ob_31, ob_32, ob_33, ob_34, .ref cd, ob_36, .ref my, .ref wi, .ref nb, .ref mv])), (wo, .inl (y 1, 9080, .inl fw))] rfl rfl (by decide) (by decide) (by decide) (kX10_isSlot l G y _ a1 ) ⟨(callB_of 1 hw0 (gA m_169) rfl rfl rfl (hw0 _ m_166) (hw0 _ m_378) (by decide +kernel) ⟨Nat.le_of_ble_eq_true rfl, Nat.le_of_ble_eq_true rfl⟩), (hw0 _ m_379)⟩ rfl hl.1 (Nat.le_of_ble_eq_true rfl) dX10_may_1 ⟨Nat.le_of_ble_eq_true rfl, Nat.le_of_ble_eq_true rfl⟩ (fun r_1 w_1 H locs hw_1 hP hD hS => ?_)
  rcases hw_1 with ⟨c_2, rfl, rfl⟩ | ⟨c_3, rfl, rfl⟩
  · skip
    have hP : va_P G vwCl [(ob, .inr (10, [ob_0, .ref wo, .ref mi, .ref hm, .ref mt, .int 0, .ref fv, .int 0, .int 0, .int 0, .int 0, .int 0, .int 0, .int (-1), .ref fr, ob_15, ob_16, ob_17, ob_18, ob_19, ob_20, ob_21, ob_22, ob_23, ob_24, ob_25, ob_26, ob_27, ob_28, ob_29, ob_30, ob_31, ob_32, ob_33, ob_34, .ref cd, ob_36, .ref my, .ref wi, .ref nb, .ref mv])), (wo, .inl (y 1, 9080, .inl fw))] H := hP
    have hD : va_D A [(ob, .inr (10, [ob_0, .ref wo, .ref mi, .ref hm, .ref mt, .int 0, .ref fv, .int 0, .int 0, .int 0, .int 0, .int 0, .int 0, .int (-1), .ref fr, ob_15, ob_16, ob_17, ob_18, ob_19, ob_20, ob_21, ob_22, ob_23, ob_24, ob_25, ob_26, ob_27, ob_28, ob_29, ob_30, ob_31, ob_32, ob_33, ob_34, .ref cd, ob_36, .ref my, .ref wi, .ref nb, .ref mv])), (wo, .inl (y 1, 9080, .inl fw))] := hD
    refine lv_if_eq (tgt := 16) hx hb dX10_may_4 (by decide) (fun c9 => absurd c9 (by decide)) (fun _ => ?_)
    refine lv_aload_n hx hb dX10_may_7 rfl (lv_at hl 0 rfl) ?_
    refine lv_iload_n hx hb dX10_may_8 rfl (lv_at hl 2 rfl) ?_
    refine lv_iload_n hx hb dX10_may_9 rfl (lv_at hl 3 rfl) ?_
    refine cVi (As := [.int a2, .int a3]) (rest := []) ⟨hx, hb, hml, hown, hw0⟩ hA hK hP hD hS [0, 1] [] [(ob, .inr (10, [ob_0, .ref wo, .ref mi, .ref hm, .ref mt, .int 0, .ref fv, .int 0, .int 0, .int 0, .int 0, .int 0, .int 0, .int (-1), .ref fr, ob_15, ob_16, ob_17, ob_18, ob_19, ob_20, ob_21, ob_22, ob_23, ob_24, ob_25, ob_26, ob_27, ob_28, ob_29, ob_30, ob_31, ob_32, ob_33, ob_34, .ref cd, ob_36, .ref my, .ref wi, .ref nb, .ref mv])), (wo, .inl (y 1, 9080, .inl fw))] [] rfl rfl (by decide) (by decide) (by decide) (kX10_isRound l G y _ ob a2 a3 (ob_0) wo mi hm mt fv fr (ob_15) (ob_16) (ob_17) (ob_18) (ob_19) (ob_20) (ob_21) (ob_22) (ob_23) (ob_24) (ob_25) (ob_26) (ob_27) (ob_28) (ob_29) (ob_30) (ob_31) (ob_32) (ob_33) (ob_34) cd (ob_36) my wi nb mv fw z0) ⟨(callB_of 2 hw0 (gA m_361) rfl rfl rfl (hw0 _ m_166) (hw0 _ m_372) (by decide +kernel) ⟨Nat.le_of_ble_eq_true rfl, Nat.le_of_ble_eq_true rfl⟩), (hw0 _ m_373), (hw0 _ m_374)⟩ (ci := 10) (q := (RX10, TX10, 41)) rfl rfl rfl hl.1 (Nat.le_of_ble_eq_true rfl) dX10_may_10 ⟨Nat.le_of_ble_eq_true rfl, Nat.le_of_ble_eq_true rfl⟩ (fun r_4 w_4 H locs hw_4 hP hD hS => ?_)
    obtain ⟨rfl, rfl⟩ := hw_4
    have hP : va_P G vwCl [(ob, .inr (10, [ob_0, .ref wo, .ref mi, .ref hm, .ref mt, .int 0, .ref fv, .int 0, .int 0, .int 0, .int 0, .int 0, .int 0, .int (-1), .ref fr, ob_15, ob_16, ob_17, ob_18, ob_19, ob_20, ob_21, ob_22, ob_23, ob_24, ob_25, ob_26, ob_27, ob_28, ob_29, ob_30, ob_31, ob_32, ob_33, ob_34, .ref cd, ob_36, .ref my, .ref wi, .ref nb, .ref mv])), (wo, .inl (y 1, 9080, .inl fw))] H := hP
    have hD : va_D A [(ob, .inr (10, [ob_0, .ref wo, .ref mi, .ref hm, .ref mt, .int 0, .ref fv, .int 0, .int 0, .int 0, .int 0, .int 0, .int 0, .int (-1), .ref fr, ob_15, ob_16, ob_17, ob_18, ob_19, ob_20, ob_21, ob_22, ob_23, ob_24, ob_25, ob_26, ob_27, ob_28, ob_29, ob_30, ob_31, ob_32, ob_33, ob_34, .ref cd, ob_36, .ref my, .ref wi, .ref nb, .ref mv])), (wo, .inl (y 1, 9080, .inl fw))] := hD
    refine lv_if_ne (tgt := 19) hx hb dX10_may_13 (by decide) (fun c9 => absurd (by decide) c9) (fun _ => ?_)
    refine lv_bipush (v := (-2)) hx hb dX10_may_16 (by decide) ?_
    refine W.widen (k := 0) (n := 0) (Nat.le_of_ble_eq_true rfl) (Nat.le_of_ble_eq_true rfl) ?_
    exact W.iret (v := (-2)) hx hb hr (fun t ht hW => ⟨⟨(-2), _, rfl, rfl, by rw [ht]; exact hP, hD⟩, hS.F ht⟩) hS.2.2 dX10_may_18
  · skip
    have hP : va_P G vwCl [(ob, .inr (10, [ob_0, .ref wo, .ref mi, .ref hm, .ref mt, .int 0, .ref fv, .int 0, .int 0, .int 0, .int 0, .int 0, .int 0, .int (-1), .ref fr, ob_15, ob_16, ob_17, ob_18, ob_19, ob_20, ob_21, ob_22, ob_23, ob_24, ob_25, ob_26, ob_27, ob_28, ob_29, ob_30, ob_31, ob_32, ob_33, ob_34, .ref cd, ob_36, .ref my, .ref wi, .ref nb, .ref mv])), (wo, .inl (y 1, 9080, .inl fw))] H := hP
    have hD : va_D A [(ob, .inr (10, [ob_0, .ref wo, .ref mi, .ref hm, .ref mt, .int 0, .ref fv, .int 0, .int 0, .int 0, .int 0, .int 0, .int 0, .int (-1), .ref fr, ob_15, ob_16, ob_17, ob_18, ob_19, ob_20, ob_21, ob_22, ob_23, ob_24, ob_25, ob_26, ob_27, ob_28, ob_29, ob_30, ob_31, ob_32, ob_33, ob_34, .ref cd, ob_36, .ref my, .ref wi, .ref nb, .ref mv])), (wo, .inl (y 1, 9080, .inl fw))] := hD
    refine lv_if_eq (tgt := 16) hx hb dX10_may_4 (by decide) (fun _ => ?_) (fun c9 => absurd (by decide) c9)
    refine lv_bipush (v := (-2)) hx hb dX10_may_16 (by decide) ?_
    refine W.widen (k := 0) (n := 0) (Nat.le_of_ble_eq_true rfl) (Nat.le_of_ble_eq_true rfl) ?_
    exact W.iret (v := (-2)) hx hb hr (fun t ht hW => ⟨⟨(-2), _, rfl, rfl, by rw [ht]; exact hP, hD⟩, hS.F ht⟩) hS.2.2 dX10_may_18

set_option maxHeartbeats 4000000 in
set_option maxRecDepth 100000 in
theorem kX10_fewest (l : Launch) (G : va_G) (y : Nat → ClassId) (sz : Nat) (ob : Nat) (a1 : Int32) (ob_0 : Value) (wo : Nat) (mi : Nat) (hm : Nat) (mt : Nat) (fv : Nat) (fr : Nat) (ob_15 : Value) (ob_16 : Value) (ob_17 : Value) (ob_18 : Value) (ob_19 : Value) (ob_20 : Value) (ob_21 : Value) (ob_22 : Value) (ob_23 : Value) (ob_24 : Value) (ob_25 : Value) (ob_26 : Value) (ob_27 : Value) (ob_28 : Value) (ob_29 : Value) (ob_30 : Value) (ob_31 : Value) (ob_32 : Value) (ob_33 : Value) (ob_34 : Value) (cd : Nat) (ob_36 : Value) (my : Nat) (wi : Nat) (nb : Nat) (mv : Nat) (fw : Nat → Int32) (z0 : fw 0 = 0) : Met l yX10_fewest (Cond.code yX10_fewest cX10_fewest 7 (some .int) :: wAll) ({ frames := 2, cells := 0, slots := 0, locals := 46 }) (va_Pc [.ref ob, .int a1] (kp G y sz [(ob, .inr (10, [ob_0, .ref wo, .ref mi, .ref hm, .ref mt, .int 0, .ref fv, .int 0, .int 0, .int 0, .int 0, .int 0, .int 0, .int (-1), .ref fr, ob_15, ob_16, ob_17, ob_18, ob_19, ob_20, ob_21, ob_22, ob_23, ob_24, ob_25, ob_26, ob_27, ob_28, ob_29, ob_30, ob_31, ob_32, ob_33, ob_34, .ref cd, ob_36, .ref my, .ref wi, .ref nb, .ref mv])), (wo, .inl (y 1, 9080, .inl fw))])) (va_Qi (fun (r : Int32) (_ : va_W) => r = -2) (kq G (va_A [(ob, .inr (10, [ob_0, .ref wo, .ref mi, .ref hm, .ref mt, .int 0, .ref fv, .int 0, .int 0, .int 0, .int 0, .int 0, .int 0, .int (-1), .ref fr, ob_15, ob_16, ob_17, ob_18, ob_19, ob_20, ob_21, ob_22, ob_23, ob_24, ob_25, ob_26, ob_27, ob_28, ob_29, ob_30, ob_31, ob_32, ob_33, ob_34, .ref cd, ob_36, .ref my, .ref wi, .ref nb, .ref mv])), (wo, .inl (y 1, 9080, .inl fw))] sz)) (va_A [(ob, .inr (10, [ob_0, .ref wo, .ref mi, .ref hm, .ref mt, .int 0, .ref fv, .int 0, .int 0, .int 0, .int 0, .int 0, .int 0, .int (-1), .ref fr, ob_15, ob_16, ob_17, ob_18, ob_19, ob_20, ob_21, ob_22, ob_23, ob_24, ob_25, ob_26, ob_27, ob_28, ob_29, ob_30, ob_31, ob_32, ob_33, ob_34, .ref cd, ob_36, .ref my, .ref wi, .ref nb, .ref mv])), (wo, .inl (y 1, 9080, .inl fw))] sz)) 0 0 (va_A [(ob, .inr (10, [ob_0, .ref wo, .ref mi, .ref hm, .ref mt, .int 0, .ref fv, .int 0, .int 0, .int 0, .int 0, .int 0, .int 0, .int (-1), .ref fr, ob_15, ob_16, ob_17, ob_18, ob_19, ob_20, ob_21, ob_22, ob_23, ob_24, ob_25, ob_26, ob_27, ob_28, ob_29, ob_30, ob_31, ob_32, ob_33, ob_34, .ref cd, ob_36, .ref my, .ref wi, .ref nb, .ref mv])), (wo, .inl (y 1, 9080, .inl fw))] sz) := by
  refine Met.ofW (cc := cX10_fewest) (maxL := 7) (ret := (some .int)) (by decide) rfl ?_
  intro p e s m args below meth c s₁ B hml hv
  obtain ⟨rfl, hsz, hP, hK, hD0⟩ := hv
  have hx := B.exec
  have hb := B.bytes
  have hr := B.returns
  have hw0 : ∀ w ∈ wAll, w.before _ s = true := fun w h => atoms_spec (ws := Cond.code yX10_fewest cX10_fewest 7 (some .int) :: wAll) B.pre w (List.mem_cons_of_mem _ h)
  have hown : s.vm.findClass RX10 = some m.cls := findClass_of_methodNamed B.named
  have hlocks := B.notSynchronized
  subst hsz
  have hD := hD0.self (sz := s.heap.size)
  generalize hAe : va_A [(ob, .inr (10, [ob_0, .ref wo, .ref mi, .ref hm, .ref mt, .int 0, .ref fv, .int 0, .int 0, .int 0, .int 0, .int 0, .int 0, .int (-1), .ref fr, ob_15, ob_16, ob_17, ob_18, ob_19, ob_20, ob_21, ob_22, ob_23, ob_24, ob_25, ob_26, ob_27, ob_28, ob_29, ob_30, ob_31, ob_32, ob_33, ob_34, .ref cd, ob_36, .ref my, .ref wi, .ref nb, .ref mv])), (wo, .inl (y 1, 9080, .inl fw))] s.heap.size = A at hD ⊢
  have hA : ∀ q : Nat, s.heap.size ≤ q → A q := fun q h => by rw [← hAe]; exact Or.inr h
  have hS : va_S A s.heap s.heap [] := va_S.rf
  have hP : va_P G vwCl [(ob, .inr (10, [ob_0, .ref wo, .ref mi, .ref hm, .ref mt, .int 0, .ref fv, .int 0, .int 0, .int 0, .int 0, .int 0, .int 0, .int (-1), .ref fr, ob_15, ob_16, ob_17, ob_18, ob_19, ob_20, ob_21, ob_22, ob_23, ob_24, ob_25, ob_26, ob_27, ob_28, ob_29, ob_30, ob_31, ob_32, ob_33, ob_34, .ref cd, ob_36, .ref my, .ref wi, .ref nb, .ref mv])), (wo, .inl (y 1, 9080, .inl fw))] s.heap := hP
  have hl := lv_entry ([.ref ob, .int a1]) (n := 7) (Nat.le_of_ble_eq_true rfl)
  rw [lg_entry_eq]
  generalize (lg_sl ([.ref ob, .int a1]) ++ List.replicate (7 - (lg_sl ([.ref ob, .int a1])).length) Slot.unset).toArray = ls at hl ⊢
  have hl : lv_has ls 7 [(0, .ref ob), (1, .int a1)] := hl
  refine lv_aload_n hx hb dX10_fewest_0 rfl (lv_at hl 0 rfl) ?_
  refine lv_iload_n hx hb dX10_fewest_1 rfl (lv_at hl 1 rfl) ?_
  refine cVi (As := [.int a1]) (rest := []) ⟨hx, hb, hml, hown, hw0⟩ hA hK hP hD hS [0, 1] [] [(ob, .inr (10, [ob_0, .ref wo, .ref mi, .ref hm, .ref mt, .int 0, .ref fv, .int 0, .int 0, .int 0, .int 0, .int 0, .int 0, .int (-1), .ref fr, ob_15, ob_16, ob_17, ob_18, ob_19, ob_20, ob_21, ob_22, ob_23, ob_24, ob_25, ob_26, ob_27, ob_28, ob_29, ob_30, ob_31, ob_32, ob_33, ob_34, .ref cd, ob_36, .ref my, .ref wi, .ref nb, .ref mv])), (wo, .inl (y 1, 9080, .inl fw))] [] rfl rfl (by decide) (by decide) (by decide) (kX10_isHouse l G y _ ob a1 (ob_0) wo mi hm mt fv fr (ob_15) (ob_16) (ob_17) (ob_18) (ob_19) (ob_20) (ob_21) (ob_22) (ob_23) (ob_24) (ob_25) (ob_26) (ob_27) (ob_28) (ob_29) (ob_30) (ob_31) (ob_32) (ob_33) (ob_34) cd (ob_36) my wi nb mv fw z0) ⟨(callB_of 1 hw0 (gA m_356) rfl rfl rfl (hw0 _ m_166) (hw0 _ m_357) (by decide +kernel) ⟨Nat.le_of_ble_eq_true rfl, Nat.le_of_ble_eq_true rfl⟩), (hw0 _ m_358), (hw0 _ m_359)⟩ (ci := 10) (q := (RX10, TX10, 41)) rfl rfl rfl hl.1 (Nat.le_of_ble_eq_true rfl) dX10_fewest_2 ⟨Nat.le_of_ble_eq_true rfl, Nat.le_of_ble_eq_true rfl⟩ (fun r_1 w_1 H locs hw_1 hP hD hS => ?_)
  obtain ⟨rfl, rfl⟩ := hw_1
  have hP : va_P G vwCl [(ob, .inr (10, [ob_0, .ref wo, .ref mi, .ref hm, .ref mt, .int 0, .ref fv, .int 0, .int 0, .int 0, .int 0, .int 0, .int 0, .int (-1), .ref fr, ob_15, ob_16, ob_17, ob_18, ob_19, ob_20, ob_21, ob_22, ob_23, ob_24, ob_25, ob_26, ob_27, ob_28, ob_29, ob_30, ob_31, ob_32, ob_33, ob_34, .ref cd, ob_36, .ref my, .ref wi, .ref nb, .ref mv])), (wo, .inl (y 1, 9080, .inl fw))] H := hP
  have hD : va_D A [(ob, .inr (10, [ob_0, .ref wo, .ref mi, .ref hm, .ref mt, .int 0, .ref fv, .int 0, .int 0, .int 0, .int 0, .int 0, .int 0, .int (-1), .ref fr, ob_15, ob_16, ob_17, ob_18, ob_19, ob_20, ob_21, ob_22, ob_23, ob_24, ob_25, ob_26, ob_27, ob_28, ob_29, ob_30, ob_31, ob_32, ob_33, ob_34, .ref cd, ob_36, .ref my, .ref wi, .ref nb, .ref mv])), (wo, .inl (y 1, 9080, .inl fw))] := hD
  refine lv_if_ne (tgt := 11) hx hb dX10_fewest_5 (by decide) (fun c9 => absurd (by decide) c9) (fun _ => ?_)
  refine lv_bipush (v := (-2)) hx hb dX10_fewest_8 (by decide) ?_
  refine W.widen (k := 0) (n := 0) (Nat.le_of_ble_eq_true rfl) (Nat.le_of_ble_eq_true rfl) ?_
  exact W.iret (v := (-2)) hx hb hr (fun t ht hW => ⟨⟨(-2), _, rfl, rfl, by rw [ht]; exact hP, hD⟩, hS.F ht⟩) hS.2.2 dX10_fewest_10

set_option maxHeartbeats 4000000 in
set_option maxRecDepth 100000 in
theorem kX10_lost (l : Launch) (G : va_G) (y : Nat → ClassId) (sz : Nat) (ob : Nat) (a1 : Int32) (ob_0 : Value) (wo : Nat) (mi : Nat) (hm : Nat) (mt : Nat) (fv : Nat) (fr : Nat) (ob_15 : Value) (ob_16 : Value) (ob_17 : Value) (ob_18 : Value) (ob_19 : Value) (ob_20 : Value) (ob_21 : Value) (ob_22 : Value) (ob_23 : Value) (ob_24 : Value) (ob_25 : Value) (ob_26 : Value) (ob_27 : Value) (ob_28 : Value) (ob_29 : Value) (ob_30 : Value) (ob_31 : Value) (ob_32 : Value) (ob_33 : Value) (ob_34 : Value) (cd : Nat) (ob_36 : Value) (my : Nat) (wi : Nat) (nb : Nat) (mv : Nat) (fw : Nat → Int32) (z0 : fw 0 = 0) : Met l yX10_lost (Cond.code yX10_lost cX10_lost 6 (some .int) :: wAll) ({ frames := 2, cells := 0, slots := 0, locals := 46 }) (va_Pc [.ref ob, .int a1] (kp G y sz [(ob, .inr (10, [ob_0, .ref wo, .ref mi, .ref hm, .ref mt, .int 0, .ref fv, .int 0, .int 0, .int 0, .int 0, .int 0, .int 0, .int (-1), .ref fr, ob_15, ob_16, ob_17, ob_18, ob_19, ob_20, ob_21, ob_22, ob_23, ob_24, ob_25, ob_26, ob_27, ob_28, ob_29, ob_30, ob_31, ob_32, ob_33, ob_34, .ref cd, ob_36, .ref my, .ref wi, .ref nb, .ref mv])), (wo, .inl (y 1, 9080, .inl fw))])) (va_Qi (fun (r : Int32) (_ : va_W) => r = -2) (kq G (va_A [(ob, .inr (10, [ob_0, .ref wo, .ref mi, .ref hm, .ref mt, .int 0, .ref fv, .int 0, .int 0, .int 0, .int 0, .int 0, .int 0, .int (-1), .ref fr, ob_15, ob_16, ob_17, ob_18, ob_19, ob_20, ob_21, ob_22, ob_23, ob_24, ob_25, ob_26, ob_27, ob_28, ob_29, ob_30, ob_31, ob_32, ob_33, ob_34, .ref cd, ob_36, .ref my, .ref wi, .ref nb, .ref mv])), (wo, .inl (y 1, 9080, .inl fw))] sz)) (va_A [(ob, .inr (10, [ob_0, .ref wo, .ref mi, .ref hm, .ref mt, .int 0, .ref fv, .int 0, .int 0, .int 0, .int 0, .int 0, .int 0, .int (-1), .ref fr, ob_15, ob_16, ob_17, ob_18, ob_19, ob_20, ob_21, ob_22, ob_23, ob_24, ob_25, ob_26, ob_27, ob_28, ob_29, ob_30, ob_31, ob_32, ob_33, ob_34, .ref cd, ob_36, .ref my, .ref wi, .ref nb, .ref mv])), (wo, .inl (y 1, 9080, .inl fw))] sz)) 0 0 (va_A [(ob, .inr (10, [ob_0, .ref wo, .ref mi, .ref hm, .ref mt, .int 0, .ref fv, .int 0, .int 0, .int 0, .int 0, .int 0, .int 0, .int (-1), .ref fr, ob_15, ob_16, ob_17, ob_18, ob_19, ob_20, ob_21, ob_22, ob_23, ob_24, ob_25, ob_26, ob_27, ob_28, ob_29, ob_30, ob_31, ob_32, ob_33, ob_34, .ref cd, ob_36, .ref my, .ref wi, .ref nb, .ref mv])), (wo, .inl (y 1, 9080, .inl fw))] sz) := by
  refine Met.ofW (cc := cX10_lost) (maxL := 6) (ret := (some .int)) (by decide) rfl ?_
  intro p e s m args below meth c s₁ B hml hv
  obtain ⟨rfl, hsz, hP, hK, hD0⟩ := hv
  have hx := B.exec
  have hb := B.bytes
  have hr := B.returns
  have hw0 : ∀ w ∈ wAll, w.before _ s = true := fun w h => atoms_spec (ws := Cond.code yX10_lost cX10_lost 6 (some .int) :: wAll) B.pre w (List.mem_cons_of_mem _ h)
  have hown : s.vm.findClass RX10 = some m.cls := findClass_of_methodNamed B.named
  have hlocks := B.notSynchronized
  subst hsz
  have hD := hD0.self (sz := s.heap.size)
  generalize hAe : va_A [(ob, .inr (10, [ob_0, .ref wo, .ref mi, .ref hm, .ref mt, .int 0, .ref fv, .int 0, .int 0, .int 0, .int 0, .int 0, .int 0, .int (-1), .ref fr, ob_15, ob_16, ob_17, ob_18, ob_19, ob_20, ob_21, ob_22, ob_23, ob_24, ob_25, ob_26, ob_27, ob_28, ob_29, ob_30, ob_31, ob_32, ob_33, ob_34, .ref cd, ob_36, .ref my, .ref wi, .ref nb, .ref mv])), (wo, .inl (y 1, 9080, .inl fw))] s.heap.size = A at hD ⊢
  have hA : ∀ q : Nat, s.heap.size ≤ q → A q := fun q h => by rw [← hAe]; exact Or.inr h
  have hS : va_S A s.heap s.heap [] := va_S.rf
  have hP : va_P G vwCl [(ob, .inr (10, [ob_0, .ref wo, .ref mi, .ref hm, .ref mt, .int 0, .ref fv, .int 0, .int 0, .int 0, .int 0, .int 0, .int 0, .int (-1), .ref fr, ob_15, ob_16, ob_17, ob_18, ob_19, ob_20, ob_21, ob_22, ob_23, ob_24, ob_25, ob_26, ob_27, ob_28, ob_29, ob_30, ob_31, ob_32, ob_33, ob_34, .ref cd, ob_36, .ref my, .ref wi, .ref nb, .ref mv])), (wo, .inl (y 1, 9080, .inl fw))] s.heap := hP
  have hl := lv_entry ([.ref ob, .int a1]) (n := 6) (Nat.le_of_ble_eq_true rfl)
  rw [lg_entry_eq]
  generalize (lg_sl ([.ref ob, .int a1]) ++ List.replicate (6 - (lg_sl ([.ref ob, .int a1])).length) Slot.unset).toArray = ls at hl ⊢
  have hl : lv_has ls 6 [(0, .ref ob), (1, .int a1)] := hl
  refine lv_aload_n hx hb dX10_lost_0 rfl (lv_at hl 0 rfl) ?_
  refine lv_iload_n hx hb dX10_lost_1 rfl (lv_at hl 1 rfl) ?_
  refine cVi (As := [.int a1]) (rest := []) ⟨hx, hb, hml, hown, hw0⟩ hA hK hP hD hS [0, 1] [] [(ob, .inr (10, [ob_0, .ref wo, .ref mi, .ref hm, .ref mt, .int 0, .ref fv, .int 0, .int 0, .int 0, .int 0, .int 0, .int 0, .int (-1), .ref fr, ob_15, ob_16, ob_17, ob_18, ob_19, ob_20, ob_21, ob_22, ob_23, ob_24, ob_25, ob_26, ob_27, ob_28, ob_29, ob_30, ob_31, ob_32, ob_33, ob_34, .ref cd, ob_36, .ref my, .ref wi, .ref nb, .ref mv])), (wo, .inl (y 1, 9080, .inl fw))] [] rfl rfl (by decide) (by decide) (by decide) (kX10_isHouse l G y _ ob a1 (ob_0) wo mi hm mt fv fr (ob_15) (ob_16) (ob_17) (ob_18) (ob_19) (ob_20) (ob_21) (ob_22) (ob_23) (ob_24) (ob_25) (ob_26) (ob_27) (ob_28) (ob_29) (ob_30) (ob_31) (ob_32) (ob_33) (ob_34) cd (ob_36) my wi nb mv fw z0) ⟨(callB_of 1 hw0 (gA m_356) rfl rfl rfl (hw0 _ m_166) (hw0 _ m_357) (by decide +kernel) ⟨Nat.le_of_ble_eq_true rfl, Nat.le_of_ble_eq_true rfl⟩), (hw0 _ m_358), (hw0 _ m_359)⟩ (ci := 10) (q := (RX10, TX10, 41)) rfl rfl rfl hl.1 (Nat.le_of_ble_eq_true rfl) dX10_lost_2 ⟨Nat.le_of_ble_eq_true rfl, Nat.le_of_ble_eq_true rfl⟩ (fun r_1 w_1 H locs hw_1 hP hD hS => ?_)
  obtain ⟨rfl, rfl⟩ := hw_1
  have hP : va_P G vwCl [(ob, .inr (10, [ob_0, .ref wo, .ref mi, .ref hm, .ref mt, .int 0, .ref fv, .int 0, .int 0, .int 0, .int 0, .int 0, .int 0, .int (-1), .ref fr, ob_15, ob_16, ob_17, ob_18, ob_19, ob_20, ob_21, ob_22, ob_23, ob_24, ob_25, ob_26, ob_27, ob_28, ob_29, ob_30, ob_31, ob_32, ob_33, ob_34, .ref cd, ob_36, .ref my, .ref wi, .ref nb, .ref mv])), (wo, .inl (y 1, 9080, .inl fw))] H := hP
  have hD : va_D A [(ob, .inr (10, [ob_0, .ref wo, .ref mi, .ref hm, .ref mt, .int 0, .ref fv, .int 0, .int 0, .int 0, .int 0, .int 0, .int 0, .int (-1), .ref fr, ob_15, ob_16, ob_17, ob_18, ob_19, ob_20, ob_21, ob_22, ob_23, ob_24, ob_25, ob_26, ob_27, ob_28, ob_29, ob_30, ob_31, ob_32, ob_33, ob_34, .ref cd, ob_36, .ref my, .ref wi, .ref nb, .ref mv])), (wo, .inl (y 1, 9080, .inl fw))] := hD
  refine lv_if_ne (tgt := 11) hx hb dX10_lost_5 (by decide) (fun c9 => absurd (by decide) c9) (fun _ => ?_)
  refine lv_bipush (v := (-2)) hx hb dX10_lost_8 (by decide) ?_
  refine W.widen (k := 0) (n := 0) (Nat.le_of_ble_eq_true rfl) (Nat.le_of_ble_eq_true rfl) ?_
  exact W.iret (v := (-2)) hx hb hr (fun t ht hW => ⟨⟨(-2), _, rfl, rfl, by rw [ht]; exact hP, hD⟩, hS.F ht⟩) hS.2.2 dX10_lost_10

set_option maxHeartbeats 4000000 in
set_option maxRecDepth 100000 in
theorem kX10_soon (l : Launch) (G : va_G) (y : Nat → ClassId) (sz : Nat) (ob : Nat) (a1 : Int32) (a2 : Int32) (ob_0 : Value) (wo : Nat) (mi : Nat) (hm : Nat) (mt : Nat) (fv : Nat) (fr : Nat) (ob_15 : Value) (ob_16 : Value) (ob_17 : Value) (ob_18 : Value) (ob_19 : Value) (ob_20 : Value) (ob_21 : Value) (ob_22 : Value) (ob_23 : Value) (ob_24 : Value) (ob_25 : Value) (ob_26 : Value) (ob_27 : Value) (ob_28 : Value) (ob_29 : Value) (ob_30 : Value) (ob_31 : Value) (ob_32 : Value) (ob_33 : Value) (ob_34 : Value) (cd : Nat) (ob_36 : Value) (my : Nat) (wi : Nat) (nb : Nat) (mv : Nat) (fw : Nat → Int32) (z0 : fw 0 = 0) : Met l yX10_soon (Cond.code yX10_soon cX10_soon 3 (some .int) :: wAll) ({ frames := 3, cells := 0, slots := 0, locals := 68 }) (va_Pc [.ref ob, .int a1, .int a2] (kp G y sz [(ob, .inr (10, [ob_0, .ref wo, .ref mi, .ref hm, .ref mt, .int 0, .ref fv, .int 0, .int 0, .int 0, .int 0, .int 0, .int 0, .int (-1), .ref fr, ob_15, ob_16, ob_17, ob_18, ob_19, ob_20, ob_21, ob_22, ob_23, ob_24, ob_25, ob_26, ob_27, ob_28, ob_29, ob_30, ob_31, ob_32, ob_33, ob_34, .ref cd, ob_36, .ref my, .ref wi, .ref nb, .ref mv])), (wo, .inl (y 1, 9080, .inl fw))])) (va_Qi (fun (r : Int32) (_ : va_W) => r = -2) (kq G (va_A [(ob, .inr (10, [ob_0, .ref wo, .ref mi, .ref hm, .ref mt, .int 0, .ref fv, .int 0, .int 0, .int 0, .int 0, .int 0, .int 0, .int (-1), .ref fr, ob_15, ob_16, ob_17, ob_18, ob_19, ob_20, ob_21, ob_22, ob_23, ob_24, ob_25, ob_26, ob_27, ob_28, ob_29, ob_30, ob_31, ob_32, ob_33, ob_34, .ref cd, ob_36, .ref my, .ref wi, .ref nb, .ref mv])), (wo, .inl (y 1, 9080, .inl fw))] sz)) (va_A [(ob, .inr (10, [ob_0, .ref wo, .ref mi, .ref hm, .ref mt, .int 0, .ref fv, .int 0, .int 0, .int 0, .int 0, .int 0, .int 0, .int (-1), .ref fr, ob_15, ob_16, ob_17, ob_18, ob_19, ob_20, ob_21, ob_22, ob_23, ob_24, ob_25, ob_26, ob_27, ob_28, ob_29, ob_30, ob_31, ob_32, ob_33, ob_34, .ref cd, ob_36, .ref my, .ref wi, .ref nb, .ref mv])), (wo, .inl (y 1, 9080, .inl fw))] sz)) 0 0 (va_A [(ob, .inr (10, [ob_0, .ref wo, .ref mi, .ref hm, .ref mt, .int 0, .ref fv, .int 0, .int 0, .int 0, .int 0, .int 0, .int 0, .int (-1), .ref fr, ob_15, ob_16, ob_17, ob_18, ob_19, ob_20, ob_21, ob_22, ob_23, ob_24, ob_25, ob_26, ob_27, ob_28, ob_29, ob_30, ob_31, ob_32, ob_33, ob_34, .ref cd, ob_36, .ref my, .ref wi, .ref nb, .ref mv])), (wo, .inl (y 1, 9080, .inl fw))] sz) := by
  refine Met.ofW (cc := cX10_soon) (maxL := 3) (ret := (some .int)) (by decide) rfl ?_
  intro p e s m args below meth c s₁ B hml hv
  obtain ⟨rfl, hsz, hP, hK, hD0⟩ := hv
  have hx := B.exec
  have hb := B.bytes
  have hr := B.returns
  have hw0 : ∀ w ∈ wAll, w.before _ s = true := fun w h => atoms_spec (ws := Cond.code yX10_soon cX10_soon 3 (some .int) :: wAll) B.pre w (List.mem_cons_of_mem _ h)
  have hown : s.vm.findClass RX10 = some m.cls := findClass_of_methodNamed B.named
  have hlocks := B.notSynchronized
  subst hsz
  have hD := hD0.self (sz := s.heap.size)
  generalize hAe : va_A [(ob, .inr (10, [ob_0, .ref wo, .ref mi, .ref hm, .ref mt, .int 0, .ref fv, .int 0, .int 0, .int 0, .int 0, .int 0, .int 0, .int (-1), .ref fr, ob_15, ob_16, ob_17, ob_18, ob_19, ob_20, ob_21, ob_22, ob_23, ob_24, ob_25, ob_26, ob_27, ob_28, ob_29, ob_30, ob_31, ob_32, ob_33, ob_34, .ref cd, ob_36, .ref my, .ref wi, .ref nb, .ref mv])), (wo, .inl (y 1, 9080, .inl fw))] s.heap.size = A at hD ⊢
  have hA : ∀ q : Nat, s.heap.size ≤ q → A q := fun q h => by rw [← hAe]; exact Or.inr h
  have hS : va_S A s.heap s.heap [] := va_S.rf
  have hP : va_P G vwCl [(ob, .inr (10, [ob_0, .ref wo, .ref mi, .ref hm, .ref mt, .int 0, .ref fv, .int 0, .int 0, .int 0, .int 0, .int 0, .int 0, .int (-1), .ref fr, ob_15, ob_16, ob_17, ob_18, ob_19, ob_20, ob_21, ob_22, ob_23, ob_24, ob_25, ob_26, ob_27, ob_28, ob_29, ob_30, ob_31, ob_32, ob_33, ob_34, .ref cd, ob_36, .ref my, .ref wi, .ref nb, .ref mv])), (wo, .inl (y 1, 9080, .inl fw))] s.heap := hP
  have hl := lv_entry ([.ref ob, .int a1, .int a2]) (n := 3) (Nat.le_of_ble_eq_true rfl)
  rw [lg_entry_eq]
  generalize (lg_sl ([.ref ob, .int a1, .int a2]) ++ List.replicate (3 - (lg_sl ([.ref ob, .int a1, .int a2])).length) Slot.unset).toArray = ls at hl ⊢
  have hl : lv_has ls 3 [(0, .ref ob), (1, .int a1), (2, .int a2)] := hl
  refine lv_aload_n hx hb dX10_soon_0 rfl (lv_at hl 0 rfl) ?_
  refine lv_iload_n hx hb dX10_soon_1 rfl (lv_at hl 1 rfl) ?_
  refine lv_iload_n hx hb dX10_soon_2 rfl (lv_at hl 2 rfl) ?_
  refine cVi (As := [.int a1, .int a2]) (rest := []) ⟨hx, hb, hml, hown, hw0⟩ hA hK hP hD hS [0, 1] [] [(ob, .inr (10, [ob_0, .ref wo, .ref mi, .ref hm, .ref mt, .int 0, .ref fv, .int 0, .int 0, .int 0, .int 0, .int 0, .int 0, .int (-1), .ref fr, ob_15, ob_16, ob_17, ob_18, ob_19, ob_20, ob_21, ob_22, ob_23, ob_24, ob_25, ob_26, ob_27, ob_28, ob_29, ob_30, ob_31, ob_32, ob_33, ob_34, .ref cd, ob_36, .ref my, .ref wi, .ref nb, .ref mv])), (wo, .inl (y 1, 9080, .inl fw))] [] rfl rfl (by decide) (by decide) (by decide) (kX10_areTwo l G y _ ob a1 a2 (ob_0) wo mi hm mt fv fr (ob_15) (ob_16) (ob_17) (ob_18) (ob_19) (ob_20) (ob_21) (ob_22) (ob_23) (ob_24) (ob_25) (ob_26) (ob_27) (ob_28) (ob_29) (ob_30) (ob_31) (ob_32) (ob_33) (ob_34) cd (ob_36) my wi nb mv fw z0) ⟨(callB_of 2 hw0 (gA m_360) rfl rfl rfl (hw0 _ m_166) (hw0 _ m_362) (by decide +kernel) ⟨Nat.le_of_ble_eq_true rfl, Nat.le_of_ble_eq_true rfl⟩), (hw0 _ m_363), (hw0 _ m_364)⟩ (ci := 10) (q := (RX10, TX10, 41)) rfl rfl rfl hl.1 (Nat.le_of_ble_eq_true rfl) dX10_soon_3 ⟨Nat.le_of_ble_eq_true rfl, Nat.le_of_ble_eq_true rfl⟩ (fun r_1 w_1 H locs hw_1 hP hD hS => ?_)
  obtain ⟨rfl, rfl⟩ := hw_1
  have hP : va_P G vwCl [(ob, .inr (10, [ob_0, .ref wo, .ref mi, .ref hm, .ref mt, .int 0, .ref fv, .int 0, .int 0, .int 0, .int 0, .int 0, .int 0, .int (-1), .ref fr, ob_15, ob_16, ob_17, ob_18, ob_19, ob_20, ob_21, ob_22, ob_23, ob_24, ob_25, ob_26, ob_27, ob_28, ob_29, ob_30, ob_31, ob_32, ob_33, ob_34, .ref cd, ob_36, .ref my, .ref wi, .ref nb, .ref mv])), (wo, .inl (y 1, 9080, .inl fw))] H := hP
  have hD : va_D A [(ob, .inr (10, [ob_0, .ref wo, .ref mi, .ref hm, .ref mt, .int 0, .ref fv, .int 0, .int 0, .int 0, .int 0, .int 0, .int 0, .int (-1), .ref fr, ob_15, ob_16, ob_17, ob_18, ob_19, ob_20, ob_21, ob_22, ob_23, ob_24, ob_25, ob_26, ob_27, ob_28, ob_29, ob_30, ob_31, ob_32, ob_33, ob_34, .ref cd, ob_36, .ref my, .ref wi, .ref nb, .ref mv])), (wo, .inl (y 1, 9080, .inl fw))] := hD
  refine lv_if_ne (tgt := 12) hx hb dX10_soon_6 (by decide) (fun c9 => absurd (by decide) c9) (fun _ => ?_)
  refine lv_bipush (v := (-2)) hx hb dX10_soon_9 (by decide) ?_
  refine W.widen (k := 0) (n := 0) (Nat.le_of_ble_eq_true rfl) (Nat.le_of_ble_eq_true rfl) ?_
  exact W.iret (v := (-2)) hx hb hr (fun t ht hW => ⟨⟨(-2), _, rfl, rfl, by rw [ht]; exact hP, hD⟩, hS.F ht⟩) hS.2.2 dX10_soon_11

set_option maxHeartbeats 4000000 in
set_option maxRecDepth 100000 in
theorem kX10_path (l : Launch) (G : va_G) (y : Nat → ClassId) (sz : Nat) (ob : Nat) (a1 : Int32) (a2 : Int32) (a3 : Int32) (ob_0 : Value) (wo : Nat) (mi : Nat) (hm : Nat) (mt : Nat) (fv : Nat) (fr : Nat) (ob_15 : Value) (ob_16 : Value) (ob_17 : Value) (ob_18 : Value) (ob_19 : Value) (ob_20 : Value) (ob_21 : Value) (ob_22 : Value) (ob_23 : Value) (ob_24 : Value) (ob_25 : Value) (ob_26 : Value) (ob_27 : Value) (ob_28 : Value) (ob_29 : Value) (ob_30 : Value) (ob_31 : Value) (ob_32 : Value) (ob_33 : Value) (ob_34 : Value) (cd : Nat) (ob_36 : Value) (my : Nat) (wi : Nat) (nb : Nat) (mv : Nat) (fw : Nat → Int32) (z0 : fw 0 = 0) : Met l yX10_path (Cond.code yX10_path cX10_path 4 (some .int) :: wAll) ({ frames := 3, cells := 0, slots := 0, locals := 68 }) (va_Pc [.ref ob, .int a1, .int a2, .int a3] (kp G y sz [(ob, .inr (10, [ob_0, .ref wo, .ref mi, .ref hm, .ref mt, .int 0, .ref fv, .int 0, .int 0, .int 0, .int 0, .int 0, .int 0, .int (-1), .ref fr, ob_15, ob_16, ob_17, ob_18, ob_19, ob_20, ob_21, ob_22, ob_23, ob_24, ob_25, ob_26, ob_27, ob_28, ob_29, ob_30, ob_31, ob_32, ob_33, ob_34, .ref cd, ob_36, .ref my, .ref wi, .ref nb, .ref mv])), (wo, .inl (y 1, 9080, .inl fw))])) (va_Qi (fun (r : Int32) (_ : va_W) => r = -2) (kq G (va_A [(ob, .inr (10, [ob_0, .ref wo, .ref mi, .ref hm, .ref mt, .int 0, .ref fv, .int 0, .int 0, .int 0, .int 0, .int 0, .int 0, .int (-1), .ref fr, ob_15, ob_16, ob_17, ob_18, ob_19, ob_20, ob_21, ob_22, ob_23, ob_24, ob_25, ob_26, ob_27, ob_28, ob_29, ob_30, ob_31, ob_32, ob_33, ob_34, .ref cd, ob_36, .ref my, .ref wi, .ref nb, .ref mv])), (wo, .inl (y 1, 9080, .inl fw))] sz)) (va_A [(ob, .inr (10, [ob_0, .ref wo, .ref mi, .ref hm, .ref mt, .int 0, .ref fv, .int 0, .int 0, .int 0, .int 0, .int 0, .int 0, .int (-1), .ref fr, ob_15, ob_16, ob_17, ob_18, ob_19, ob_20, ob_21, ob_22, ob_23, ob_24, ob_25, ob_26, ob_27, ob_28, ob_29, ob_30, ob_31, ob_32, ob_33, ob_34, .ref cd, ob_36, .ref my, .ref wi, .ref nb, .ref mv])), (wo, .inl (y 1, 9080, .inl fw))] sz)) 0 0 (va_A [(ob, .inr (10, [ob_0, .ref wo, .ref mi, .ref hm, .ref mt, .int 0, .ref fv, .int 0, .int 0, .int 0, .int 0, .int 0, .int 0, .int (-1), .ref fr, ob_15, ob_16, ob_17, ob_18, ob_19, ob_20, ob_21, ob_22, ob_23, ob_24, ob_25, ob_26, ob_27, ob_28, ob_29, ob_30, ob_31, ob_32, ob_33, ob_34, .ref cd, ob_36, .ref my, .ref wi, .ref nb, .ref mv])), (wo, .inl (y 1, 9080, .inl fw))] sz) := by
  refine Met.ofW (cc := cX10_path) (maxL := 4) (ret := (some .int)) (by decide) rfl ?_
  intro p e s m args below meth c s₁ B hml hv
  obtain ⟨rfl, hsz, hP, hK, hD0⟩ := hv
  have hx := B.exec
  have hb := B.bytes
  have hr := B.returns
  have hw0 : ∀ w ∈ wAll, w.before _ s = true := fun w h => atoms_spec (ws := Cond.code yX10_path cX10_path 4 (some .int) :: wAll) B.pre w (List.mem_cons_of_mem _ h)
  have hown : s.vm.findClass RX10 = some m.cls := findClass_of_methodNamed B.named
  have hlocks := B.notSynchronized
  subst hsz
  have hD := hD0.self (sz := s.heap.size)
  generalize hAe : va_A [(ob, .inr (10, [ob_0, .ref wo, .ref mi, .ref hm, .ref mt, .int 0, .ref fv, .int 0, .int 0, .int 0, .int 0, .int 0, .int 0, .int (-1), .ref fr, ob_15, ob_16, ob_17, ob_18, ob_19, ob_20, ob_21, ob_22, ob_23, ob_24, ob_25, ob_26, ob_27, ob_28, ob_29, ob_30, ob_31, ob_32, ob_33, ob_34, .ref cd, ob_36, .ref my, .ref wi, .ref nb, .ref mv])), (wo, .inl (y 1, 9080, .inl fw))] s.heap.size = A at hD ⊢
  have hA : ∀ q : Nat, s.heap.size ≤ q → A q := fun q h => by rw [← hAe]; exact Or.inr h
  have hS : va_S A s.heap s.heap [] := va_S.rf
  have hP : va_P G vwCl [(ob, .inr (10, [ob_0, .ref wo, .ref mi, .ref hm, .ref mt, .int 0, .ref fv, .int 0, .int 0, .int 0, .int 0, .int 0, .int 0, .int (-1), .ref fr, ob_15, ob_16, ob_17, ob_18, ob_19, ob_20, ob_21, ob_22, ob_23, ob_24, ob_25, ob_26, ob_27, ob_28, ob_29, ob_30, ob_31, ob_32, ob_33, ob_34, .ref cd, ob_36, .ref my, .ref wi, .ref nb, .ref mv])), (wo, .inl (y 1, 9080, .inl fw))] s.heap := hP
  have hl := lv_entry ([.ref ob, .int a1, .int a2, .int a3]) (n := 4) (Nat.le_of_ble_eq_true rfl)
  rw [lg_entry_eq]
  generalize (lg_sl ([.ref ob, .int a1, .int a2, .int a3]) ++ List.replicate (4 - (lg_sl ([.ref ob, .int a1, .int a2, .int a3])).length) Slot.unset).toArray = ls at hl ⊢
  have hl : lv_has ls 4 [(0, .ref ob), (1, .int a1), (2, .int a2), (3, .int a3)] := hl
  refine lv_aload_n hx hb dX10_path_0 rfl (lv_at hl 0 rfl) ?_
  refine lv_iload_n hx hb dX10_path_1 rfl (lv_at hl 1 rfl) ?_
  refine lv_iload_n hx hb dX10_path_2 rfl (lv_at hl 2 rfl) ?_
  refine cVi (As := [.int a1, .int a2]) (rest := []) ⟨hx, hb, hml, hown, hw0⟩ hA hK hP hD hS [0, 1] [] [(ob, .inr (10, [ob_0, .ref wo, .ref mi, .ref hm, .ref mt, .int 0, .ref fv, .int 0, .int 0, .int 0, .int 0, .int 0, .int 0, .int (-1), .ref fr, ob_15, ob_16, ob_17, ob_18, ob_19, ob_20, ob_21, ob_22, ob_23, ob_24, ob_25, ob_26, ob_27, ob_28, ob_29, ob_30, ob_31, ob_32, ob_33, ob_34, .ref cd, ob_36, .ref my, .ref wi, .ref nb, .ref mv])), (wo, .inl (y 1, 9080, .inl fw))] [] rfl rfl (by decide) (by decide) (by decide) (kX10_areTwo l G y _ ob a1 a2 (ob_0) wo mi hm mt fv fr (ob_15) (ob_16) (ob_17) (ob_18) (ob_19) (ob_20) (ob_21) (ob_22) (ob_23) (ob_24) (ob_25) (ob_26) (ob_27) (ob_28) (ob_29) (ob_30) (ob_31) (ob_32) (ob_33) (ob_34) cd (ob_36) my wi nb mv fw z0) ⟨(callB_of 2 hw0 (gA m_360) rfl rfl rfl (hw0 _ m_166) (hw0 _ m_362) (by decide +kernel) ⟨Nat.le_of_ble_eq_true rfl, Nat.le_of_ble_eq_true rfl⟩), (hw0 _ m_363), (hw0 _ m_364)⟩ (ci := 10) (q := (RX10, TX10, 41)) rfl rfl rfl hl.1 (Nat.le_of_ble_eq_true rfl) dX10_path_3 ⟨Nat.le_of_ble_eq_true rfl, Nat.le_of_ble_eq_true rfl⟩ (fun r_1 w_1 H locs hw_1 hP hD hS => ?_)
  obtain ⟨rfl, rfl⟩ := hw_1
  have hP : va_P G vwCl [(ob, .inr (10, [ob_0, .ref wo, .ref mi, .ref hm, .ref mt, .int 0, .ref fv, .int 0, .int 0, .int 0, .int 0, .int 0, .int 0, .int (-1), .ref fr, ob_15, ob_16, ob_17, ob_18, ob_19, ob_20, ob_21, ob_22, ob_23, ob_24, ob_25, ob_26, ob_27, ob_28, ob_29, ob_30, ob_31, ob_32, ob_33, ob_34, .ref cd, ob_36, .ref my, .ref wi, .ref nb, .ref mv])), (wo, .inl (y 1, 9080, .inl fw))] H := hP
  have hD : va_D A [(ob, .inr (10, [ob_0, .ref wo, .ref mi, .ref hm, .ref mt, .int 0, .ref fv, .int 0, .int 0, .int 0, .int 0, .int 0, .int 0, .int (-1), .ref fr, ob_15, ob_16, ob_17, ob_18, ob_19, ob_20, ob_21, ob_22, ob_23, ob_24, ob_25, ob_26, ob_27, ob_28, ob_29, ob_30, ob_31, ob_32, ob_33, ob_34, .ref cd, ob_36, .ref my, .ref wi, .ref nb, .ref mv])), (wo, .inl (y 1, 9080, .inl fw))] := hD
  refine lv_if_ne (tgt := 12) hx hb dX10_path_6 (by decide) (fun c9 => absurd (by decide) c9) (fun _ => ?_)
  refine lv_bipush (v := (-2)) hx hb dX10_path_9 (by decide) ?_
  refine W.widen (k := 0) (n := 0) (Nat.le_of_ble_eq_true rfl) (Nat.le_of_ble_eq_true rfl) ?_
  exact W.iret (v := (-2)) hx hb hr (fun t ht hW => ⟨⟨(-2), _, rfl, rfl, by rw [ht]; exact hP, hD⟩, hS.F ht⟩) hS.2.2 dX10_path_11

set_option maxHeartbeats 4000000 in
set_option maxRecDepth 100000 in
theorem kX10_reach (l : Launch) (G : va_G) (y : Nat → ClassId) (sz : Nat) (ob : Nat) (a1 : Int32) (ob_0 : Value) (wo : Nat) (mi : Nat) (hm : Nat) (mt : Nat) (fv : Nat) (fr : Nat) (ob_15 : Value) (ob_16 : Value) (ob_17 : Value) (ob_18 : Value) (ob_19 : Value) (ob_20 : Value) (ob_21 : Value) (ob_22 : Value) (ob_23 : Value) (ob_24 : Value) (ob_25 : Value) (ob_26 : Value) (ob_27 : Value) (ob_28 : Value) (ob_29 : Value) (ob_30 : Value) (ob_31 : Value) (ob_32 : Value) (ob_33 : Value) (ob_34 : Value) (cd : Nat) (ob_36 : Value) (my : Nat) (wi : Nat) (nb : Nat) (mv : Nat) (fw : Nat → Int32) (z0 : fw 0 = 0) : Met l yX10_reach (Cond.code yX10_reach cX10_reach 2 (some .int) :: wAll) ({ frames := 2, cells := 0, slots := 0, locals := 46 }) (va_Pc [.ref ob, .int a1] (kp G y sz [(ob, .inr (10, [ob_0, .ref wo, .ref mi, .ref hm, .ref mt, .int 0, .ref fv, .int 0, .int 0, .int 0, .int 0, .int 0, .int 0, .int (-1), .ref fr, ob_15, ob_16, ob_17, ob_18, ob_19, ob_20, ob_21, ob_22, ob_23, ob_24, ob_25, ob_26, ob_27, ob_28, ob_29, ob_30, ob_31, ob_32, ob_33, ob_34, .ref cd, ob_36, .ref my, .ref wi, .ref nb, .ref mv])), (wo, .inl (y 1, 9080, .inl fw))])) (va_Qi (fun (r : Int32) (_ : va_W) => r = -2) (kq G (va_A [(ob, .inr (10, [ob_0, .ref wo, .ref mi, .ref hm, .ref mt, .int 0, .ref fv, .int 0, .int 0, .int 0, .int 0, .int 0, .int 0, .int (-1), .ref fr, ob_15, ob_16, ob_17, ob_18, ob_19, ob_20, ob_21, ob_22, ob_23, ob_24, ob_25, ob_26, ob_27, ob_28, ob_29, ob_30, ob_31, ob_32, ob_33, ob_34, .ref cd, ob_36, .ref my, .ref wi, .ref nb, .ref mv])), (wo, .inl (y 1, 9080, .inl fw))] sz)) (va_A [(ob, .inr (10, [ob_0, .ref wo, .ref mi, .ref hm, .ref mt, .int 0, .ref fv, .int 0, .int 0, .int 0, .int 0, .int 0, .int 0, .int (-1), .ref fr, ob_15, ob_16, ob_17, ob_18, ob_19, ob_20, ob_21, ob_22, ob_23, ob_24, ob_25, ob_26, ob_27, ob_28, ob_29, ob_30, ob_31, ob_32, ob_33, ob_34, .ref cd, ob_36, .ref my, .ref wi, .ref nb, .ref mv])), (wo, .inl (y 1, 9080, .inl fw))] sz)) 0 0 (va_A [(ob, .inr (10, [ob_0, .ref wo, .ref mi, .ref hm, .ref mt, .int 0, .ref fv, .int 0, .int 0, .int 0, .int 0, .int 0, .int 0, .int (-1), .ref fr, ob_15, ob_16, ob_17, ob_18, ob_19, ob_20, ob_21, ob_22, ob_23, ob_24, ob_25, ob_26, ob_27, ob_28, ob_29, ob_30, ob_31, ob_32, ob_33, ob_34, .ref cd, ob_36, .ref my, .ref wi, .ref nb, .ref mv])), (wo, .inl (y 1, 9080, .inl fw))] sz) := by
  refine Met.ofW (cc := cX10_reach) (maxL := 2) (ret := (some .int)) (by decide) rfl ?_
  intro p e s m args below meth c s₁ B hml hv
  obtain ⟨rfl, hsz, hP, hK, hD0⟩ := hv
  have hx := B.exec
  have hb := B.bytes
  have hr := B.returns
  have hw0 : ∀ w ∈ wAll, w.before _ s = true := fun w h => atoms_spec (ws := Cond.code yX10_reach cX10_reach 2 (some .int) :: wAll) B.pre w (List.mem_cons_of_mem _ h)
  have hown : s.vm.findClass RX10 = some m.cls := findClass_of_methodNamed B.named
  have hlocks := B.notSynchronized
  subst hsz
  have hD := hD0.self (sz := s.heap.size)
  generalize hAe : va_A [(ob, .inr (10, [ob_0, .ref wo, .ref mi, .ref hm, .ref mt, .int 0, .ref fv, .int 0, .int 0, .int 0, .int 0, .int 0, .int 0, .int (-1), .ref fr, ob_15, ob_16, ob_17, ob_18, ob_19, ob_20, ob_21, ob_22, ob_23, ob_24, ob_25, ob_26, ob_27, ob_28, ob_29, ob_30, ob_31, ob_32, ob_33, ob_34, .ref cd, ob_36, .ref my, .ref wi, .ref nb, .ref mv])), (wo, .inl (y 1, 9080, .inl fw))] s.heap.size = A at hD ⊢
  have hA : ∀ q : Nat, s.heap.size ≤ q → A q := fun q h => by rw [← hAe]; exact Or.inr h
  have hS : va_S A s.heap s.heap [] := va_S.rf
  have hP : va_P G vwCl [(ob, .inr (10, [ob_0, .ref wo, .ref mi, .ref hm, .ref mt, .int 0, .ref fv, .int 0, .int 0, .int 0, .int 0, .int 0, .int 0, .int (-1), .ref fr, ob_15, ob_16, ob_17, ob_18, ob_19, ob_20, ob_21, ob_22, ob_23, ob_24, ob_25, ob_26, ob_27, ob_28, ob_29, ob_30, ob_31, ob_32, ob_33, ob_34, .ref cd, ob_36, .ref my, .ref wi, .ref nb, .ref mv])), (wo, .inl (y 1, 9080, .inl fw))] s.heap := hP
  have hl := lv_entry ([.ref ob, .int a1]) (n := 2) (Nat.le_of_ble_eq_true rfl)
  rw [lg_entry_eq]
  generalize (lg_sl ([.ref ob, .int a1]) ++ List.replicate (2 - (lg_sl ([.ref ob, .int a1])).length) Slot.unset).toArray = ls at hl ⊢
  have hl : lv_has ls 2 [(0, .ref ob), (1, .int a1)] := hl
  refine lv_aload_n hx hb dX10_reach_0 rfl (lv_at hl 0 rfl) ?_
  refine lv_iload_n hx hb dX10_reach_1 rfl (lv_at hl 1 rfl) ?_
  refine cVi (As := [.int a1]) (rest := []) ⟨hx, hb, hml, hown, hw0⟩ hA hK hP hD hS [0, 1] [] [(ob, .inr (10, [ob_0, .ref wo, .ref mi, .ref hm, .ref mt, .int 0, .ref fv, .int 0, .int 0, .int 0, .int 0, .int 0, .int 0, .int (-1), .ref fr, ob_15, ob_16, ob_17, ob_18, ob_19, ob_20, ob_21, ob_22, ob_23, ob_24, ob_25, ob_26, ob_27, ob_28, ob_29, ob_30, ob_31, ob_32, ob_33, ob_34, .ref cd, ob_36, .ref my, .ref wi, .ref nb, .ref mv])), (wo, .inl (y 1, 9080, .inl fw))] [] rfl rfl (by decide) (by decide) (by decide) (kX10_isHouse l G y _ ob a1 (ob_0) wo mi hm mt fv fr (ob_15) (ob_16) (ob_17) (ob_18) (ob_19) (ob_20) (ob_21) (ob_22) (ob_23) (ob_24) (ob_25) (ob_26) (ob_27) (ob_28) (ob_29) (ob_30) (ob_31) (ob_32) (ob_33) (ob_34) cd (ob_36) my wi nb mv fw z0) ⟨(callB_of 1 hw0 (gA m_356) rfl rfl rfl (hw0 _ m_166) (hw0 _ m_357) (by decide +kernel) ⟨Nat.le_of_ble_eq_true rfl, Nat.le_of_ble_eq_true rfl⟩), (hw0 _ m_358), (hw0 _ m_359)⟩ (ci := 10) (q := (RX10, TX10, 41)) rfl rfl rfl hl.1 (Nat.le_of_ble_eq_true rfl) dX10_reach_2 ⟨Nat.le_of_ble_eq_true rfl, Nat.le_of_ble_eq_true rfl⟩ (fun r_1 w_1 H locs hw_1 hP hD hS => ?_)
  obtain ⟨rfl, rfl⟩ := hw_1
  have hP : va_P G vwCl [(ob, .inr (10, [ob_0, .ref wo, .ref mi, .ref hm, .ref mt, .int 0, .ref fv, .int 0, .int 0, .int 0, .int 0, .int 0, .int 0, .int (-1), .ref fr, ob_15, ob_16, ob_17, ob_18, ob_19, ob_20, ob_21, ob_22, ob_23, ob_24, ob_25, ob_26, ob_27, ob_28, ob_29, ob_30, ob_31, ob_32, ob_33, ob_34, .ref cd, ob_36, .ref my, .ref wi, .ref nb, .ref mv])), (wo, .inl (y 1, 9080, .inl fw))] H := hP
  have hD : va_D A [(ob, .inr (10, [ob_0, .ref wo, .ref mi, .ref hm, .ref mt, .int 0, .ref fv, .int 0, .int 0, .int 0, .int 0, .int 0, .int 0, .int (-1), .ref fr, ob_15, ob_16, ob_17, ob_18, ob_19, ob_20, ob_21, ob_22, ob_23, ob_24, ob_25, ob_26, ob_27, ob_28, ob_29, ob_30, ob_31, ob_32, ob_33, ob_34, .ref cd, ob_36, .ref my, .ref wi, .ref nb, .ref mv])), (wo, .inl (y 1, 9080, .inl fw))] := hD
  refine lv_if_eq (tgt := 18) hx hb dX10_reach_5 (by decide) (fun _ => ?_) (fun c9 => absurd (by decide) c9)
  refine lv_bipush (v := (-2)) hx hb dX10_reach_18 (by decide) ?_
  refine W.widen (k := 0) (n := 0) (Nat.le_of_ble_eq_true rfl) (Nat.le_of_ble_eq_true rfl) ?_
  exact W.iret (v := (-2)) hx hb hr (fun t ht hW => ⟨⟨(-2), _, rfl, rfl, by rw [ht]; exact hP, hD⟩, hS.F ht⟩) hS.2.2 dX10_reach_20

set_option maxHeartbeats 4000000 in
set_option maxRecDepth 100000 in
theorem kX10_drop (l : Launch) (G : va_G) (y : Nat → ClassId) (sz : Nat) (ob : Nat) (a1 : Int32) (ob_0 : Value) (wo : Nat) (mi : Nat) (hm : Nat) (mt : Nat) (fv : Nat) (fr : Nat) (ob_15 : Value) (ob_16 : Value) (ob_17 : Value) (ob_18 : Value) (ob_19 : Value) (ob_20 : Value) (ob_21 : Value) (ob_22 : Value) (ob_23 : Value) (ob_24 : Value) (ob_25 : Value) (ob_26 : Value) (ob_27 : Value) (ob_28 : Value) (ob_29 : Value) (ob_30 : Value) (ob_31 : Value) (ob_32 : Value) (ob_33 : Value) (ob_34 : Value) (cd : Nat) (ob_36 : Value) (my : Nat) (wi : Nat) (nb : Nat) (mv : Nat) (fw : Nat → Int32) (z0 : fw 0 = 0) : Met l yX10_drop (Cond.code yX10_drop cX10_drop 5 (some .int) :: wAll) ({ frames := 2, cells := 0, slots := 0, locals := 46 }) (va_Pc [.ref ob, .int a1] (kp G y sz [(ob, .inr (10, [ob_0, .ref wo, .ref mi, .ref hm, .ref mt, .int 0, .ref fv, .int 0, .int 0, .int 0, .int 0, .int 0, .int 0, .int (-1), .ref fr, ob_15, ob_16, ob_17, ob_18, ob_19, ob_20, ob_21, ob_22, ob_23, ob_24, ob_25, ob_26, ob_27, ob_28, ob_29, ob_30, ob_31, ob_32, ob_33, ob_34, .ref cd, ob_36, .ref my, .ref wi, .ref nb, .ref mv])), (wo, .inl (y 1, 9080, .inl fw))])) (va_Qi (fun (r : Int32) (_ : va_W) => r = -2) (kq G (va_A [(ob, .inr (10, [ob_0, .ref wo, .ref mi, .ref hm, .ref mt, .int 0, .ref fv, .int 0, .int 0, .int 0, .int 0, .int 0, .int 0, .int (-1), .ref fr, ob_15, ob_16, ob_17, ob_18, ob_19, ob_20, ob_21, ob_22, ob_23, ob_24, ob_25, ob_26, ob_27, ob_28, ob_29, ob_30, ob_31, ob_32, ob_33, ob_34, .ref cd, ob_36, .ref my, .ref wi, .ref nb, .ref mv])), (wo, .inl (y 1, 9080, .inl fw))] sz)) (va_A [(ob, .inr (10, [ob_0, .ref wo, .ref mi, .ref hm, .ref mt, .int 0, .ref fv, .int 0, .int 0, .int 0, .int 0, .int 0, .int 0, .int (-1), .ref fr, ob_15, ob_16, ob_17, ob_18, ob_19, ob_20, ob_21, ob_22, ob_23, ob_24, ob_25, ob_26, ob_27, ob_28, ob_29, ob_30, ob_31, ob_32, ob_33, ob_34, .ref cd, ob_36, .ref my, .ref wi, .ref nb, .ref mv])), (wo, .inl (y 1, 9080, .inl fw))] sz)) 0 0 (va_A [(ob, .inr (10, [ob_0, .ref wo, .ref mi, .ref hm, .ref mt, .int 0, .ref fv, .int 0, .int 0, .int 0, .int 0, .int 0, .int 0, .int (-1), .ref fr, ob_15, ob_16, ob_17, ob_18, ob_19, ob_20, ob_21, ob_22, ob_23, ob_24, ob_25, ob_26, ob_27, ob_28, ob_29, ob_30, ob_31, ob_32, ob_33, ob_34, .ref cd, ob_36, .ref my, .ref wi, .ref nb, .ref mv])), (wo, .inl (y 1, 9080, .inl fw))] sz) := by
  refine Met.ofW (cc := cX10_drop) (maxL := 5) (ret := (some .int)) (by decide) rfl ?_
  intro p e s m args below meth c s₁ B hml hv
  obtain ⟨rfl, hsz, hP, hK, hD0⟩ := hv
  have hx := B.exec
  have hb := B.bytes
  have hr := B.returns
  have hw0 : ∀ w ∈ wAll, w.before _ s = true := fun w h => atoms_spec (ws := Cond.code yX10_drop cX10_drop 5 (some .int) :: wAll) B.pre w (List.mem_cons_of_mem _ h)
  have hown : s.vm.findClass RX10 = some m.cls := findClass_of_methodNamed B.named
  have hlocks := B.notSynchronized
  subst hsz
  have hD := hD0.self (sz := s.heap.size)
  generalize hAe : va_A [(ob, .inr (10, [ob_0, .ref wo, .ref mi, .ref hm, .ref mt, .int 0, .ref fv, .int 0, .int 0, .int 0, .int 0, .int 0, .int 0, .int (-1), .ref fr, ob_15, ob_16, ob_17, ob_18, ob_19, ob_20, ob_21, ob_22, ob_23, ob_24, ob_25, ob_26, ob_27, ob_28, ob_29, ob_30, ob_31, ob_32, ob_33, ob_34, .ref cd, ob_36, .ref my, .ref wi, .ref nb, .ref mv])), (wo, .inl (y 1, 9080, .inl fw))] s.heap.size = A at hD ⊢
  have hA : ∀ q : Nat, s.heap.size ≤ q → A q := fun q h => by rw [← hAe]; exact Or.inr h
  have hS : va_S A s.heap s.heap [] := va_S.rf
  have hP : va_P G vwCl [(ob, .inr (10, [ob_0, .ref wo, .ref mi, .ref hm, .ref mt, .int 0, .ref fv, .int 0, .int 0, .int 0, .int 0, .int 0, .int 0, .int (-1), .ref fr, ob_15, ob_16, ob_17, ob_18, ob_19, ob_20, ob_21, ob_22, ob_23, ob_24, ob_25, ob_26, ob_27, ob_28, ob_29, ob_30, ob_31, ob_32, ob_33, ob_34, .ref cd, ob_36, .ref my, .ref wi, .ref nb, .ref mv])), (wo, .inl (y 1, 9080, .inl fw))] s.heap := hP
  have hl := lv_entry ([.ref ob, .int a1]) (n := 5) (Nat.le_of_ble_eq_true rfl)
  rw [lg_entry_eq]
  generalize (lg_sl ([.ref ob, .int a1]) ++ List.replicate (5 - (lg_sl ([.ref ob, .int a1])).length) Slot.unset).toArray = ls at hl ⊢
  have hl : lv_has ls 5 [(0, .ref ob), (1, .int a1)] := hl
  refine lv_aload_n hx hb dX10_drop_0 rfl (lv_at hl 0 rfl) ?_
  refine lv_iload_n hx hb dX10_drop_1 rfl (lv_at hl 1 rfl) ?_
  refine cVi (As := [.int a1]) (rest := []) ⟨hx, hb, hml, hown, hw0⟩ hA hK hP hD hS [0, 1] [] [(ob, .inr (10, [ob_0, .ref wo, .ref mi, .ref hm, .ref mt, .int 0, .ref fv, .int 0, .int 0, .int 0, .int 0, .int 0, .int 0, .int (-1), .ref fr, ob_15, ob_16, ob_17, ob_18, ob_19, ob_20, ob_21, ob_22, ob_23, ob_24, ob_25, ob_26, ob_27, ob_28, ob_29, ob_30, ob_31, ob_32, ob_33, ob_34, .ref cd, ob_36, .ref my, .ref wi, .ref nb, .ref mv])), (wo, .inl (y 1, 9080, .inl fw))] [] rfl rfl (by decide) (by decide) (by decide) (kX10_isHouse l G y _ ob a1 (ob_0) wo mi hm mt fv fr (ob_15) (ob_16) (ob_17) (ob_18) (ob_19) (ob_20) (ob_21) (ob_22) (ob_23) (ob_24) (ob_25) (ob_26) (ob_27) (ob_28) (ob_29) (ob_30) (ob_31) (ob_32) (ob_33) (ob_34) cd (ob_36) my wi nb mv fw z0) ⟨(callB_of 1 hw0 (gA m_356) rfl rfl rfl (hw0 _ m_166) (hw0 _ m_357) (by decide +kernel) ⟨Nat.le_of_ble_eq_true rfl, Nat.le_of_ble_eq_true rfl⟩), (hw0 _ m_358), (hw0 _ m_359)⟩ (ci := 10) (q := (RX10, TX10, 41)) rfl rfl rfl hl.1 (Nat.le_of_ble_eq_true rfl) dX10_drop_2 ⟨Nat.le_of_ble_eq_true rfl, Nat.le_of_ble_eq_true rfl⟩ (fun r_1 w_1 H locs hw_1 hP hD hS => ?_)
  obtain ⟨rfl, rfl⟩ := hw_1
  have hP : va_P G vwCl [(ob, .inr (10, [ob_0, .ref wo, .ref mi, .ref hm, .ref mt, .int 0, .ref fv, .int 0, .int 0, .int 0, .int 0, .int 0, .int 0, .int (-1), .ref fr, ob_15, ob_16, ob_17, ob_18, ob_19, ob_20, ob_21, ob_22, ob_23, ob_24, ob_25, ob_26, ob_27, ob_28, ob_29, ob_30, ob_31, ob_32, ob_33, ob_34, .ref cd, ob_36, .ref my, .ref wi, .ref nb, .ref mv])), (wo, .inl (y 1, 9080, .inl fw))] H := hP
  have hD : va_D A [(ob, .inr (10, [ob_0, .ref wo, .ref mi, .ref hm, .ref mt, .int 0, .ref fv, .int 0, .int 0, .int 0, .int 0, .int 0, .int 0, .int (-1), .ref fr, ob_15, ob_16, ob_17, ob_18, ob_19, ob_20, ob_21, ob_22, ob_23, ob_24, ob_25, ob_26, ob_27, ob_28, ob_29, ob_30, ob_31, ob_32, ob_33, ob_34, .ref cd, ob_36, .ref my, .ref wi, .ref nb, .ref mv])), (wo, .inl (y 1, 9080, .inl fw))] := hD
  refine lv_if_ne (tgt := 11) hx hb dX10_drop_5 (by decide) (fun c9 => absurd (by decide) c9) (fun _ => ?_)
  refine lv_bipush (v := (-2)) hx hb dX10_drop_8 (by decide) ?_
  refine W.widen (k := 0) (n := 0) (Nat.le_of_ble_eq_true rfl) (Nat.le_of_ble_eq_true rfl) ?_
  exact W.iret (v := (-2)) hx hb hr (fun t ht hW => ⟨⟨(-2), _, rfl, rfl, by rw [ht]; exact hP, hD⟩, hS.F ht⟩) hS.2.2 dX10_drop_10

set_option maxHeartbeats 4000000 in
set_option maxRecDepth 100000 in
theorem kX10_tie (l : Launch) (G : va_G) (y : Nat → ClassId) (sz : Nat) (ob : Nat) (a1 : Int32) (a2 : Int32) (ob_0 : Value) (wo : Nat) (mi : Nat) (hm : Nat) (mt : Nat) (fv : Nat) (fr : Nat) (ob_15 : Value) (ob_16 : Value) (ob_17 : Value) (ob_18 : Value) (ob_19 : Value) (ob_20 : Value) (ob_21 : Value) (ob_22 : Value) (ob_23 : Value) (ob_24 : Value) (ob_25 : Value) (ob_26 : Value) (ob_27 : Value) (ob_28 : Value) (ob_29 : Value) (ob_30 : Value) (ob_31 : Value) (ob_32 : Value) (ob_33 : Value) (ob_34 : Value) (cd : Nat) (ob_36 : Value) (my : Nat) (wi : Nat) (nb : Nat) (mv : Nat) (fw : Nat → Int32) (z0 : fw 0 = 0) : Met l yX10_tie (Cond.code yX10_tie cX10_tie 3 (some .int) :: wAll) ({ frames := 3, cells := 0, slots := 0, locals := 68 }) (va_Pc [.ref ob, .int a1, .int a2] (kp G y sz [(ob, .inr (10, [ob_0, .ref wo, .ref mi, .ref hm, .ref mt, .int 0, .ref fv, .int 0, .int 0, .int 0, .int 0, .int 0, .int 0, .int (-1), .ref fr, ob_15, ob_16, ob_17, ob_18, ob_19, ob_20, ob_21, ob_22, ob_23, ob_24, ob_25, ob_26, ob_27, ob_28, ob_29, ob_30, ob_31, ob_32, ob_33, ob_34, .ref cd, ob_36, .ref my, .ref wi, .ref nb, .ref mv])), (wo, .inl (y 1, 9080, .inl fw))])) (va_Qi (fun (r : Int32) (_ : va_W) => r = -2) (kq G (va_A [(ob, .inr (10, [ob_0, .ref wo, .ref mi, .ref hm, .ref mt, .int 0, .ref fv, .int 0, .int 0, .int 0, .int 0, .int 0, .int 0, .int (-1), .ref fr, ob_15, ob_16, ob_17, ob_18, ob_19, ob_20, ob_21, ob_22, ob_23, ob_24, ob_25, ob_26, ob_27, ob_28, ob_29, ob_30, ob_31, ob_32, ob_33, ob_34, .ref cd, ob_36, .ref my, .ref wi, .ref nb, .ref mv])), (wo, .inl (y 1, 9080, .inl fw))] sz)) (va_A [(ob, .inr (10, [ob_0, .ref wo, .ref mi, .ref hm, .ref mt, .int 0, .ref fv, .int 0, .int 0, .int 0, .int 0, .int 0, .int 0, .int (-1), .ref fr, ob_15, ob_16, ob_17, ob_18, ob_19, ob_20, ob_21, ob_22, ob_23, ob_24, ob_25, ob_26, ob_27, ob_28, ob_29, ob_30, ob_31, ob_32, ob_33, ob_34, .ref cd, ob_36, .ref my, .ref wi, .ref nb, .ref mv])), (wo, .inl (y 1, 9080, .inl fw))] sz)) 0 0 (va_A [(ob, .inr (10, [ob_0, .ref wo, .ref mi, .ref hm, .ref mt, .int 0, .ref fv, .int 0, .int 0, .int 0, .int 0, .int 0, .int 0, .int (-1), .ref fr, ob_15, ob_16, ob_17, ob_18, ob_19, ob_20, ob_21, ob_22, ob_23, ob_24, ob_25, ob_26, ob_27, ob_28, ob_29, ob_30, ob_31, ob_32, ob_33, ob_34, .ref cd, ob_36, .ref my, .ref wi, .ref nb, .ref mv])), (wo, .inl (y 1, 9080, .inl fw))] sz) := by
  refine Met.ofW (cc := cX10_tie) (maxL := 3) (ret := (some .int)) (by decide) rfl ?_
  intro p e s m args below meth c s₁ B hml hv
  obtain ⟨rfl, hsz, hP, hK, hD0⟩ := hv
  have hx := B.exec
  have hb := B.bytes
  have hr := B.returns
  have hw0 : ∀ w ∈ wAll, w.before _ s = true := fun w h => atoms_spec (ws := Cond.code yX10_tie cX10_tie 3 (some .int) :: wAll) B.pre w (List.mem_cons_of_mem _ h)
  have hown : s.vm.findClass RX10 = some m.cls := findClass_of_methodNamed B.named
  have hlocks := B.notSynchronized
  subst hsz
  have hD := hD0.self (sz := s.heap.size)
  generalize hAe : va_A [(ob, .inr (10, [ob_0, .ref wo, .ref mi, .ref hm, .ref mt, .int 0, .ref fv, .int 0, .int 0, .int 0, .int 0, .int 0, .int 0, .int (-1), .ref fr, ob_15, ob_16, ob_17, ob_18, ob_19, ob_20, ob_21, ob_22, ob_23, ob_24, ob_25, ob_26, ob_27, ob_28, ob_29, ob_30, ob_31, ob_32, ob_33, ob_34, .ref cd, ob_36, .ref my, .ref wi, .ref nb, .ref mv])), (wo, .inl (y 1, 9080, .inl fw))] s.heap.size = A at hD ⊢
  have hA : ∀ q : Nat, s.heap.size ≤ q → A q := fun q h => by rw [← hAe]; exact Or.inr h
  have hS : va_S A s.heap s.heap [] := va_S.rf
  have hP : va_P G vwCl [(ob, .inr (10, [ob_0, .ref wo, .ref mi, .ref hm, .ref mt, .int 0, .ref fv, .int 0, .int 0, .int 0, .int 0, .int 0, .int 0, .int (-1), .ref fr, ob_15, ob_16, ob_17, ob_18, ob_19, ob_20, ob_21, ob_22, ob_23, ob_24, ob_25, ob_26, ob_27, ob_28, ob_29, ob_30, ob_31, ob_32, ob_33, ob_34, .ref cd, ob_36, .ref my, .ref wi, .ref nb, .ref mv])), (wo, .inl (y 1, 9080, .inl fw))] s.heap := hP
  have hl := lv_entry ([.ref ob, .int a1, .int a2]) (n := 3) (Nat.le_of_ble_eq_true rfl)
  rw [lg_entry_eq]
  generalize (lg_sl ([.ref ob, .int a1, .int a2]) ++ List.replicate (3 - (lg_sl ([.ref ob, .int a1, .int a2])).length) Slot.unset).toArray = ls at hl ⊢
  have hl : lv_has ls 3 [(0, .ref ob), (1, .int a1), (2, .int a2)] := hl
  refine lv_aload_n hx hb dX10_tie_0 rfl (lv_at hl 0 rfl) ?_
  refine lv_iload_n hx hb dX10_tie_1 rfl (lv_at hl 1 rfl) ?_
  refine lv_iload_n hx hb dX10_tie_2 rfl (lv_at hl 2 rfl) ?_
  refine cVi (As := [.int a1, .int a2]) (rest := []) ⟨hx, hb, hml, hown, hw0⟩ hA hK hP hD hS [0, 1] [] [(ob, .inr (10, [ob_0, .ref wo, .ref mi, .ref hm, .ref mt, .int 0, .ref fv, .int 0, .int 0, .int 0, .int 0, .int 0, .int 0, .int (-1), .ref fr, ob_15, ob_16, ob_17, ob_18, ob_19, ob_20, ob_21, ob_22, ob_23, ob_24, ob_25, ob_26, ob_27, ob_28, ob_29, ob_30, ob_31, ob_32, ob_33, ob_34, .ref cd, ob_36, .ref my, .ref wi, .ref nb, .ref mv])), (wo, .inl (y 1, 9080, .inl fw))] [] rfl rfl (by decide) (by decide) (by decide) (kX10_areTwo l G y _ ob a1 a2 (ob_0) wo mi hm mt fv fr (ob_15) (ob_16) (ob_17) (ob_18) (ob_19) (ob_20) (ob_21) (ob_22) (ob_23) (ob_24) (ob_25) (ob_26) (ob_27) (ob_28) (ob_29) (ob_30) (ob_31) (ob_32) (ob_33) (ob_34) cd (ob_36) my wi nb mv fw z0) ⟨(callB_of 2 hw0 (gA m_360) rfl rfl rfl (hw0 _ m_166) (hw0 _ m_362) (by decide +kernel) ⟨Nat.le_of_ble_eq_true rfl, Nat.le_of_ble_eq_true rfl⟩), (hw0 _ m_363), (hw0 _ m_364)⟩ (ci := 10) (q := (RX10, TX10, 41)) rfl rfl rfl hl.1 (Nat.le_of_ble_eq_true rfl) dX10_tie_3 ⟨Nat.le_of_ble_eq_true rfl, Nat.le_of_ble_eq_true rfl⟩ (fun r_1 w_1 H locs hw_1 hP hD hS => ?_)
  obtain ⟨rfl, rfl⟩ := hw_1
  have hP : va_P G vwCl [(ob, .inr (10, [ob_0, .ref wo, .ref mi, .ref hm, .ref mt, .int 0, .ref fv, .int 0, .int 0, .int 0, .int 0, .int 0, .int 0, .int (-1), .ref fr, ob_15, ob_16, ob_17, ob_18, ob_19, ob_20, ob_21, ob_22, ob_23, ob_24, ob_25, ob_26, ob_27, ob_28, ob_29, ob_30, ob_31, ob_32, ob_33, ob_34, .ref cd, ob_36, .ref my, .ref wi, .ref nb, .ref mv])), (wo, .inl (y 1, 9080, .inl fw))] H := hP
  have hD : va_D A [(ob, .inr (10, [ob_0, .ref wo, .ref mi, .ref hm, .ref mt, .int 0, .ref fv, .int 0, .int 0, .int 0, .int 0, .int 0, .int 0, .int (-1), .ref fr, ob_15, ob_16, ob_17, ob_18, ob_19, ob_20, ob_21, ob_22, ob_23, ob_24, ob_25, ob_26, ob_27, ob_28, ob_29, ob_30, ob_31, ob_32, ob_33, ob_34, .ref cd, ob_36, .ref my, .ref wi, .ref nb, .ref mv])), (wo, .inl (y 1, 9080, .inl fw))] := hD
  refine lv_if_ne (tgt := 12) hx hb dX10_tie_6 (by decide) (fun c9 => absurd (by decide) c9) (fun _ => ?_)
  refine lv_bipush (v := (-2)) hx hb dX10_tie_9 (by decide) ?_
  refine W.widen (k := 0) (n := 0) (Nat.le_of_ble_eq_true rfl) (Nat.le_of_ble_eq_true rfl) ?_
  exact W.iret (v := (-2)) hx hb hr (fun t ht hW => ⟨⟨(-2), _, rfl, rfl, by rw [ht]; exact hP, hD⟩, hS.F ht⟩) hS.2.2 dX10_tie_11

set_option maxHeartbeats 4000000 in
set_option maxRecDepth 100000 in
theorem kX10_ring (l : Launch) (G : va_G) (y : Nat → ClassId) (sz : Nat) (ob : Nat) (a1 : Int32) (ob_0 : Value) (wo : Nat) (mi : Nat) (hm : Nat) (mt : Nat) (fv : Nat) (fr : Nat) (ob_15 : Value) (ob_16 : Value) (ob_17 : Value) (ob_18 : Value) (ob_19 : Value) (ob_20 : Value) (ob_21 : Value) (ob_22 : Value) (ob_23 : Value) (ob_24 : Value) (ob_25 : Value) (ob_26 : Value) (ob_27 : Value) (ob_28 : Value) (ob_29 : Value) (ob_30 : Value) (ob_31 : Value) (ob_32 : Value) (ob_33 : Value) (ob_34 : Value) (cd : Nat) (ob_36 : Value) (my : Nat) (wi : Nat) (nb : Nat) (mv : Nat) (fw : Nat → Int32) (z0 : fw 0 = 0) : Met l yX10_ring (Cond.code yX10_ring cX10_ring 2 (some .int) :: wAll) ({ frames := 2, cells := 0, slots := 0, locals := 46 }) (va_Pc [.ref ob, .int a1] (kp G y sz [(ob, .inr (10, [ob_0, .ref wo, .ref mi, .ref hm, .ref mt, .int 0, .ref fv, .int 0, .int 0, .int 0, .int 0, .int 0, .int 0, .int (-1), .ref fr, ob_15, ob_16, ob_17, ob_18, ob_19, ob_20, ob_21, ob_22, ob_23, ob_24, ob_25, ob_26, ob_27, ob_28, ob_29, ob_30, ob_31, ob_32, ob_33, ob_34, .ref cd, ob_36, .ref my, .ref wi, .ref nb, .ref mv])), (wo, .inl (y 1, 9080, .inl fw))])) (va_Qi (fun (r : Int32) (_ : va_W) => r = -2) (kq G (va_A [(ob, .inr (10, [ob_0, .ref wo, .ref mi, .ref hm, .ref mt, .int 0, .ref fv, .int 0, .int 0, .int 0, .int 0, .int 0, .int 0, .int (-1), .ref fr, ob_15, ob_16, ob_17, ob_18, ob_19, ob_20, ob_21, ob_22, ob_23, ob_24, ob_25, ob_26, ob_27, ob_28, ob_29, ob_30, ob_31, ob_32, ob_33, ob_34, .ref cd, ob_36, .ref my, .ref wi, .ref nb, .ref mv])), (wo, .inl (y 1, 9080, .inl fw))] sz)) (va_A [(ob, .inr (10, [ob_0, .ref wo, .ref mi, .ref hm, .ref mt, .int 0, .ref fv, .int 0, .int 0, .int 0, .int 0, .int 0, .int 0, .int (-1), .ref fr, ob_15, ob_16, ob_17, ob_18, ob_19, ob_20, ob_21, ob_22, ob_23, ob_24, ob_25, ob_26, ob_27, ob_28, ob_29, ob_30, ob_31, ob_32, ob_33, ob_34, .ref cd, ob_36, .ref my, .ref wi, .ref nb, .ref mv])), (wo, .inl (y 1, 9080, .inl fw))] sz)) 0 0 (va_A [(ob, .inr (10, [ob_0, .ref wo, .ref mi, .ref hm, .ref mt, .int 0, .ref fv, .int 0, .int 0, .int 0, .int 0, .int 0, .int 0, .int (-1), .ref fr, ob_15, ob_16, ob_17, ob_18, ob_19, ob_20, ob_21, ob_22, ob_23, ob_24, ob_25, ob_26, ob_27, ob_28, ob_29, ob_30, ob_31, ob_32, ob_33, ob_34, .ref cd, ob_36, .ref my, .ref wi, .ref nb, .ref mv])), (wo, .inl (y 1, 9080, .inl fw))] sz) := by
  refine Met.ofW (cc := cX10_ring) (maxL := 2) (ret := (some .int)) (by decide) rfl ?_
  intro p e s m args below meth c s₁ B hml hv
  obtain ⟨rfl, hsz, hP, hK, hD0⟩ := hv
  have hx := B.exec
  have hb := B.bytes
  have hr := B.returns
  have hw0 : ∀ w ∈ wAll, w.before _ s = true := fun w h => atoms_spec (ws := Cond.code yX10_ring cX10_ring 2 (some .int) :: wAll) B.pre w (List.mem_cons_of_mem _ h)
  have hown : s.vm.findClass RX10 = some m.cls := findClass_of_methodNamed B.named
  have hlocks := B.notSynchronized
  subst hsz
  have hD := hD0.self (sz := s.heap.size)
  generalize hAe : va_A [(ob, .inr (10, [ob_0, .ref wo, .ref mi, .ref hm, .ref mt, .int 0, .ref fv, .int 0, .int 0, .int 0, .int 0, .int 0, .int 0, .int (-1), .ref fr, ob_15, ob_16, ob_17, ob_18, ob_19, ob_20, ob_21, ob_22, ob_23, ob_24, ob_25, ob_26, ob_27, ob_28, ob_29, ob_30, ob_31, ob_32, ob_33, ob_34, .ref cd, ob_36, .ref my, .ref wi, .ref nb, .ref mv])), (wo, .inl (y 1, 9080, .inl fw))] s.heap.size = A at hD ⊢
  have hA : ∀ q : Nat, s.heap.size ≤ q → A q := fun q h => by rw [← hAe]; exact Or.inr h
  have hS : va_S A s.heap s.heap [] := va_S.rf
  have hP : va_P G vwCl [(ob, .inr (10, [ob_0, .ref wo, .ref mi, .ref hm, .ref mt, .int 0, .ref fv, .int 0, .int 0, .int 0, .int 0, .int 0, .int 0, .int (-1), .ref fr, ob_15, ob_16, ob_17, ob_18, ob_19, ob_20, ob_21, ob_22, ob_23, ob_24, ob_25, ob_26, ob_27, ob_28, ob_29, ob_30, ob_31, ob_32, ob_33, ob_34, .ref cd, ob_36, .ref my, .ref wi, .ref nb, .ref mv])), (wo, .inl (y 1, 9080, .inl fw))] s.heap := hP
  have hl := lv_entry ([.ref ob, .int a1]) (n := 2) (Nat.le_of_ble_eq_true rfl)
  rw [lg_entry_eq]
  generalize (lg_sl ([.ref ob, .int a1]) ++ List.replicate (2 - (lg_sl ([.ref ob, .int a1])).length) Slot.unset).toArray = ls at hl ⊢
  have hl : lv_has ls 2 [(0, .ref ob), (1, .int a1)] := hl
  refine lv_aload_n hx hb dX10_ring_0 rfl (lv_at hl 0 rfl) ?_
  refine lv_iload_n hx hb dX10_ring_1 rfl (lv_at hl 1 rfl) ?_
  refine cVi (As := [.int a1]) (rest := []) ⟨hx, hb, hml, hown, hw0⟩ hA hK hP hD hS [0, 1] [] [(ob, .inr (10, [ob_0, .ref wo, .ref mi, .ref hm, .ref mt, .int 0, .ref fv, .int 0, .int 0, .int 0, .int 0, .int 0, .int 0, .int (-1), .ref fr, ob_15, ob_16, ob_17, ob_18, ob_19, ob_20, ob_21, ob_22, ob_23, ob_24, ob_25, ob_26, ob_27, ob_28, ob_29, ob_30, ob_31, ob_32, ob_33, ob_34, .ref cd, ob_36, .ref my, .ref wi, .ref nb, .ref mv])), (wo, .inl (y 1, 9080, .inl fw))] [] rfl rfl (by decide) (by decide) (by decide) (kX10_isHouse l G y _ ob a1 (ob_0) wo mi hm mt fv fr (ob_15) (ob_16) (ob_17) (ob_18) (ob_19) (ob_20) (ob_21) (ob_22) (ob_23) (ob_24) (ob_25) (ob_26) (ob_27) (ob_28) (ob_29) (ob_30) (ob_31) (ob_32) (ob_33) (ob_34) cd (ob_36) my wi nb mv fw z0) ⟨(callB_of 1 hw0 (gA m_356) rfl rfl rfl (hw0 _ m_166) (hw0 _ m_357) (by decide +kernel) ⟨Nat.le_of_ble_eq_true rfl, Nat.le_of_ble_eq_true rfl⟩), (hw0 _ m_358), (hw0 _ m_359)⟩ (ci := 10) (q := (RX10, TX10, 41)) rfl rfl rfl hl.1 (Nat.le_of_ble_eq_true rfl) dX10_ring_2 ⟨Nat.le_of_ble_eq_true rfl, Nat.le_of_ble_eq_true rfl⟩ (fun r_1 w_1 H locs hw_1 hP hD hS => ?_)
  obtain ⟨rfl, rfl⟩ := hw_1
  have hP : va_P G vwCl [(ob, .inr (10, [ob_0, .ref wo, .ref mi, .ref hm, .ref mt, .int 0, .ref fv, .int 0, .int 0, .int 0, .int 0, .int 0, .int 0, .int (-1), .ref fr, ob_15, ob_16, ob_17, ob_18, ob_19, ob_20, ob_21, ob_22, ob_23, ob_24, ob_25, ob_26, ob_27, ob_28, ob_29, ob_30, ob_31, ob_32, ob_33, ob_34, .ref cd, ob_36, .ref my, .ref wi, .ref nb, .ref mv])), (wo, .inl (y 1, 9080, .inl fw))] H := hP
  have hD : va_D A [(ob, .inr (10, [ob_0, .ref wo, .ref mi, .ref hm, .ref mt, .int 0, .ref fv, .int 0, .int 0, .int 0, .int 0, .int 0, .int 0, .int (-1), .ref fr, ob_15, ob_16, ob_17, ob_18, ob_19, ob_20, ob_21, ob_22, ob_23, ob_24, ob_25, ob_26, ob_27, ob_28, ob_29, ob_30, ob_31, ob_32, ob_33, ob_34, .ref cd, ob_36, .ref my, .ref wi, .ref nb, .ref mv])), (wo, .inl (y 1, 9080, .inl fw))] := hD
  refine lv_if_ne (tgt := 11) hx hb dX10_ring_5 (by decide) (fun c9 => absurd (by decide) c9) (fun _ => ?_)
  refine lv_bipush (v := (-2)) hx hb dX10_ring_8 (by decide) ?_
  refine W.widen (k := 0) (n := 0) (Nat.le_of_ble_eq_true rfl) (Nat.le_of_ble_eq_true rfl) ?_
  exact W.iret (v := (-2)) hx hb hr (fun t ht hW => ⟨⟨(-2), _, rfl, rfl, by rw [ht]; exact hP, hD⟩, hS.F ht⟩) hS.2.2 dX10_ring_10

set_option maxHeartbeats 4000000 in
set_option maxRecDepth 100000 in
theorem kX10_debt (l : Launch) (G : va_G) (y : Nat → ClassId) (sz : Nat) (ob : Nat) (a1 : Int32) (a2 : Int32) (a3 : Int32) (ob_0 : Value) (wo : Nat) (mi : Nat) (hm : Nat) (mt : Nat) (fv : Nat) (fr : Nat) (ob_15 : Value) (ob_16 : Value) (ob_17 : Value) (ob_18 : Value) (ob_19 : Value) (ob_20 : Value) (ob_21 : Value) (ob_22 : Value) (ob_23 : Value) (ob_24 : Value) (ob_25 : Value) (ob_26 : Value) (ob_27 : Value) (ob_28 : Value) (ob_29 : Value) (ob_30 : Value) (ob_31 : Value) (ob_32 : Value) (ob_33 : Value) (ob_34 : Value) (cd : Nat) (ob_36 : Value) (my : Nat) (wi : Nat) (nb : Nat) (mv : Nat) (fw : Nat → Int32) (z0 : fw 0 = 0) : Met l yX10_debt (Cond.code yX10_debt cX10_debt 5 (some .int) :: wAll) ({ frames := 2, cells := 0, slots := 0, locals := 46 }) (va_Pc [.ref ob, .int a1, .int a2, .int a3] (kp G y sz [(ob, .inr (10, [ob_0, .ref wo, .ref mi, .ref hm, .ref mt, .int 0, .ref fv, .int 0, .int 0, .int 0, .int 0, .int 0, .int 0, .int (-1), .ref fr, ob_15, ob_16, ob_17, ob_18, ob_19, ob_20, ob_21, ob_22, ob_23, ob_24, ob_25, ob_26, ob_27, ob_28, ob_29, ob_30, ob_31, ob_32, ob_33, ob_34, .ref cd, ob_36, .ref my, .ref wi, .ref nb, .ref mv])), (wo, .inl (y 1, 9080, .inl fw))])) (va_Qi (fun (r : Int32) (_ : va_W) => r = -1) (kq G (va_A [(ob, .inr (10, [ob_0, .ref wo, .ref mi, .ref hm, .ref mt, .int 0, .ref fv, .int 0, .int 0, .int 0, .int 0, .int 0, .int 0, .int (-1), .ref fr, ob_15, ob_16, ob_17, ob_18, ob_19, ob_20, ob_21, ob_22, ob_23, ob_24, ob_25, ob_26, ob_27, ob_28, ob_29, ob_30, ob_31, ob_32, ob_33, ob_34, .ref cd, ob_36, .ref my, .ref wi, .ref nb, .ref mv])), (wo, .inl (y 1, 9080, .inl fw))] sz)) (va_A [(ob, .inr (10, [ob_0, .ref wo, .ref mi, .ref hm, .ref mt, .int 0, .ref fv, .int 0, .int 0, .int 0, .int 0, .int 0, .int 0, .int (-1), .ref fr, ob_15, ob_16, ob_17, ob_18, ob_19, ob_20, ob_21, ob_22, ob_23, ob_24, ob_25, ob_26, ob_27, ob_28, ob_29, ob_30, ob_31, ob_32, ob_33, ob_34, .ref cd, ob_36, .ref my, .ref wi, .ref nb, .ref mv])), (wo, .inl (y 1, 9080, .inl fw))] sz)) 0 0 (va_A [(ob, .inr (10, [ob_0, .ref wo, .ref mi, .ref hm, .ref mt, .int 0, .ref fv, .int 0, .int 0, .int 0, .int 0, .int 0, .int 0, .int (-1), .ref fr, ob_15, ob_16, ob_17, ob_18, ob_19, ob_20, ob_21, ob_22, ob_23, ob_24, ob_25, ob_26, ob_27, ob_28, ob_29, ob_30, ob_31, ob_32, ob_33, ob_34, .ref cd, ob_36, .ref my, .ref wi, .ref nb, .ref mv])), (wo, .inl (y 1, 9080, .inl fw))] sz) := by
  refine Met.ofW (cc := cX10_debt) (maxL := 5) (ret := (some .int)) (by decide) rfl ?_
  intro p e s m args below meth c s₁ B hml hv
  obtain ⟨rfl, hsz, hP, hK, hD0⟩ := hv
  have hx := B.exec
  have hb := B.bytes
  have hr := B.returns
  have hw0 : ∀ w ∈ wAll, w.before _ s = true := fun w h => atoms_spec (ws := Cond.code yX10_debt cX10_debt 5 (some .int) :: wAll) B.pre w (List.mem_cons_of_mem _ h)
  have hown : s.vm.findClass RX10 = some m.cls := findClass_of_methodNamed B.named
  have hlocks := B.notSynchronized
  subst hsz
  have hD := hD0.self (sz := s.heap.size)
  generalize hAe : va_A [(ob, .inr (10, [ob_0, .ref wo, .ref mi, .ref hm, .ref mt, .int 0, .ref fv, .int 0, .int 0, .int 0, .int 0, .int 0, .int 0, .int (-1), .ref fr, ob_15, ob_16, ob_17, ob_18, ob_19, ob_20, ob_21, ob_22, ob_23, ob_24, ob_25, ob_26, ob_27, ob_28, ob_29, ob_30, ob_31, ob_32, ob_33, ob_34, .ref cd, ob_36, .ref my, .ref wi, .ref nb, .ref mv])), (wo, .inl (y 1, 9080, .inl fw))] s.heap.size = A at hD ⊢
  have hA : ∀ q : Nat, s.heap.size ≤ q → A q := fun q h => by rw [← hAe]; exact Or.inr h
  have hS : va_S A s.heap s.heap [] := va_S.rf
  have hP : va_P G vwCl [(ob, .inr (10, [ob_0, .ref wo, .ref mi, .ref hm, .ref mt, .int 0, .ref fv, .int 0, .int 0, .int 0, .int 0, .int 0, .int 0, .int (-1), .ref fr, ob_15, ob_16, ob_17, ob_18, ob_19, ob_20, ob_21, ob_22, ob_23, ob_24, ob_25, ob_26, ob_27, ob_28, ob_29, ob_30, ob_31, ob_32, ob_33, ob_34, .ref cd, ob_36, .ref my, .ref wi, .ref nb, .ref mv])), (wo, .inl (y 1, 9080, .inl fw))] s.heap := hP
  have hl := lv_entry ([.ref ob, .int a1, .int a2, .int a3]) (n := 5) (Nat.le_of_ble_eq_true rfl)
  rw [lg_entry_eq]
  generalize (lg_sl ([.ref ob, .int a1, .int a2, .int a3]) ++ List.replicate (5 - (lg_sl ([.ref ob, .int a1, .int a2, .int a3])).length) Slot.unset).toArray = ls at hl ⊢
  have hl : lv_has ls 5 [(0, .ref ob), (1, .int a1), (2, .int a2), (3, .int a3)] := hl
  refine lv_aload_n hx hb dX10_debt_0 rfl (lv_at hl 0 rfl) ?_
  refine lv_iload_n hx hb dX10_debt_1 rfl (lv_at hl 1 rfl) ?_
  refine cVi (As := [.int a1]) (rest := []) ⟨hx, hb, hml, hown, hw0⟩ hA hK hP hD hS [0, 1] [] [(ob, .inr (10, [ob_0, .ref wo, .ref mi, .ref hm, .ref mt, .int 0, .ref fv, .int 0, .int 0, .int 0, .int 0, .int 0, .int 0, .int (-1), .ref fr, ob_15, ob_16, ob_17, ob_18, ob_19, ob_20, ob_21, ob_22, ob_23, ob_24, ob_25, ob_26, ob_27, ob_28, ob_29, ob_30, ob_31, ob_32, ob_33, ob_34, .ref cd, ob_36, .ref my, .ref wi, .ref nb, .ref mv])), (wo, .inl (y 1, 9080, .inl fw))] [] rfl rfl (by decide) (by decide) (by decide) (kX10_isHouse l G y _ ob a1 (ob_0) wo mi hm mt fv fr (ob_15) (ob_16) (ob_17) (ob_18) (ob_19) (ob_20) (ob_21) (ob_22) (ob_23) (ob_24) (ob_25) (ob_26) (ob_27) (ob_28) (ob_29) (ob_30) (ob_31) (ob_32) (ob_33) (ob_34) cd (ob_36) my wi nb mv fw z0) ⟨(callB_of 1 hw0 (gA m_356) rfl rfl rfl (hw0 _ m_166) (hw0 _ m_357) (by decide +kernel) ⟨Nat.le_of_ble_eq_true rfl, Nat.le_of_ble_eq_true rfl⟩), (hw0 _ m_358), (hw0 _ m_359)⟩ (ci := 10) (q := (RX10, TX10, 41)) rfl rfl rfl hl.1 (Nat.le_of_ble_eq_true rfl) dX10_debt_2 ⟨Nat.le_of_ble_eq_true rfl, Nat.le_of_ble_eq_true rfl⟩ (fun r_1 w_1 H locs hw_1 hP hD hS => ?_)
  obtain ⟨rfl, rfl⟩ := hw_1
  have hP : va_P G vwCl [(ob, .inr (10, [ob_0, .ref wo, .ref mi, .ref hm, .ref mt, .int 0, .ref fv, .int 0, .int 0, .int 0, .int 0, .int 0, .int 0, .int (-1), .ref fr, ob_15, ob_16, ob_17, ob_18, ob_19, ob_20, ob_21, ob_22, ob_23, ob_24, ob_25, ob_26, ob_27, ob_28, ob_29, ob_30, ob_31, ob_32, ob_33, ob_34, .ref cd, ob_36, .ref my, .ref wi, .ref nb, .ref mv])), (wo, .inl (y 1, 9080, .inl fw))] H := hP
  have hD : va_D A [(ob, .inr (10, [ob_0, .ref wo, .ref mi, .ref hm, .ref mt, .int 0, .ref fv, .int 0, .int 0, .int 0, .int 0, .int 0, .int 0, .int (-1), .ref fr, ob_15, ob_16, ob_17, ob_18, ob_19, ob_20, ob_21, ob_22, ob_23, ob_24, ob_25, ob_26, ob_27, ob_28, ob_29, ob_30, ob_31, ob_32, ob_33, ob_34, .ref cd, ob_36, .ref my, .ref wi, .ref nb, .ref mv])), (wo, .inl (y 1, 9080, .inl fw))] := hD
  refine lv_if_eq (tgt := 24) hx hb dX10_debt_5 (by decide) (fun _ => ?_) (fun c9 => absurd (by decide) c9)
  refine lv_iconst (v := (-1)) hx hb dX10_debt_24 (by decide) ?_
  refine W.widen (k := 0) (n := 0) (Nat.le_of_ble_eq_true rfl) (Nat.le_of_ble_eq_true rfl) ?_
  exact W.iret (v := (-1)) hx hb hr (fun t ht hW => ⟨⟨(-1), _, rfl, rfl, by rw [ht]; exact hP, hD⟩, hS.F ht⟩) hS.2.2 dX10_debt_25

set_option maxHeartbeats 4000000 in
set_option maxRecDepth 100000 in
theorem kX10_first (l : Launch) (G : va_G) (y : Nat → ClassId) (sz : Nat) (ob : Nat) (ob_0 : Value) (wo : Nat) (mi : Nat) (hm : Nat) (mt : Nat) (fv : Nat) (fr : Nat) (ob_15 : Value) (ob_16 : Value) (ob_17 : Value) (ob_18 : Value) (ob_19 : Value) (ob_20 : Value) (ob_21 : Value) (ob_22 : Value) (ob_23 : Value) (ob_24 : Value) (ob_25 : Value) (ob_26 : Value) (ob_27 : Value) (ob_28 : Value) (ob_29 : Value) (ob_30 : Value) (ob_31 : Value) (ob_32 : Value) (ob_33 : Value) (ob_34 : Value) (cd : Nat) (ob_36 : Value) (my : Nat) (wi : Nat) (nb : Nat) (mv : Nat) (fw : Nat → Int32) (z0 : fw 0 = 0) : Met l yX10_first (Cond.code yX10_first cX10_first 5 (some .int) :: wAll) ({ frames := 0, cells := 0, slots := 0, locals := 0 }) (va_Pc [.ref ob] (kp G y sz [(ob, .inr (10, [ob_0, .ref wo, .ref mi, .ref hm, .ref mt, .int 0, .ref fv, .int 0, .int 0, .int 0, .int 0, .int 0, .int 0, .int (-1), .ref fr, ob_15, ob_16, ob_17, ob_18, ob_19, ob_20, ob_21, ob_22, ob_23, ob_24, ob_25, ob_26, ob_27, ob_28, ob_29, ob_30, ob_31, ob_32, ob_33, ob_34, .ref cd, ob_36, .ref my, .ref wi, .ref nb, .ref mv])), (wo, .inl (y 1, 9080, .inl fw))])) (va_Qi (fun (r : Int32) (_ : va_W) => r = -1) (kq G (va_A [(ob, .inr (10, [ob_0, .ref wo, .ref mi, .ref hm, .ref mt, .int 0, .ref fv, .int 0, .int 0, .int 0, .int 0, .int 0, .int 0, .int (-1), .ref fr, ob_15, ob_16, ob_17, ob_18, ob_19, ob_20, ob_21, ob_22, ob_23, ob_24, ob_25, ob_26, ob_27, ob_28, ob_29, ob_30, ob_31, ob_32, ob_33, ob_34, .ref cd, ob_36, .ref my, .ref wi, .ref nb, .ref mv])), (wo, .inl (y 1, 9080, .inl fw))] sz)) (va_A [(ob, .inr (10, [ob_0, .ref wo, .ref mi, .ref hm, .ref mt, .int 0, .ref fv, .int 0, .int 0, .int 0, .int 0, .int 0, .int 0, .int (-1), .ref fr, ob_15, ob_16, ob_17, ob_18, ob_19, ob_20, ob_21, ob_22, ob_23, ob_24, ob_25, ob_26, ob_27, ob_28, ob_29, ob_30, ob_31, ob_32, ob_33, ob_34, .ref cd, ob_36, .ref my, .ref wi, .ref nb, .ref mv])), (wo, .inl (y 1, 9080, .inl fw))] sz)) 0 0 (va_A [(ob, .inr (10, [ob_0, .ref wo, .ref mi, .ref hm, .ref mt, .int 0, .ref fv, .int 0, .int 0, .int 0, .int 0, .int 0, .int 0, .int (-1), .ref fr, ob_15, ob_16, ob_17, ob_18, ob_19, ob_20, ob_21, ob_22, ob_23, ob_24, ob_25, ob_26, ob_27, ob_28, ob_29, ob_30, ob_31, ob_32, ob_33, ob_34, .ref cd, ob_36, .ref my, .ref wi, .ref nb, .ref mv])), (wo, .inl (y 1, 9080, .inl fw))] sz) := by
  refine Met.ofW (cc := cX10_first) (maxL := 5) (ret := (some .int)) (by decide) rfl ?_
  intro p e s m args below meth c s₁ B hml hv
  obtain ⟨rfl, hsz, hP, hK, hD0⟩ := hv
  have hx := B.exec
  have hb := B.bytes
  have hr := B.returns
  have hw0 : ∀ w ∈ wAll, w.before _ s = true := fun w h => atoms_spec (ws := Cond.code yX10_first cX10_first 5 (some .int) :: wAll) B.pre w (List.mem_cons_of_mem _ h)
  have hown : s.vm.findClass RX10 = some m.cls := findClass_of_methodNamed B.named
  have hlocks := B.notSynchronized
  subst hsz
  have hD := hD0.self (sz := s.heap.size)
  generalize hAe : va_A [(ob, .inr (10, [ob_0, .ref wo, .ref mi, .ref hm, .ref mt, .int 0, .ref fv, .int 0, .int 0, .int 0, .int 0, .int 0, .int 0, .int (-1), .ref fr, ob_15, ob_16, ob_17, ob_18, ob_19, ob_20, ob_21, ob_22, ob_23, ob_24, ob_25, ob_26, ob_27, ob_28, ob_29, ob_30, ob_31, ob_32, ob_33, ob_34, .ref cd, ob_36, .ref my, .ref wi, .ref nb, .ref mv])), (wo, .inl (y 1, 9080, .inl fw))] s.heap.size = A at hD ⊢
  have hA : ∀ q : Nat, s.heap.size ≤ q → A q := fun q h => by rw [← hAe]; exact Or.inr h
  have hS : va_S A s.heap s.heap [] := va_S.rf
  have hP : va_P G vwCl [(ob, .inr (10, [ob_0, .ref wo, .ref mi, .ref hm, .ref mt, .int 0, .ref fv, .int 0, .int 0, .int 0, .int 0, .int 0, .int 0, .int (-1), .ref fr, ob_15, ob_16, ob_17, ob_18, ob_19, ob_20, ob_21, ob_22, ob_23, ob_24, ob_25, ob_26, ob_27, ob_28, ob_29, ob_30, ob_31, ob_32, ob_33, ob_34, .ref cd, ob_36, .ref my, .ref wi, .ref nb, .ref mv])), (wo, .inl (y 1, 9080, .inl fw))] s.heap := hP
  have hl := lv_entry ([.ref ob]) (n := 5) (Nat.le_of_ble_eq_true rfl)
  rw [lg_entry_eq]
  generalize (lg_sl ([.ref ob]) ++ List.replicate (5 - (lg_sl ([.ref ob])).length) Slot.unset).toArray = ls at hl ⊢
  have hl : lv_has ls 5 [(0, .ref ob)] := hl
  refine lv_iconst (v := (-1)) hx hb dX10_first_0 (by decide) ?_
  refine lv_istore_n (lv' := [(1, .int (-1)), (0, .ref ob)]) hx hb dX10_first_1 rfl hl (by decide) rfl (fun ls hl => ?_)
  refine lv_iconst (v := 0) hx hb dX10_first_2 (by decide) ?_
  refine lv_istore_n (lv' := [(2, .int 0), (1, .int (-1)), (0, .ref ob)]) hx hb dX10_first_3 rfl hl (by decide) rfl (fun ls hl => ?_)
  refine lv_iconst (v := 0) hx hb dX10_first_4 (by decide) ?_
  refine lv_istore_n (lv' := [(3, .int 0), (2, .int 0), (1, .int (-1)), (0, .ref ob)]) hx hb dX10_first_5 rfl hl (by decide) rfl (fun ls hl => ?_)
  refine lv_iload_n hx hb dX10_first_6 rfl (lv_at hl 0 rfl) ?_
  refine lv_aload_n hx hb dX10_first_7 rfl (lv_at hl 3 rfl) ?_
  refine va_get (D := G) (ci := 10) (v := .ref wo) (C := RX10) (T := TX10) (N := 41) hx hb hw0 inA_wsX100 hown hK.1 hP 0 rfl rfl 1 (by decide) (hw0 _ m_132) (fun _ h9 => h9) rfl dX10_first_8 ?_
  refine lv_iconst (v := 0) hx hb dX10_first_11 (by decide) ?_
  refine va_iald hx hb hK.1 hP 1 1 rfl rfl (vp_in_nI (n := 0) (N := 9080) (by decide) (by decide)) dX10_first_12 ?_
  refine lv_topi (fun v_1 ev_1 => ?_)
  obtain rfl : 0 = v_1 := (ev_1.trans (z0)).symm
  refine lv_icmp_ge (tgt := 69) hx hb dX10_first_13 (by decide) (fun _ => ?_) (fun c9 => absurd (by decide) c9)
  refine lv_iload_n hx hb dX10_first_69 rfl (lv_at hl 2 rfl) ?_
  refine W.widen (k := 0) (n := 0) (Nat.le_of_ble_eq_true rfl) (Nat.le_of_ble_eq_true rfl) ?_
  exact W.iret (v := (-1)) hx hb hr (fun t ht hW => ⟨⟨(-1), _, rfl, rfl, by rw [ht]; exact hP, hD⟩, hS.F ht⟩) hS.2.2 dX10_first_70

set_option maxHeartbeats 4000000 in
set_option maxRecDepth 100000 in
theorem kX10_house (l : Launch) (G : va_G) (y : Nat → ClassId) (sz : Nat) (ob : Nat) (a1 : Int32) (a2 : Int32) (ob_0 : Value) (wo : Nat) (mi : Nat) (hm : Nat) (mt : Nat) (fv : Nat) (fr : Nat) (ob_15 : Value) (ob_16 : Value) (ob_17 : Value) (ob_18 : Value) (ob_19 : Value) (ob_20 : Value) (ob_21 : Value) (ob_22 : Value) (ob_23 : Value) (ob_24 : Value) (ob_25 : Value) (ob_26 : Value) (ob_27 : Value) (ob_28 : Value) (ob_29 : Value) (ob_30 : Value) (ob_31 : Value) (ob_32 : Value) (ob_33 : Value) (ob_34 : Value) (cd : Nat) (ob_36 : Value) (my : Nat) (wi : Nat) (nb : Nat) (mv : Nat) (fw : Nat → Int32) (z0 : fw 0 = 0) : Met l yX10_house (Cond.code yX10_house cX10_house 5 (some .int) :: wAll) ({ frames := 2, cells := 0, slots := 0, locals := 46 }) (va_Pc [.ref ob, .int a1, .int a2] (kp G y sz [(ob, .inr (10, [ob_0, .ref wo, .ref mi, .ref hm, .ref mt, .int 0, .ref fv, .int 0, .int 0, .int 0, .int 0, .int 0, .int 0, .int (-1), .ref fr, ob_15, ob_16, ob_17, ob_18, ob_19, ob_20, ob_21, ob_22, ob_23, ob_24, ob_25, ob_26, ob_27, ob_28, ob_29, ob_30, ob_31, ob_32, ob_33, ob_34, .ref cd, ob_36, .ref my, .ref wi, .ref nb, .ref mv])), (wo, .inl (y 1, 9080, .inl fw))])) (va_Qi (fun (r : Int32) (_ : va_W) => r = -2000000000) (kq G (va_A [(ob, .inr (10, [ob_0, .ref wo, .ref mi, .ref hm, .ref mt, .int 0, .ref fv, .int 0, .int 0, .int 0, .int 0, .int 0, .int 0, .int (-1), .ref fr, ob_15, ob_16, ob_17, ob_18, ob_19, ob_20, ob_21, ob_22, ob_23, ob_24, ob_25, ob_26, ob_27, ob_28, ob_29, ob_30, ob_31, ob_32, ob_33, ob_34, .ref cd, ob_36, .ref my, .ref wi, .ref nb, .ref mv])), (wo, .inl (y 1, 9080, .inl fw))] sz)) (va_A [(ob, .inr (10, [ob_0, .ref wo, .ref mi, .ref hm, .ref mt, .int 0, .ref fv, .int 0, .int 0, .int 0, .int 0, .int 0, .int 0, .int (-1), .ref fr, ob_15, ob_16, ob_17, ob_18, ob_19, ob_20, ob_21, ob_22, ob_23, ob_24, ob_25, ob_26, ob_27, ob_28, ob_29, ob_30, ob_31, ob_32, ob_33, ob_34, .ref cd, ob_36, .ref my, .ref wi, .ref nb, .ref mv])), (wo, .inl (y 1, 9080, .inl fw))] sz)) 0 0 (va_A [(ob, .inr (10, [ob_0, .ref wo, .ref mi, .ref hm, .ref mt, .int 0, .ref fv, .int 0, .int 0, .int 0, .int 0, .int 0, .int 0, .int (-1), .ref fr, ob_15, ob_16, ob_17, ob_18, ob_19, ob_20, ob_21, ob_22, ob_23, ob_24, ob_25, ob_26, ob_27, ob_28, ob_29, ob_30, ob_31, ob_32, ob_33, ob_34, .ref cd, ob_36, .ref my, .ref wi, .ref nb, .ref mv])), (wo, .inl (y 1, 9080, .inl fw))] sz) := by
  refine Met.ofW (cc := cX10_house) (maxL := 5) (ret := (some .int)) (by decide) rfl ?_
  intro p e s m args below meth c s₁ B hml hv
  obtain ⟨rfl, hsz, hP, hK, hD0⟩ := hv
  have hx := B.exec
  have hb := B.bytes
  have hr := B.returns
  have hw0 : ∀ w ∈ wAll, w.before _ s = true := fun w h => atoms_spec (ws := Cond.code yX10_house cX10_house 5 (some .int) :: wAll) B.pre w (List.mem_cons_of_mem _ h)
  have hown : s.vm.findClass RX10 = some m.cls := findClass_of_methodNamed B.named
  have hlocks := B.notSynchronized
  subst hsz
  have hD := hD0.self (sz := s.heap.size)
  generalize hAe : va_A [(ob, .inr (10, [ob_0, .ref wo, .ref mi, .ref hm, .ref mt, .int 0, .ref fv, .int 0, .int 0, .int 0, .int 0, .int 0, .int 0, .int (-1), .ref fr, ob_15, ob_16, ob_17, ob_18, ob_19, ob_20, ob_21, ob_22, ob_23, ob_24, ob_25, ob_26, ob_27, ob_28, ob_29, ob_30, ob_31, ob_32, ob_33, ob_34, .ref cd, ob_36, .ref my, .ref wi, .ref nb, .ref mv])), (wo, .inl (y 1, 9080, .inl fw))] s.heap.size = A at hD ⊢
  have hA : ∀ q : Nat, s.heap.size ≤ q → A q := fun q h => by rw [← hAe]; exact Or.inr h
  have hS : va_S A s.heap s.heap [] := va_S.rf
  have hP : va_P G vwCl [(ob, .inr (10, [ob_0, .ref wo, .ref mi, .ref hm, .ref mt, .int 0, .ref fv, .int 0, .int 0, .int 0, .int 0, .int 0, .int 0, .int (-1), .ref fr, ob_15, ob_16, ob_17, ob_18, ob_19, ob_20, ob_21, ob_22, ob_23, ob_24, ob_25, ob_26, ob_27, ob_28, ob_29, ob_30, ob_31, ob_32, ob_33, ob_34, .ref cd, ob_36, .ref my, .ref wi, .ref nb, .ref mv])), (wo, .inl (y 1, 9080, .inl fw))] s.heap := hP
  have hl := lv_entry ([.ref ob, .int a1, .int a2]) (n := 5) (Nat.le_of_ble_eq_true rfl)
  rw [lg_entry_eq]
  generalize (lg_sl ([.ref ob, .int a1, .int a2]) ++ List.replicate (5 - (lg_sl ([.ref ob, .int a1, .int a2])).length) Slot.unset).toArray = ls at hl ⊢
  have hl : lv_has ls 5 [(0, .ref ob), (1, .int a1), (2, .int a2)] := hl
  refine lv_aload_n hx hb dX10_house_0 rfl (lv_at hl 0 rfl) ?_
  refine lv_iload_n hx hb dX10_house_1 rfl (lv_at hl 1 rfl) ?_
  refine cVi (As := [.int a1]) (rest := []) ⟨hx, hb, hml, hown, hw0⟩ hA hK hP hD hS [0, 1] [] [(ob, .inr (10, [ob_0, .ref wo, .ref mi, .ref hm, .ref mt, .int 0, .ref fv, .int 0, .int 0, .int 0, .int 0, .int 0, .int 0, .int (-1), .ref fr, ob_15, ob_16, ob_17, ob_18, ob_19, ob_20, ob_21, ob_22, ob_23, ob_24, ob_25, ob_26, ob_27, ob_28, ob_29, ob_30, ob_31, ob_32, ob_33, ob_34, .ref cd, ob_36, .ref my, .ref wi, .ref nb, .ref mv])), (wo, .inl (y 1, 9080, .inl fw))] [] rfl rfl (by decide) (by decide) (by decide) (kX10_isHouse l G y _ ob a1 (ob_0) wo mi hm mt fv fr (ob_15) (ob_16) (ob_17) (ob_18) (ob_19) (ob_20) (ob_21) (ob_22) (ob_23) (ob_24) (ob_25) (ob_26) (ob_27) (ob_28) (ob_29) (ob_30) (ob_31) (ob_32) (ob_33) (ob_34) cd (ob_36) my wi nb mv fw z0) ⟨(callB_of 1 hw0 (gA m_356) rfl rfl rfl (hw0 _ m_166) (hw0 _ m_357) (by decide +kernel) ⟨Nat.le_of_ble_eq_true rfl, Nat.le_of_ble_eq_true rfl⟩), (hw0 _ m_358), (hw0 _ m_359)⟩ (ci := 10) (q := (RX10, TX10, 41)) rfl rfl rfl hl.1 (Nat.le_of_ble_eq_true rfl) dX10_house_2 ⟨Nat.le_of_ble_eq_true rfl, Nat.le_of_ble_eq_true rfl⟩ (fun r_1 w_1 H locs hw_1 hP hD hS => ?_)
  obtain ⟨rfl, rfl⟩ := hw_1
  have hP : va_P G vwCl [(ob, .inr (10, [ob_0, .ref wo, .ref mi, .ref hm, .ref mt, .int 0, .ref fv, .int 0, .int 0, .int 0, .int 0, .int 0, .int 0, .int (-1), .ref fr, ob_15, ob_16, ob_17, ob_18, ob_19, ob_20, ob_21, ob_22, ob_23, ob_24, ob_25, ob_26, ob_27, ob_28, ob_29, ob_30, ob_31, ob_32, ob_33, ob_34, .ref cd, ob_36, .ref my, .ref wi, .ref nb, .ref mv])), (wo, .inl (y 1, 9080, .inl fw))] H := hP
  have hD : va_D A [(ob, .inr (10, [ob_0, .ref wo, .ref mi, .ref hm, .ref mt, .int 0, .ref fv, .int 0, .int 0, .int 0, .int 0, .int 0, .int 0, .int (-1), .ref fr, ob_15, ob_16, ob_17, ob_18, ob_19, ob_20, ob_21, ob_22, ob_23, ob_24, ob_25, ob_26, ob_27, ob_28, ob_29, ob_30, ob_31, ob_32, ob_33, ob_34, .ref cd, ob_36, .ref my, .ref wi, .ref nb, .ref mv])), (wo, .inl (y 1, 9080, .inl fw))] := hD
  refine lv_if_eq (tgt := 20) hx hb dX10_house_5 (by decide) (fun _ => ?_) (fun c9 => absurd (by decide) c9)
  refine lv_ldcw (own := RX10) (v := (-2000000000)) hx hb hown (hw0 _ m_391) dX10_house_20 ?_
  refine W.widen (k := 0) (n := 0) (Nat.le_of_ble_eq_true rfl) (Nat.le_of_ble_eq_true rfl) ?_
  exact W.iret (v := (-2000000000)) hx hb hr (fun t ht hW => ⟨⟨(-2000000000), _, rfl, rfl, by rw [ht]; exact hP, hD⟩, hS.F ht⟩) hS.2.2 dX10_house_23

set_option maxHeartbeats 4000000 in
set_option maxRecDepth 100000 in
theorem kX10_end (l : Launch) (G : va_G) (y : Nat → ClassId) (sz : Nat) (ob : Nat) (a1 : Int32) (ob_0 : Value) (wo : Nat) (mi : Nat) (hm : Nat) (mt : Nat) (fv : Nat) (fr : Nat) (ob_15 : Value) (ob_16 : Value) (ob_17 : Value) (ob_18 : Value) (ob_19 : Value) (ob_20 : Value) (ob_21 : Value) (ob_22 : Value) (ob_23 : Value) (ob_24 : Value) (ob_25 : Value) (ob_26 : Value) (ob_27 : Value) (ob_28 : Value) (ob_29 : Value) (ob_30 : Value) (ob_31 : Value) (ob_32 : Value) (ob_33 : Value) (ob_34 : Value) (cd : Nat) (ob_36 : Value) (my : Nat) (wi : Nat) (nb : Nat) (mv : Nat)  : Met l yX10_end (Cond.code yX10_end cX10_end 2 (some .int) :: wAll) ({ frames := 1, cells := 0, slots := 0, locals := 25 }) (va_Pc [.ref ob, .int a1] (kp G y sz [(ob, .inr (10, [ob_0, .ref wo, .ref mi, .ref hm, .ref mt, .int 0, .ref fv, .int 0, .int 0, .int 0, .int 0, .int 0, .int 0, .int (-1), .ref fr, ob_15, ob_16, ob_17, ob_18, ob_19, ob_20, ob_21, ob_22, ob_23, ob_24, ob_25, ob_26, ob_27, ob_28, ob_29, ob_30, ob_31, ob_32, ob_33, ob_34, .ref cd, ob_36, .ref my, .ref wi, .ref nb, .ref mv]))])) (va_Qi (fun (r : Int32) (_ : va_W) => r = sp_end a1) (kq G (va_A [(ob, .inr (10, [ob_0, .ref wo, .ref mi, .ref hm, .ref mt, .int 0, .ref fv, .int 0, .int 0, .int 0, .int 0, .int 0, .int 0, .int (-1), .ref fr, ob_15, ob_16, ob_17, ob_18, ob_19, ob_20, ob_21, ob_22, ob_23, ob_24, ob_25, ob_26, ob_27, ob_28, ob_29, ob_30, ob_31, ob_32, ob_33, ob_34, .ref cd, ob_36, .ref my, .ref wi, .ref nb, .ref mv]))] sz)) (va_A [(ob, .inr (10, [ob_0, .ref wo, .ref mi, .ref hm, .ref mt, .int 0, .ref fv, .int 0, .int 0, .int 0, .int 0, .int 0, .int 0, .int (-1), .ref fr, ob_15, ob_16, ob_17, ob_18, ob_19, ob_20, ob_21, ob_22, ob_23, ob_24, ob_25, ob_26, ob_27, ob_28, ob_29, ob_30, ob_31, ob_32, ob_33, ob_34, .ref cd, ob_36, .ref my, .ref wi, .ref nb, .ref mv]))] sz)) 0 0 (va_A [(ob, .inr (10, [ob_0, .ref wo, .ref mi, .ref hm, .ref mt, .int 0, .ref fv, .int 0, .int 0, .int 0, .int 0, .int 0, .int 0, .int (-1), .ref fr, ob_15, ob_16, ob_17, ob_18, ob_19, ob_20, ob_21, ob_22, ob_23, ob_24, ob_25, ob_26, ob_27, ob_28, ob_29, ob_30, ob_31, ob_32, ob_33, ob_34, .ref cd, ob_36, .ref my, .ref wi, .ref nb, .ref mv]))] sz) := by
  refine Met.ofW (cc := cX10_end) (maxL := 2) (ret := (some .int)) (by decide) rfl ?_
  intro p e s m args below meth c s₁ B hml hv
  obtain ⟨rfl, hsz, hP, hK, hD0⟩ := hv
  have hx := B.exec
  have hb := B.bytes
  have hr := B.returns
  have hw0 : ∀ w ∈ wAll, w.before _ s = true := fun w h => atoms_spec (ws := Cond.code yX10_end cX10_end 2 (some .int) :: wAll) B.pre w (List.mem_cons_of_mem _ h)
  have hown : s.vm.findClass RX10 = some m.cls := findClass_of_methodNamed B.named
  have hlocks := B.notSynchronized
  subst hsz
  have hD := hD0.self (sz := s.heap.size)
  generalize hAe : va_A [(ob, .inr (10, [ob_0, .ref wo, .ref mi, .ref hm, .ref mt, .int 0, .ref fv, .int 0, .int 0, .int 0, .int 0, .int 0, .int 0, .int (-1), .ref fr, ob_15, ob_16, ob_17, ob_18, ob_19, ob_20, ob_21, ob_22, ob_23, ob_24, ob_25, ob_26, ob_27, ob_28, ob_29, ob_30, ob_31, ob_32, ob_33, ob_34, .ref cd, ob_36, .ref my, .ref wi, .ref nb, .ref mv]))] s.heap.size = A at hD ⊢
  have hA : ∀ q : Nat, s.heap.size ≤ q → A q := fun q h => by rw [← hAe]; exact Or.inr h
  have hS : va_S A s.heap s.heap [] := va_S.rf
  have hP : va_P G vwCl [(ob, .inr (10, [ob_0, .ref wo, .ref mi, .ref hm, .ref mt, .int 0, .ref fv, .int 0, .int 0, .int 0, .int 0, .int 0, .int 0, .int (-1), .ref fr, ob_15, ob_16, ob_17, ob_18, ob_19, ob_20, ob_21, ob_22, ob_23, ob_24, ob_25, ob_26, ob_27, ob_28, ob_29, ob_30, ob_31, ob_32, ob_33, ob_34, .ref cd, ob_36, .ref my, .ref wi, .ref nb, .ref mv]))] s.heap := hP
  have hl := lv_entry ([.ref ob, .int a1]) (n := 2) (Nat.le_of_ble_eq_true rfl)
  rw [lg_entry_eq]
  generalize (lg_sl ([.ref ob, .int a1]) ++ List.replicate (2 - (lg_sl ([.ref ob, .int a1])).length) Slot.unset).toArray = ls at hl ⊢
  have hl : lv_has ls 2 [(0, .ref ob), (1, .int a1)] := hl
  refine lv_iload_n hx hb dX10_end_0 rfl (lv_at hl 1 rfl) ?_
  refine lv_i2l hx hb dX10_end_1 rfl ?_
  refine lv_lconst (v := 0) hx hb dX10_end_2 (by decide) ?_
  refine lv_aload_n hx hb dX10_end_3 rfl (lv_at hl 0 rfl) ?_
  refine va_get (D := G) (ci := 10) (v := .int 0) (C := RX10) (T := TX10) (N := 41) hx hb hw0 inA_wsX100 hown hK.1 hP 0 rfl rfl 5 (by decide) (hw0 _ m_393) (fun _ h9 => h9) rfl dX10_end_4 ?_
  refine lv_i2l (v := 0) hx hb dX10_end_7 (by decide) ?_
  refine cSi (As := [.long (a1).toInt64, .long 0, .long 0]) (rest := []) ⟨hx, hb, hml, hown, hw0⟩ hA hK hP hD hS [] [0] [] [(ob, .inr (10, [ob_0, .ref wo, .ref mi, .ref hm, .ref mt, .int 0, .ref fv, .int 0, .int 0, .int 0, .int 0, .int 0, .int 0, .int (-1), .ref fr, ob_15, ob_16, ob_17, ob_18, ob_19, ob_20, ob_21, ob_22, ob_23, ob_24, ob_25, ob_26, ob_27, ob_28, ob_29, ob_30, ob_31, ob_32, ob_33, ob_34, .ref cd, ob_36, .ref my, .ref wi, .ref nb, .ref mv]))] rfl rfl (by decide) (by decide) (by decide) (kX10_in l G y _ ((a1).toInt64) 0 0 ) ⟨(callB_of 3 hw0 (gA m_164) rfl rfl rfl (hw0 _ m_166) (hw0 _ m_167) (by decide +kernel) ⟨Nat.le_of_ble_eq_true rfl, Nat.le_of_ble_eq_true rfl⟩), (hw0 _ m_168)⟩ rfl hl.1 (Nat.le_of_ble_eq_true rfl) dX10_end_8 ⟨Nat.le_of_ble_eq_true rfl, Nat.le_of_ble_eq_true rfl⟩ (fun r_1 w_1 H locs hw_1 hP hD hS => ?_)
  rcases hw_1 with ⟨c_2, rfl, rfl⟩ | ⟨c_3, rfl, rfl⟩
  · skip
    have tc_2 := in_1 (x := a1) (a := 0) (b := 0) c_2 (by decide) (by decide)
    have hP : va_P G vwCl [(ob, .inr (10, [ob_0, .ref wo, .ref mi, .ref hm, .ref mt, .int 0, .ref fv, .int 0, .int 0, .int 0, .int 0, .int 0, .int 0, .int (-1), .ref fr, ob_15, ob_16, ob_17, ob_18, ob_19, ob_20, ob_21, ob_22, ob_23, ob_24, ob_25, ob_26, ob_27, ob_28, ob_29, ob_30, ob_31, ob_32, ob_33, ob_34, .ref cd, ob_36, .ref my, .ref wi, .ref nb, .ref mv]))] H := hP
    have hD : va_D A [(ob, .inr (10, [ob_0, .ref wo, .ref mi, .ref hm, .ref mt, .int 0, .ref fv, .int 0, .int 0, .int 0, .int 0, .int 0, .int 0, .int (-1), .ref fr, ob_15, ob_16, ob_17, ob_18, ob_19, ob_20, ob_21, ob_22, ob_23, ob_24, ob_25, ob_26, ob_27, ob_28, ob_29, ob_30, ob_31, ob_32, ob_33, ob_34, .ref cd, ob_36, .ref my, .ref wi, .ref nb, .ref mv]))] := hD
    refine lv_if_ne (tgt := 16) hx hb dX10_end_11 (by decide) (fun _ => ?_) (fun c9 => absurd c9 (by decide))
    refine lv_aload_n hx hb dX10_end_16 rfl (lv_at hl 0 rfl) ?_
    refine lv_iload_n hx hb dX10_end_17 rfl (lv_at hl 1 rfl) ?_
    refine va_put (D := G) (ci := 10) (v := .int a1) (ty := .int) (C := RX10) (T := TX10) (N := 41) hx hb hw0 inA_wsX100 tyX10 tyX10_ok nmX10 hown hK.1 hP hD hS 0 rfl rfl 5 (by decide) (hw0 _ m_393) (fun _ h9 => h9) rfl (by decide +kernel) rfl rfl (Nat.le_of_ble_eq_true rfl) dX10_end_18 (fun H locs hP hD hS => ?_)
    have hP : va_P G vwCl [(ob, .inr (10, [ob_0, .ref wo, .ref mi, .ref hm, .ref mt, .int a1, .ref fv, .int 0, .int 0, .int 0, .int 0, .int 0, .int 0, .int (-1), .ref fr, ob_15, ob_16, ob_17, ob_18, ob_19, ob_20, ob_21, ob_22, ob_23, ob_24, ob_25, ob_26, ob_27, ob_28, ob_29, ob_30, ob_31, ob_32, ob_33, ob_34, .ref cd, ob_36, .ref my, .ref wi, .ref nb, .ref mv]))] H := hP
    have hD : va_D A [(ob, .inr (10, [ob_0, .ref wo, .ref mi, .ref hm, .ref mt, .int a1, .ref fv, .int 0, .int 0, .int 0, .int 0, .int 0, .int 0, .int (-1), .ref fr, ob_15, ob_16, ob_17, ob_18, ob_19, ob_20, ob_21, ob_22, ob_23, ob_24, ob_25, ob_26, ob_27, ob_28, ob_29, ob_30, ob_31, ob_32, ob_33, ob_34, .ref cd, ob_36, .ref my, .ref wi, .ref nb, .ref mv]))] := hD
    refine lv_iload_n hx hb dX10_end_21 rfl (lv_at hl 1 rfl) ?_
    refine W.widen (k := 0) (n := 0) (Nat.le_of_ble_eq_true rfl) (Nat.le_of_ble_eq_true rfl) ?_
    exact W.iret (v := a1) hx hb hr (fun t ht hW => ⟨⟨a1, _, rfl, (by first | rfl | decide | (simp only [sp_end]; (repeat' split) <;> first | rfl | (exfalso; omega))), by rw [ht]; exact hP, hD⟩, hS.F ht⟩) hS.2.2 dX10_end_22
  · skip
    have tc_3 := in_0 (x := a1) (a := 0) (b := 0) c_3 (by decide) (by decide)
    have hP : va_P G vwCl [(ob, .inr (10, [ob_0, .ref wo, .ref mi, .ref hm, .ref mt, .int 0, .ref fv, .int 0, .int 0, .int 0, .int 0, .int 0, .int 0, .int (-1), .ref fr, ob_15, ob_16, ob_17, ob_18, ob_19, ob_20, ob_21, ob_22, ob_23, ob_24, ob_25, ob_26, ob_27, ob_28, ob_29, ob_30, ob_31, ob_32, ob_33, ob_34, .ref cd, ob_36, .ref my, .ref wi, .ref nb, .ref mv]))] H := hP
    have hD : va_D A [(ob, .inr (10, [ob_0, .ref wo, .ref mi, .ref hm, .ref mt, .int 0, .ref fv, .int 0, .int 0, .int 0, .int 0, .int 0, .int 0, .int (-1), .ref fr, ob_15, ob_16, ob_17, ob_18, ob_19, ob_20, ob_21, ob_22, ob_23, ob_24, ob_25, ob_26, ob_27, ob_28, ob_29, ob_30, ob_31, ob_32, ob_33, ob_34, .ref cd, ob_36, .ref my, .ref wi, .ref nb, .ref mv]))] := hD
    refine lv_if_ne (tgt := 16) hx hb dX10_end_11 (by decide) (fun c9 => absurd (by decide) c9) (fun _ => ?_)
    refine lv_iconst (v := (-1)) hx hb dX10_end_14 (by decide) ?_
    refine W.widen (k := 0) (n := 0) (Nat.le_of_ble_eq_true rfl) (Nat.le_of_ble_eq_true rfl) ?_
    exact W.iret (v := (-1)) hx hb hr (fun t ht hW => ⟨⟨(-1), _, rfl, (by first | rfl | decide | (simp only [sp_end]; (repeat' split) <;> first | rfl | (exfalso; omega))), by rw [ht]; exact hP, hD⟩, hS.F ht⟩) hS.2.2 dX10_end_15

set_option maxHeartbeats 4000000 in
set_option maxRecDepth 100000 in
theorem kX10_fault (l : Launch) (G : va_G) (y : Nat → ClassId) (sz : Nat) (ob : Nat) (a1 : Int32) (ob_0 : Value) (wo : Nat) (mi : Nat) (hm : Nat) (mt : Nat) (fv : Nat) (fr : Nat) (ob_15 : Value) (ob_16 : Value) (ob_17 : Value) (ob_18 : Value) (ob_19 : Value) (ob_20 : Value) (ob_21 : Value) (ob_22 : Value) (ob_23 : Value) (ob_24 : Value) (ob_25 : Value) (ob_26 : Value) (ob_27 : Value) (ob_28 : Value) (ob_29 : Value) (ob_30 : Value) (ob_31 : Value) (ob_32 : Value) (ob_33 : Value) (ob_34 : Value) (cd : Nat) (ob_36 : Value) (my : Nat) (wi : Nat) (nb : Nat) (mv : Nat)  : Met l yX10_fault (Cond.code yX10_fault cX10_fault 2 (some .int) :: wAll) ({ frames := 0, cells := 0, slots := 0, locals := 0 }) (va_Pc [.ref ob, .int a1] (kp G y sz [(ob, .inr (10, [ob_0, .ref wo, .ref mi, .ref hm, .ref mt, .int 0, .ref fv, .int 0, .int 0, .int 0, .int 0, .int 0, .int 0, .int (-1), .ref fr, ob_15, ob_16, ob_17, ob_18, ob_19, ob_20, ob_21, ob_22, ob_23, ob_24, ob_25, ob_26, ob_27, ob_28, ob_29, ob_30, ob_31, ob_32, ob_33, ob_34, .ref cd, ob_36, .ref my, .ref wi, .ref nb, .ref mv]))])) (va_Qi (fun (r : Int32) (_ : va_W) => r = sp_fault a1) (kq G (va_A [(ob, .inr (10, [ob_0, .ref wo, .ref mi, .ref hm, .ref mt, .int 0, .ref fv, .int 0, .int 0, .int 0, .int 0, .int 0, .int 0, .int (-1), .ref fr, ob_15, ob_16, ob_17, ob_18, ob_19, ob_20, ob_21, ob_22, ob_23, ob_24, ob_25, ob_26, ob_27, ob_28, ob_29, ob_30, ob_31, ob_32, ob_33, ob_34, .ref cd, ob_36, .ref my, .ref wi, .ref nb, .ref mv]))] sz)) (va_A [(ob, .inr (10, [ob_0, .ref wo, .ref mi, .ref hm, .ref mt, .int 0, .ref fv, .int 0, .int 0, .int 0, .int 0, .int 0, .int 0, .int (-1), .ref fr, ob_15, ob_16, ob_17, ob_18, ob_19, ob_20, ob_21, ob_22, ob_23, ob_24, ob_25, ob_26, ob_27, ob_28, ob_29, ob_30, ob_31, ob_32, ob_33, ob_34, .ref cd, ob_36, .ref my, .ref wi, .ref nb, .ref mv]))] sz)) 0 0 (va_A [(ob, .inr (10, [ob_0, .ref wo, .ref mi, .ref hm, .ref mt, .int 0, .ref fv, .int 0, .int 0, .int 0, .int 0, .int 0, .int 0, .int (-1), .ref fr, ob_15, ob_16, ob_17, ob_18, ob_19, ob_20, ob_21, ob_22, ob_23, ob_24, ob_25, ob_26, ob_27, ob_28, ob_29, ob_30, ob_31, ob_32, ob_33, ob_34, .ref cd, ob_36, .ref my, .ref wi, .ref nb, .ref mv]))] sz) := by
  refine Met.ofW (cc := cX10_fault) (maxL := 2) (ret := (some .int)) (by decide) rfl ?_
  intro p e s m args below meth c s₁ B hml hv
  obtain ⟨rfl, hsz, hP, hK, hD0⟩ := hv
  have hx := B.exec
  have hb := B.bytes
  have hr := B.returns
  have hw0 : ∀ w ∈ wAll, w.before _ s = true := fun w h => atoms_spec (ws := Cond.code yX10_fault cX10_fault 2 (some .int) :: wAll) B.pre w (List.mem_cons_of_mem _ h)
  have hown : s.vm.findClass RX10 = some m.cls := findClass_of_methodNamed B.named
  have hlocks := B.notSynchronized
  subst hsz
  have hD := hD0.self (sz := s.heap.size)
  generalize hAe : va_A [(ob, .inr (10, [ob_0, .ref wo, .ref mi, .ref hm, .ref mt, .int 0, .ref fv, .int 0, .int 0, .int 0, .int 0, .int 0, .int 0, .int (-1), .ref fr, ob_15, ob_16, ob_17, ob_18, ob_19, ob_20, ob_21, ob_22, ob_23, ob_24, ob_25, ob_26, ob_27, ob_28, ob_29, ob_30, ob_31, ob_32, ob_33, ob_34, .ref cd, ob_36, .ref my, .ref wi, .ref nb, .ref mv]))] s.heap.size = A at hD ⊢
  have hA : ∀ q : Nat, s.heap.size ≤ q → A q := fun q h => by rw [← hAe]; exact Or.inr h
  have hS : va_S A s.heap s.heap [] := va_S.rf
  have hP : va_P G vwCl [(ob, .inr (10, [ob_0, .ref wo, .ref mi, .ref hm, .ref mt, .int 0, .ref fv, .int 0, .int 0, .int 0, .int 0, .int 0, .int 0, .int (-1), .ref fr, ob_15, ob_16, ob_17, ob_18, ob_19, ob_20, ob_21, ob_22, ob_23, ob_24, ob_25, ob_26, ob_27, ob_28, ob_29, ob_30, ob_31, ob_32, ob_33, ob_34, .ref cd, ob_36, .ref my, .ref wi, .ref nb, .ref mv]))] s.heap := hP
  have hl := lv_entry ([.ref ob, .int a1]) (n := 2) (Nat.le_of_ble_eq_true rfl)
  rw [lg_entry_eq]
  generalize (lg_sl ([.ref ob, .int a1]) ++ List.replicate (2 - (lg_sl ([.ref ob, .int a1])).length) Slot.unset).toArray = ls at hl ⊢
  have hl : lv_has ls 2 [(0, .ref ob), (1, .int a1)] := hl
  refine lv_iload_n hx hb dX10_fault_0 rfl (lv_at hl 1 rfl) ?_
  refine lv_if_ne (tgt := 11) hx hb dX10_fault_1 (by decide) (fun c_1 => ?_) (fun c_1 => ?_)
  · skip
    have tc_1 : (a1.toInt : Int) ≠ 0 := il_neq c_1 rfl (by decide)
    refine lv_iload_n hx hb dX10_fault_11 rfl (lv_at hl 1 rfl) ?_
    refine lv_iconst (v := 1) hx hb dX10_fault_12 (by decide) ?_
    refine lv_icmp_ne (tgt := 23) hx hb dX10_fault_13 (by decide) (fun c_2 => ?_) (fun c_2 => ?_)
    · skip
      have tc_2 : (a1.toInt : Int) ≠ 1 := il_neq c_2 rfl (by decide)
      refine lv_iconst (v := (-1)) hx hb dX10_fault_23 (by decide) ?_
      refine W.widen (k := 0) (n := 0) (Nat.le_of_ble_eq_true rfl) (Nat.le_of_ble_eq_true rfl) ?_
      exact W.iret (v := (-1)) hx hb hr (fun t ht hW => ⟨⟨(-1), _, rfl, (by first | rfl | decide | (simp only [sp_fault]; (repeat' split) <;> first | rfl | (exfalso; omega))), by rw [ht]; exact hP, hD⟩, hS.F ht⟩) hS.2.2 dX10_fault_24
    · skip
      have tc_2 : (a1.toInt : Int) = 1 := il_eq c_2 rfl (by decide)
      refine lv_aload_n hx hb dX10_fault_16 rfl (lv_at hl 0 rfl) ?_
      refine va_get (D := G) (ci := 10) (v := .int (-1)) (C := RX10) (T := TX10) (N := 41) hx hb hw0 inA_wsX100 hown hK.1 hP 0 rfl rfl 13 (by decide) (hw0 _ m_138) (fun _ h9 => h9) rfl dX10_fault_17 ?_
      refine lv_goto (tgt := 24) hx hb dX10_fault_20 (by decide) ?_
      refine W.widen (k := 0) (n := 0) (Nat.le_of_ble_eq_true rfl) (Nat.le_of_ble_eq_true rfl) ?_
      exact W.iret (v := (-1)) hx hb hr (fun t ht hW => ⟨⟨(-1), _, rfl, (by first | rfl | decide | (simp only [sp_fault]; (repeat' split) <;> first | rfl | (exfalso; omega))), by rw [ht]; exact hP, hD⟩, hS.F ht⟩) hS.2.2 dX10_fault_24
  · skip
    have tc_1 : (a1.toInt : Int) = 0 := il_eq c_1 rfl (by decide)
    refine lv_aload_n hx hb dX10_fault_4 rfl (lv_at hl 0 rfl) ?_
    refine va_get (D := G) (ci := 10) (v := .int 0) (C := RX10) (T := TX10) (N := 41) hx hb hw0 inA_wsX100 hown hK.1 hP 0 rfl rfl 12 (by decide) (hw0 _ m_395) (fun _ h9 => h9) rfl dX10_fault_5 ?_
    refine lv_goto (tgt := 24) hx hb dX10_fault_8 (by decide) ?_
    refine W.widen (k := 0) (n := 0) (Nat.le_of_ble_eq_true rfl) (Nat.le_of_ble_eq_true rfl) ?_
    exact W.iret (v := 0) hx hb hr (fun t ht hW => ⟨⟨0, _, rfl, (by first | rfl | decide | (simp only [sp_fault]; (repeat' split) <;> first | rfl | (exfalso; omega))), by rw [ht]; exact hP, hD⟩, hS.F ht⟩) hS.2.2 dX10_fault_24

set_option maxHeartbeats 4000000 in
set_option maxRecDepth 100000 in
theorem kX10_today (l : Launch) (G : va_G) (y : Nat → ClassId) (sz : Nat) (ob : Nat) (ob_0 : Value) (wo : Nat) (mi : Nat) (hm : Nat) (mt : Nat) (fv : Nat) (fr : Nat) (ob_15 : Value) (ob_16 : Value) (ob_17 : Value) (ob_18 : Value) (ob_19 : Value) (ob_20 : Value) (ob_21 : Value) (ob_22 : Value) (ob_23 : Value) (ob_24 : Value) (ob_25 : Value) (ob_26 : Value) (ob_27 : Value) (ob_28 : Value) (ob_29 : Value) (ob_30 : Value) (ob_31 : Value) (ob_32 : Value) (ob_33 : Value) (ob_34 : Value) (cd : Nat) (ob_36 : Value) (my : Nat) (wi : Nat) (nb : Nat) (mv : Nat) (fw : Nat → Int32) (d6 : Int32) (z6 : fw 6 = d6) : Met l yX10_today (Cond.code yX10_today cX10_today 1 (some .int) :: wAll) ({ frames := 0, cells := 0, slots := 0, locals := 0 }) (va_Pc [.ref ob] (kp G y sz [(ob, .inr (10, [ob_0, .ref wo, .ref mi, .ref hm, .ref mt, .int 0, .ref fv, .int 0, .int 0, .int 0, .int 0, .int 0, .int 0, .int (-1), .ref fr, ob_15, ob_16, ob_17, ob_18, ob_19, ob_20, ob_21, ob_22, ob_23, ob_24, ob_25, ob_26, ob_27, ob_28, ob_29, ob_30, ob_31, ob_32, ob_33, ob_34, .ref cd, ob_36, .ref my, .ref wi, .ref nb, .ref mv])), (wo, .inl (y 1, 9080, .inl fw))])) (va_Qi (fun (r : Int32) (w : va_W) => (r = d6 ∧ w = [(ob, .inr (10, [ob_0, .ref wo, .ref mi, .ref hm, .ref mt, .int 0, .ref fv, .int 0, .int 0, .int 0, .int 0, .int 0, .int 0, .int (-1), .ref fr, ob_15, ob_16, ob_17, ob_18, ob_19, ob_20, ob_21, ob_22, ob_23, ob_24, ob_25, ob_26, ob_27, ob_28, ob_29, ob_30, ob_31, ob_32, ob_33, ob_34, .ref cd, ob_36, .ref my, .ref wi, .ref nb, .ref mv])), (wo, .inl (y 1, 9080, .inl fw))])) (kq G (va_A [(ob, .inr (10, [ob_0, .ref wo, .ref mi, .ref hm, .ref mt, .int 0, .ref fv, .int 0, .int 0, .int 0, .int 0, .int 0, .int 0, .int (-1), .ref fr, ob_15, ob_16, ob_17, ob_18, ob_19, ob_20, ob_21, ob_22, ob_23, ob_24, ob_25, ob_26, ob_27, ob_28, ob_29, ob_30, ob_31, ob_32, ob_33, ob_34, .ref cd, ob_36, .ref my, .ref wi, .ref nb, .ref mv])), (wo, .inl (y 1, 9080, .inl fw))] sz)) (va_A [(ob, .inr (10, [ob_0, .ref wo, .ref mi, .ref hm, .ref mt, .int 0, .ref fv, .int 0, .int 0, .int 0, .int 0, .int 0, .int 0, .int (-1), .ref fr, ob_15, ob_16, ob_17, ob_18, ob_19, ob_20, ob_21, ob_22, ob_23, ob_24, ob_25, ob_26, ob_27, ob_28, ob_29, ob_30, ob_31, ob_32, ob_33, ob_34, .ref cd, ob_36, .ref my, .ref wi, .ref nb, .ref mv])), (wo, .inl (y 1, 9080, .inl fw))] sz)) 0 0 (va_A [(ob, .inr (10, [ob_0, .ref wo, .ref mi, .ref hm, .ref mt, .int 0, .ref fv, .int 0, .int 0, .int 0, .int 0, .int 0, .int 0, .int (-1), .ref fr, ob_15, ob_16, ob_17, ob_18, ob_19, ob_20, ob_21, ob_22, ob_23, ob_24, ob_25, ob_26, ob_27, ob_28, ob_29, ob_30, ob_31, ob_32, ob_33, ob_34, .ref cd, ob_36, .ref my, .ref wi, .ref nb, .ref mv])), (wo, .inl (y 1, 9080, .inl fw))] sz) := by
  refine Met.ofW (cc := cX10_today) (maxL := 1) (ret := (some .int)) (by decide) rfl ?_
  intro p e s m args below meth c s₁ B hml hv
  obtain ⟨rfl, hsz, hP, hK, hD0⟩ := hv
  have hx := B.exec
  have hb := B.bytes
  have hr := B.returns
  have hw0 : ∀ w ∈ wAll, w.before _ s = true := fun w h => atoms_spec (ws := Cond.code yX10_today cX10_today 1 (some .int) :: wAll) B.pre w (List.mem_cons_of_mem _ h)
  have hown : s.vm.findClass RX10 = some m.cls := findClass_of_methodNamed B.named
  have hlocks := B.notSynchronized
  subst hsz
  have hD := hD0.self (sz := s.heap.size)
  generalize hAe : va_A [(ob, .inr (10, [ob_0, .ref wo, .ref mi, .ref hm, .ref mt, .int 0, .ref fv, .int 0, .int 0, .int 0, .int 0, .int 0, .int 0, .int (-1), .ref fr, ob_15, ob_16, ob_17, ob_18, ob_19, ob_20, ob_21, ob_22, ob_23, ob_24, ob_25, ob_26, ob_27, ob_28, ob_29, ob_30, ob_31, ob_32, ob_33, ob_34, .ref cd, ob_36, .ref my, .ref wi, .ref nb, .ref mv])), (wo, .inl (y 1, 9080, .inl fw))] s.heap.size = A at hD ⊢
  have hA : ∀ q : Nat, s.heap.size ≤ q → A q := fun q h => by rw [← hAe]; exact Or.inr h
  have hS : va_S A s.heap s.heap [] := va_S.rf
  have hP : va_P G vwCl [(ob, .inr (10, [ob_0, .ref wo, .ref mi, .ref hm, .ref mt, .int 0, .ref fv, .int 0, .int 0, .int 0, .int 0, .int 0, .int 0, .int (-1), .ref fr, ob_15, ob_16, ob_17, ob_18, ob_19, ob_20, ob_21, ob_22, ob_23, ob_24, ob_25, ob_26, ob_27, ob_28, ob_29, ob_30, ob_31, ob_32, ob_33, ob_34, .ref cd, ob_36, .ref my, .ref wi, .ref nb, .ref mv])), (wo, .inl (y 1, 9080, .inl fw))] s.heap := hP
  have hl := lv_entry ([.ref ob]) (n := 1) (Nat.le_of_ble_eq_true rfl)
  rw [lg_entry_eq]
  generalize (lg_sl ([.ref ob]) ++ List.replicate (1 - (lg_sl ([.ref ob])).length) Slot.unset).toArray = ls at hl ⊢
  have hl : lv_has ls 1 [(0, .ref ob)] := hl
  refine lv_aload_n hx hb dX10_today_0 rfl (lv_at hl 0 rfl) ?_
  refine va_get (D := G) (ci := 10) (v := .ref wo) (C := RX10) (T := TX10) (N := 41) hx hb hw0 inA_wsX100 hown hK.1 hP 0 rfl rfl 1 (by decide) (hw0 _ m_132) (fun _ h9 => h9) rfl dX10_today_1 ?_
  refine lv_bipush (v := 6) hx hb dX10_today_4 (by decide) ?_
  refine va_iald hx hb hK.1 hP 1 1 rfl rfl (vp_in_nI (n := 6) (N := 9080) (by decide) (by decide)) dX10_today_6 ?_
  refine lv_topi (fun v_1 ev_1 => ?_)
  obtain rfl : d6 = v_1 := (ev_1.trans (z6)).symm
  refine W.widen (k := 0) (n := 0) (Nat.le_of_ble_eq_true rfl) (Nat.le_of_ble_eq_true rfl) ?_
  exact W.iret (v := d6) hx hb hr (fun t ht hW => ⟨⟨d6, ([(ob, .inr (10, [ob_0, .ref wo, .ref mi, .ref hm, .ref mt, .int 0, .ref fv, .int 0, .int 0, .int 0, .int 0, .int 0, .int 0, .int (-1), .ref fr, ob_15, ob_16, ob_17, ob_18, ob_19, ob_20, ob_21, ob_22, ob_23, ob_24, ob_25, ob_26, ob_27, ob_28, ob_29, ob_30, ob_31, ob_32, ob_33, ob_34, .ref cd, ob_36, .ref my, .ref wi, .ref nb, .ref mv])), (wo, .inl (y 1, 9080, .inl fw))] : va_W), rfl, ⟨rfl, rfl⟩, by rw [ht]; exact hP, hD⟩, hS.F ht⟩) hS.2.2 dX10_today_7

set_option maxHeartbeats 4000000 in
set_option maxRecDepth 100000 in
theorem kX10_days (l : Launch) (G : va_G) (y : Nat → ClassId) (sz : Nat) (ob : Nat) (a1 : Int32) (ob_0 : Value) (wo : Nat) (mi : Nat) (hm : Nat) (mt : Nat) (fv : Nat) (fr : Nat) (ob_15 : Value) (ob_16 : Value) (ob_17 : Value) (ob_18 : Value) (ob_19 : Value) (ob_20 : Value) (ob_21 : Value) (ob_22 : Value) (ob_23 : Value) (ob_24 : Value) (ob_25 : Value) (ob_26 : Value) (ob_27 : Value) (ob_28 : Value) (ob_29 : Value) (ob_30 : Value) (ob_31 : Value) (ob_32 : Value) (ob_33 : Value) (ob_34 : Value) (cd : Nat) (ob_36 : Value) (my : Nat) (wi : Nat) (nb : Nat) (mv : Nat) (fw : Nat → Int32) (z6 : fw 6 = 0) : Met l yX10_days (Cond.code yX10_days cX10_days 2 (some .int) :: wAll) ({ frames := 1, cells := 0, slots := 0, locals := 25 }) (va_Pc [.ref ob, .int a1] (kp G y sz [(ob, .inr (10, [ob_0, .ref wo, .ref mi, .ref hm, .ref mt, .int 0, .ref fv, .int 0, .int 0, .int 0, .int 0, .int 0, .int 0, .int (-1), .ref fr, ob_15, ob_16, ob_17, ob_18, ob_19, ob_20, ob_21, ob_22, ob_23, ob_24, ob_25, ob_26, ob_27, ob_28, ob_29, ob_30, ob_31, ob_32, ob_33, ob_34, .ref cd, ob_36, .ref my, .ref wi, .ref nb, .ref mv])), (wo, .inl (y 1, 9080, .inl fw))])) (va_Qi (fun (r : Int32) (_ : va_W) => r = sp_days a1) (kq G (va_A [(ob, .inr (10, [ob_0, .ref wo, .ref mi, .ref hm, .ref mt, .int 0, .ref fv, .int 0, .int 0, .int 0, .int 0, .int 0, .int 0, .int (-1), .ref fr, ob_15, ob_16, ob_17, ob_18, ob_19, ob_20, ob_21, ob_22, ob_23, ob_24, ob_25, ob_26, ob_27, ob_28, ob_29, ob_30, ob_31, ob_32, ob_33, ob_34, .ref cd, ob_36, .ref my, .ref wi, .ref nb, .ref mv])), (wo, .inl (y 1, 9080, .inl fw))] sz)) (va_A [(ob, .inr (10, [ob_0, .ref wo, .ref mi, .ref hm, .ref mt, .int 0, .ref fv, .int 0, .int 0, .int 0, .int 0, .int 0, .int 0, .int (-1), .ref fr, ob_15, ob_16, ob_17, ob_18, ob_19, ob_20, ob_21, ob_22, ob_23, ob_24, ob_25, ob_26, ob_27, ob_28, ob_29, ob_30, ob_31, ob_32, ob_33, ob_34, .ref cd, ob_36, .ref my, .ref wi, .ref nb, .ref mv])), (wo, .inl (y 1, 9080, .inl fw))] sz)) 0 0 (va_A [(ob, .inr (10, [ob_0, .ref wo, .ref mi, .ref hm, .ref mt, .int 0, .ref fv, .int 0, .int 0, .int 0, .int 0, .int 0, .int 0, .int (-1), .ref fr, ob_15, ob_16, ob_17, ob_18, ob_19, ob_20, ob_21, ob_22, ob_23, ob_24, ob_25, ob_26, ob_27, ob_28, ob_29, ob_30, ob_31, ob_32, ob_33, ob_34, .ref cd, ob_36, .ref my, .ref wi, .ref nb, .ref mv])), (wo, .inl (y 1, 9080, .inl fw))] sz) := by
  refine Met.ofW (cc := cX10_days) (maxL := 2) (ret := (some .int)) (by decide) rfl ?_
  intro p e s m args below meth c s₁ B hml hv
  obtain ⟨rfl, hsz, hP, hK, hD0⟩ := hv
  have hx := B.exec
  have hb := B.bytes
  have hr := B.returns
  have hw0 : ∀ w ∈ wAll, w.before _ s = true := fun w h => atoms_spec (ws := Cond.code yX10_days cX10_days 2 (some .int) :: wAll) B.pre w (List.mem_cons_of_mem _ h)
  have hown : s.vm.findClass RX10 = some m.cls := findClass_of_methodNamed B.named
  have hlocks := B.notSynchronized
  subst hsz
  have hD := hD0.self (sz := s.heap.size)
  generalize hAe : va_A [(ob, .inr (10, [ob_0, .ref wo, .ref mi, .ref hm, .ref mt, .int 0, .ref fv, .int 0, .int 0, .int 0, .int 0, .int 0, .int 0, .int (-1), .ref fr, ob_15, ob_16, ob_17, ob_18, ob_19, ob_20, ob_21, ob_22, ob_23, ob_24, ob_25, ob_26, ob_27, ob_28, ob_29, ob_30, ob_31, ob_32, ob_33, ob_34, .ref cd, ob_36, .ref my, .ref wi, .ref nb, .ref mv])), (wo, .inl (y 1, 9080, .inl fw))] s.heap.size = A at hD ⊢
  have hA : ∀ q : Nat, s.heap.size ≤ q → A q := fun q h => by rw [← hAe]; exact Or.inr h
  have hS : va_S A s.heap s.heap [] := va_S.rf
  have hP : va_P G vwCl [(ob, .inr (10, [ob_0, .ref wo, .ref mi, .ref hm, .ref mt, .int 0, .ref fv, .int 0, .int 0, .int 0, .int 0, .int 0, .int 0, .int (-1), .ref fr, ob_15, ob_16, ob_17, ob_18, ob_19, ob_20, ob_21, ob_22, ob_23, ob_24, ob_25, ob_26, ob_27, ob_28, ob_29, ob_30, ob_31, ob_32, ob_33, ob_34, .ref cd, ob_36, .ref my, .ref wi, .ref nb, .ref mv])), (wo, .inl (y 1, 9080, .inl fw))] s.heap := hP
  have hl := lv_entry ([.ref ob, .int a1]) (n := 2) (Nat.le_of_ble_eq_true rfl)
  rw [lg_entry_eq]
  generalize (lg_sl ([.ref ob, .int a1]) ++ List.replicate (2 - (lg_sl ([.ref ob, .int a1])).length) Slot.unset).toArray = ls at hl ⊢
  have hl : lv_has ls 2 [(0, .ref ob), (1, .int a1)] := hl
  refine lv_iload_n hx hb dX10_days_0 rfl (lv_at hl 1 rfl) ?_
  refine lv_i2l hx hb dX10_days_1 rfl ?_
  refine lv_lconst (v := 0) hx hb dX10_days_2 (by decide) ?_
  refine lv_ldc2 (own := RX10) (v := 60) hx hb hown (hw0 _ m_398) dX10_days_3 ?_
  refine cSi (As := [.long (a1).toInt64, .long 0, .long 60]) (rest := []) ⟨hx, hb, hml, hown, hw0⟩ hA hK hP hD hS [] [0, 1] [] [(ob, .inr (10, [ob_0, .ref wo, .ref mi, .ref hm, .ref mt, .int 0, .ref fv, .int 0, .int 0, .int 0, .int 0, .int 0, .int 0, .int (-1), .ref fr, ob_15, ob_16, ob_17, ob_18, ob_19, ob_20, ob_21, ob_22, ob_23, ob_24, ob_25, ob_26, ob_27, ob_28, ob_29, ob_30, ob_31, ob_32, ob_33, ob_34, .ref cd, ob_36, .ref my, .ref wi, .ref nb, .ref mv])), (wo, .inl (y 1, 9080, .inl fw))] rfl rfl (by decide) (by decide) (by decide) (kX10_in l G y _ ((a1).toInt64) 0 60 ) ⟨(callB_of 3 hw0 (gA m_164) rfl rfl rfl (hw0 _ m_166) (hw0 _ m_167) (by decide +kernel) ⟨Nat.le_of_ble_eq_true rfl, Nat.le_of_ble_eq_true rfl⟩), (hw0 _ m_168)⟩ rfl hl.1 (Nat.le_of_ble_eq_true rfl) dX10_days_6 ⟨Nat.le_of_ble_eq_true rfl, Nat.le_of_ble_eq_true rfl⟩ (fun r_1 w_1 H locs hw_1 hP hD hS => ?_)
  rcases hw_1 with ⟨c_2, rfl, rfl⟩ | ⟨c_3, rfl, rfl⟩
  · skip
    have tc_2 := in_1 (x := a1) (a := 0) (b := 60) c_2 (by decide) (by decide)
    have hP : va_P G vwCl [(ob, .inr (10, [ob_0, .ref wo, .ref mi, .ref hm, .ref mt, .int 0, .ref fv, .int 0, .int 0, .int 0, .int 0, .int 0, .int 0, .int (-1), .ref fr, ob_15, ob_16, ob_17, ob_18, ob_19, ob_20, ob_21, ob_22, ob_23, ob_24, ob_25, ob_26, ob_27, ob_28, ob_29, ob_30, ob_31, ob_32, ob_33, ob_34, .ref cd, ob_36, .ref my, .ref wi, .ref nb, .ref mv])), (wo, .inl (y 1, 9080, .inl fw))] H := hP
    have hD : va_D A [(ob, .inr (10, [ob_0, .ref wo, .ref mi, .ref hm, .ref mt, .int 0, .ref fv, .int 0, .int 0, .int 0, .int 0, .int 0, .int 0, .int (-1), .ref fr, ob_15, ob_16, ob_17, ob_18, ob_19, ob_20, ob_21, ob_22, ob_23, ob_24, ob_25, ob_26, ob_27, ob_28, ob_29, ob_30, ob_31, ob_32, ob_33, ob_34, .ref cd, ob_36, .ref my, .ref wi, .ref nb, .ref mv])), (wo, .inl (y 1, 9080, .inl fw))] := hD
    refine lv_if_eq (tgt := 24) hx hb dX10_days_9 (by decide) (fun c9 => absurd c9 (by decide)) (fun _ => ?_)
    refine lv_aload_n hx hb dX10_days_12 rfl (lv_at hl 0 rfl) ?_
    refine cVi (As := []) (rest := []) ⟨hx, hb, hml, hown, hw0⟩ hA hK hP hD hS [0, 1] [] [(ob, .inr (10, [ob_0, .ref wo, .ref mi, .ref hm, .ref mt, .int 0, .ref fv, .int 0, .int 0, .int 0, .int 0, .int 0, .int 0, .int (-1), .ref fr, ob_15, ob_16, ob_17, ob_18, ob_19, ob_20, ob_21, ob_22, ob_23, ob_24, ob_25, ob_26, ob_27, ob_28, ob_29, ob_30, ob_31, ob_32, ob_33, ob_34, .ref cd, ob_36, .ref my, .ref wi, .ref nb, .ref mv])), (wo, .inl (y 1, 9080, .inl fw))] [] rfl rfl (by decide) (by decide) (by decide) (kX10_today l G y _ ob (ob_0) wo mi hm mt fv fr (ob_15) (ob_16) (ob_17) (ob_18) (ob_19) (ob_20) (ob_21) (ob_22) (ob_23) (ob_24) (ob_25) (ob_26) (ob_27) (ob_28) (ob_29) (ob_30) (ob_31) (ob_32) (ob_33) (ob_34) cd (ob_36) my wi nb mv fw 0 z6) ⟨(callB_of 0 hw0 (gA m_397) rfl rfl rfl (hw0 _ m_166) (hw0 _ m_399) (by decide +kernel) ⟨Nat.le_of_ble_eq_true rfl, Nat.le_of_ble_eq_true rfl⟩), (hw0 _ m_400), (hw0 _ m_401)⟩ (ci := 10) (q := (RX10, TX10, 41)) rfl rfl rfl hl.1 (Nat.le_of_ble_eq_true rfl) dX10_days_13 ⟨Nat.le_of_ble_eq_true rfl, Nat.le_of_ble_eq_true rfl⟩ (fun r_4 w_4 H locs hw_4 hP hD hS => ?_)
    obtain ⟨rfl, rfl⟩ := hw_4
    have hP : va_P G vwCl [(ob, .inr (10, [ob_0, .ref wo, .ref mi, .ref hm, .ref mt, .int 0, .ref fv, .int 0, .int 0, .int 0, .int 0, .int 0, .int 0, .int (-1), .ref fr, ob_15, ob_16, ob_17, ob_18, ob_19, ob_20, ob_21, ob_22, ob_23, ob_24, ob_25, ob_26, ob_27, ob_28, ob_29, ob_30, ob_31, ob_32, ob_33, ob_34, .ref cd, ob_36, .ref my, .ref wi, .ref nb, .ref mv])), (wo, .inl (y 1, 9080, .inl fw))] H := hP
    have hD : va_D A [(ob, .inr (10, [ob_0, .ref wo, .ref mi, .ref hm, .ref mt, .int 0, .ref fv, .int 0, .int 0, .int 0, .int 0, .int 0, .int 0, .int (-1), .ref fr, ob_15, ob_16, ob_17, ob_18, ob_19, ob_20, ob_21, ob_22, ob_23, ob_24, ob_25, ob_26, ob_27, ob_28, ob_29, ob_30, ob_31, ob_32, ob_33, ob_34, .ref cd, ob_36, .ref my, .ref wi, .ref nb, .ref mv])), (wo, .inl (y 1, 9080, .inl fw))] := hD
    refine lv_iload_n hx hb dX10_days_16 rfl (lv_at hl 1 rfl) ?_
    refine lv_iadd hx hb dX10_days_17 ?_
    refine lv_topi (fun v_5 ev_5 => ?_)
    obtain rfl : a1 = v_5 := (ev_5.trans (Int32.zero_add _)).symm
    refine lv_sipush (v := 399) hx hb dX10_days_18 (by decide) ?_
    refine lv_icmp_le (tgt := 27) hx hb dX10_days_21 (by decide) (fun _ => ?_) (fun c9 => absurd (ir_le (a := a1.toInt) rfl (b := 399) (by decide) (by omega)) c9)
    refine lv_aload_n hx hb dX10_days_27 rfl (lv_at hl 0 rfl) ?_
    refine va_get (D := G) (ci := 10) (v := .ref wo) (C := RX10) (T := TX10) (N := 41) hx hb hw0 inA_wsX100 hown hK.1 hP 0 rfl rfl 1 (by decide) (hw0 _ m_132) (fun _ h9 => h9) rfl dX10_days_28 ?_
    refine lv_bipush (v := 6) hx hb dX10_days_31 (by decide) ?_
    refine lv_dup2_11 hx hb dX10_days_33 rfl rfl ?_
    refine va_iald hx hb hK.1 hP 1 1 rfl rfl (vp_in_nI (n := 6) (N := 9080) (by decide) (by decide)) dX10_days_34 ?_
    refine lv_topi (fun v_6 ev_6 => ?_)
    obtain rfl : 0 = v_6 := (ev_6.trans (z6)).symm
    refine lv_iload_n hx hb dX10_days_35 rfl (lv_at hl 1 rfl) ?_
    refine lv_iadd hx hb dX10_days_36 ?_
    refine lv_topi (fun v_7 ev_7 => ?_)
    obtain rfl : a1 = v_7 := (ev_7.trans (Int32.zero_add _)).symm
    refine va_iast hx hb hK.1 hP hD hS 1 1 rfl rfl (vp_in_nI (n := 6) (N := 9080) (by decide) (by decide)) dX10_days_37 (fun H locs hP hD hS => ?_)
    have hP : va_P G vwCl [(ob, .inr (10, [ob_0, .ref wo, .ref mi, .ref hm, .ref mt, .int 0, .ref fv, .int 0, .int 0, .int 0, .int 0, .int 0, .int 0, .int (-1), .ref fr, ob_15, ob_16, ob_17, ob_18, ob_19, ob_20, ob_21, ob_22, ob_23, ob_24, ob_25, ob_26, ob_27, ob_28, ob_29, ob_30, ob_31, ob_32, ob_33, ob_34, .ref cd, ob_36, .ref my, .ref wi, .ref nb, .ref mv])), (wo, .inl (y 1, 9080, .inl (upd fw 6 a1)))] H := hP
    have hD : va_D A [(ob, .inr (10, [ob_0, .ref wo, .ref mi, .ref hm, .ref mt, .int 0, .ref fv, .int 0, .int 0, .int 0, .int 0, .int 0, .int 0, .int (-1), .ref fr, ob_15, ob_16, ob_17, ob_18, ob_19, ob_20, ob_21, ob_22, ob_23, ob_24, ob_25, ob_26, ob_27, ob_28, ob_29, ob_30, ob_31, ob_32, ob_33, ob_34, .ref cd, ob_36, .ref my, .ref wi, .ref nb, .ref mv])), (wo, .inl (y 1, 9080, .inl (upd fw 6 a1)))] := hD
    refine lv_aload_n hx hb dX10_days_38 rfl (lv_at hl 0 rfl) ?_
    refine cVi (As := []) (rest := []) ⟨hx, hb, hml, hown, hw0⟩ hA hK hP hD hS [0, 1] [] [(ob, .inr (10, [ob_0, .ref wo, .ref mi, .ref hm, .ref mt, .int 0, .ref fv, .int 0, .int 0, .int 0, .int 0, .int 0, .int 0, .int (-1), .ref fr, ob_15, ob_16, ob_17, ob_18, ob_19, ob_20, ob_21, ob_22, ob_23, ob_24, ob_25, ob_26, ob_27, ob_28, ob_29, ob_30, ob_31, ob_32, ob_33, ob_34, .ref cd, ob_36, .ref my, .ref wi, .ref nb, .ref mv])), (wo, .inl (y 1, 9080, .inl (upd fw 6 a1)))] [] rfl rfl (by decide) (by decide) (by decide) (kX10_today l G y _ ob (ob_0) wo mi hm mt fv fr (ob_15) (ob_16) (ob_17) (ob_18) (ob_19) (ob_20) (ob_21) (ob_22) (ob_23) (ob_24) (ob_25) (ob_26) (ob_27) (ob_28) (ob_29) (ob_30) (ob_31) (ob_32) (ob_33) (ob_34) cd (ob_36) my wi nb mv (upd fw 6 a1) a1 rfl) ⟨(callB_of 0 hw0 (gA m_397) rfl rfl rfl (hw0 _ m_166) (hw0 _ m_399) (by decide +kernel) ⟨Nat.le_of_ble_eq_true rfl, Nat.le_of_ble_eq_true rfl⟩), (hw0 _ m_400), (hw0 _ m_401)⟩ (ci := 10) (q := (RX10, TX10, 41)) rfl rfl rfl hl.1 (Nat.le_of_ble_eq_true rfl) dX10_days_39 ⟨Nat.le_of_ble_eq_true rfl, Nat.le_of_ble_eq_true rfl⟩ (fun r_8 w_8 H locs hw_8 hP hD hS => ?_)
    obtain ⟨er_8, rfl⟩ := hw_8
    subst r_8
    have hP : va_P G vwCl [(ob, .inr (10, [ob_0, .ref wo, .ref mi, .ref hm, .ref mt, .int 0, .ref fv, .int 0, .int 0, .int 0, .int 0, .int 0, .int 0, .int (-1), .ref fr, ob_15, ob_16, ob_17, ob_18, ob_19, ob_20, ob_21, ob_22, ob_23, ob_24, ob_25, ob_26, ob_27, ob_28, ob_29, ob_30, ob_31, ob_32, ob_33, ob_34, .ref cd, ob_36, .ref my, .ref wi, .ref nb, .ref mv])), (wo, .inl (y 1, 9080, .inl (upd fw 6 a1)))] H := hP
    have hD : va_D A [(ob, .inr (10, [ob_0, .ref wo, .ref mi, .ref hm, .ref mt, .int 0, .ref fv, .int 0, .int 0, .int 0, .int 0, .int 0, .int 0, .int (-1), .ref fr, ob_15, ob_16, ob_17, ob_18, ob_19, ob_20, ob_21, ob_22, ob_23, ob_24, ob_25, ob_26, ob_27, ob_28, ob_29, ob_30, ob_31, ob_32, ob_33, ob_34, .ref cd, ob_36, .ref my, .ref wi, .ref nb, .ref mv])), (wo, .inl (y 1, 9080, .inl (upd fw 6 a1)))] := hD
    refine W.widen (k := 0) (n := 0) (Nat.le_of_ble_eq_true rfl) (Nat.le_of_ble_eq_true rfl) ?_
    exact W.iret (v := a1) hx hb hr (fun t ht hW => ⟨⟨a1, _, rfl, (by first | rfl | decide | (simp only [sp_days]; (repeat' split) <;> first | rfl | (exfalso; omega))), by rw [ht]; exact hP, hD⟩, hS.F ht⟩) hS.2.2 dX10_days_42
  · skip
    have tc_3 := in_0 (x := a1) (a := 0) (b := 60) c_3 (by decide) (by decide)
    have hP : va_P G vwCl [(ob, .inr (10, [ob_0, .ref wo, .ref mi, .ref hm, .ref mt, .int 0, .ref fv, .int 0, .int 0, .int 0, .int 0, .int 0, .int 0, .int (-1), .ref fr, ob_15, ob_16, ob_17, ob_18, ob_19, ob_20, ob_21, ob_22, ob_23, ob_24, ob_25, ob_26, ob_27, ob_28, ob_29, ob_30, ob_31, ob_32, ob_33, ob_34, .ref cd, ob_36, .ref my, .ref wi, .ref nb, .ref mv])), (wo, .inl (y 1, 9080, .inl fw))] H := hP
    have hD : va_D A [(ob, .inr (10, [ob_0, .ref wo, .ref mi, .ref hm, .ref mt, .int 0, .ref fv, .int 0, .int 0, .int 0, .int 0, .int 0, .int 0, .int (-1), .ref fr, ob_15, ob_16, ob_17, ob_18, ob_19, ob_20, ob_21, ob_22, ob_23, ob_24, ob_25, ob_26, ob_27, ob_28, ob_29, ob_30, ob_31, ob_32, ob_33, ob_34, .ref cd, ob_36, .ref my, .ref wi, .ref nb, .ref mv])), (wo, .inl (y 1, 9080, .inl fw))] := hD
    refine lv_if_eq (tgt := 24) hx hb dX10_days_9 (by decide) (fun _ => ?_) (fun c9 => absurd (by decide) c9)
    refine lv_bipush (v := (-2)) hx hb dX10_days_24 (by decide) ?_
    refine W.widen (k := 0) (n := 0) (Nat.le_of_ble_eq_true rfl) (Nat.le_of_ble_eq_true rfl) ?_
    exact W.iret (v := (-2)) hx hb hr (fun t ht hW => ⟨⟨(-2), _, rfl, (by first | rfl | decide | (simp only [sp_days]; (repeat' split) <;> first | rfl | (exfalso; omega))), by rw [ht]; exact hP, hD⟩, hS.F ht⟩) hS.2.2 dX10_days_26

set_option maxHeartbeats 4000000 in
set_option maxRecDepth 100000 in
theorem kX10_beside (l : Launch) (G : va_G) (y : Nat → ClassId) (sz : Nat) (ob : Nat) (a1 : Int32) (ob_0 : Value) (wo : Nat) (mi : Nat) (hm : Nat) (mt : Nat) (fv : Nat) (fr : Nat) (ob_15 : Value) (ob_16 : Value) (ob_17 : Value) (ob_18 : Value) (ob_19 : Value) (ob_20 : Value) (ob_21 : Value) (ob_22 : Value) (ob_23 : Value) (ob_24 : Value) (ob_25 : Value) (ob_26 : Value) (ob_27 : Value) (ob_28 : Value) (ob_29 : Value) (ob_30 : Value) (ob_31 : Value) (ob_32 : Value) (ob_33 : Value) (ob_34 : Value) (cd : Nat) (ob_36 : Value) (my : Nat) (wi : Nat) (nb : Nat) (mv : Nat)  : Met l yX10_beside (Cond.code yX10_beside cX10_beside 5 (some .int) :: wAll) ({ frames := 1, cells := 0, slots := 0, locals := 25 }) (va_Pc [.ref ob, .int a1] (kp G y sz [(ob, .inr (10, [ob_0, .ref wo, .ref mi, .ref hm, .ref mt, .int 0, .ref fv, .int 0, .int 0, .int 0, .int 0, .int 0, .int 0, .int (-1), .ref fr, ob_15, ob_16, ob_17, ob_18, ob_19, ob_20, ob_21, ob_22, ob_23, ob_24, ob_25, ob_26, ob_27, ob_28, ob_29, ob_30, ob_31, ob_32, ob_33, ob_34, .ref cd, ob_36, .ref my, .ref wi, .ref nb, .ref mv])), (hm, .inl (y 3, 3, .inl (fun _ => 0)))])) (va_Qi (fun (r : Int32) (_ : va_W) => r = sp_image a1) (kq G (va_A [(ob, .inr (10, [ob_0, .ref wo, .ref mi, .ref hm, .ref mt, .int 0, .ref fv, .int 0, .int 0, .int 0, .int 0, .int 0, .int 0, .int (-1), .ref fr, ob_15, ob_16, ob_17, ob_18, ob_19, ob_20, ob_21, ob_22, ob_23, ob_24, ob_25, ob_26, ob_27, ob_28, ob_29, ob_30, ob_31, ob_32, ob_33, ob_34, .ref cd, ob_36, .ref my, .ref wi, .ref nb, .ref mv])), (hm, .inl (y 3, 3, .inl (fun _ => 0)))] sz)) (va_A [(ob, .inr (10, [ob_0, .ref wo, .ref mi, .ref hm, .ref mt, .int 0, .ref fv, .int 0, .int 0, .int 0, .int 0, .int 0, .int 0, .int (-1), .ref fr, ob_15, ob_16, ob_17, ob_18, ob_19, ob_20, ob_21, ob_22, ob_23, ob_24, ob_25, ob_26, ob_27, ob_28, ob_29, ob_30, ob_31, ob_32, ob_33, ob_34, .ref cd, ob_36, .ref my, .ref wi, .ref nb, .ref mv])), (hm, .inl (y 3, 3, .inl (fun _ => 0)))] sz)) 0 0 (va_A [(ob, .inr (10, [ob_0, .ref wo, .ref mi, .ref hm, .ref mt, .int 0, .ref fv, .int 0, .int 0, .int 0, .int 0, .int 0, .int 0, .int (-1), .ref fr, ob_15, ob_16, ob_17, ob_18, ob_19, ob_20, ob_21, ob_22, ob_23, ob_24, ob_25, ob_26, ob_27, ob_28, ob_29, ob_30, ob_31, ob_32, ob_33, ob_34, .ref cd, ob_36, .ref my, .ref wi, .ref nb, .ref mv])), (hm, .inl (y 3, 3, .inl (fun _ => 0)))] sz) := by
  refine Met.ofW (cc := cX10_beside) (maxL := 5) (ret := (some .int)) (by decide) rfl ?_
  intro p e s m args below meth c s₁ B hml hv
  obtain ⟨rfl, hsz, hP, hK, hD0⟩ := hv
  have hx := B.exec
  have hb := B.bytes
  have hr := B.returns
  have hw0 : ∀ w ∈ wAll, w.before _ s = true := fun w h => atoms_spec (ws := Cond.code yX10_beside cX10_beside 5 (some .int) :: wAll) B.pre w (List.mem_cons_of_mem _ h)
  have hown : s.vm.findClass RX10 = some m.cls := findClass_of_methodNamed B.named
  have hlocks := B.notSynchronized
  subst hsz
  have hD := hD0.self (sz := s.heap.size)
  generalize hAe : va_A [(ob, .inr (10, [ob_0, .ref wo, .ref mi, .ref hm, .ref mt, .int 0, .ref fv, .int 0, .int 0, .int 0, .int 0, .int 0, .int 0, .int (-1), .ref fr, ob_15, ob_16, ob_17, ob_18, ob_19, ob_20, ob_21, ob_22, ob_23, ob_24, ob_25, ob_26, ob_27, ob_28, ob_29, ob_30, ob_31, ob_32, ob_33, ob_34, .ref cd, ob_36, .ref my, .ref wi, .ref nb, .ref mv])), (hm, .inl (y 3, 3, .inl (fun _ => 0)))] s.heap.size = A at hD ⊢
  have hA : ∀ q : Nat, s.heap.size ≤ q → A q := fun q h => by rw [← hAe]; exact Or.inr h
  have hS : va_S A s.heap s.heap [] := va_S.rf
  have hP : va_P G vwCl [(ob, .inr (10, [ob_0, .ref wo, .ref mi, .ref hm, .ref mt, .int 0, .ref fv, .int 0, .int 0, .int 0, .int 0, .int 0, .int 0, .int (-1), .ref fr, ob_15, ob_16, ob_17, ob_18, ob_19, ob_20, ob_21, ob_22, ob_23, ob_24, ob_25, ob_26, ob_27, ob_28, ob_29, ob_30, ob_31, ob_32, ob_33, ob_34, .ref cd, ob_36, .ref my, .ref wi, .ref nb, .ref mv])), (hm, .inl (y 3, 3, .inl (fun _ => 0)))] s.heap := hP
  have hl := lv_entry ([.ref ob, .int a1]) (n := 5) (Nat.le_of_ble_eq_true rfl)
  rw [lg_entry_eq]
  generalize (lg_sl ([.ref ob, .int a1]) ++ List.replicate (5 - (lg_sl ([.ref ob, .int a1])).length) Slot.unset).toArray = ls at hl ⊢
  have hl : lv_has ls 5 [(0, .ref ob), (1, .int a1)] := hl
  rcases im_cases a1 with rfl | rfl | rfl | t_a1
  · have hl : lv_has ls 5 [(0, .ref ob), (1, .int 0)] := hl
    refine lv_iload_n hx hb dX10_beside_0 rfl (lv_at hl 1 rfl) ?_
    refine lv_i2l (v := 0) hx hb dX10_beside_1 (by decide) ?_
    refine lv_lconst (v := 0) hx hb dX10_beside_2 (by decide) ?_
    refine lv_ldc2 (own := RX10) (v := 2) hx hb hown (hw0 _ m_403) dX10_beside_3 ?_
    refine cSi (As := [.long 0, .long 0, .long 2]) (rest := []) ⟨hx, hb, hml, hown, hw0⟩ hA hK hP hD hS [] [0, 1] [] [(ob, .inr (10, [ob_0, .ref wo, .ref mi, .ref hm, .ref mt, .int 0, .ref fv, .int 0, .int 0, .int 0, .int 0, .int 0, .int 0, .int (-1), .ref fr, ob_15, ob_16, ob_17, ob_18, ob_19, ob_20, ob_21, ob_22, ob_23, ob_24, ob_25, ob_26, ob_27, ob_28, ob_29, ob_30, ob_31, ob_32, ob_33, ob_34, .ref cd, ob_36, .ref my, .ref wi, .ref nb, .ref mv])), (hm, .inl (y 3, 3, .inl (fun _ => 0)))] rfl rfl (by decide) (by decide) (by decide) (kX10_in l G y _ 0 0 2 ) ⟨(callB_of 3 hw0 (gA m_164) rfl rfl rfl (hw0 _ m_166) (hw0 _ m_167) (by decide +kernel) ⟨Nat.le_of_ble_eq_true rfl, Nat.le_of_ble_eq_true rfl⟩), (hw0 _ m_168)⟩ rfl hl.1 (Nat.le_of_ble_eq_true rfl) dX10_beside_6 ⟨Nat.le_of_ble_eq_true rfl, Nat.le_of_ble_eq_true rfl⟩ (fun r_1 w_1 H locs hw_1 hP hD hS => ?_)
    rcases hw_1 with ⟨c_2, rfl, rfl⟩ | ⟨c_3, rfl, rfl⟩
    · skip
      have hP : va_P G vwCl [(ob, .inr (10, [ob_0, .ref wo, .ref mi, .ref hm, .ref mt, .int 0, .ref fv, .int 0, .int 0, .int 0, .int 0, .int 0, .int 0, .int (-1), .ref fr, ob_15, ob_16, ob_17, ob_18, ob_19, ob_20, ob_21, ob_22, ob_23, ob_24, ob_25, ob_26, ob_27, ob_28, ob_29, ob_30, ob_31, ob_32, ob_33, ob_34, .ref cd, ob_36, .ref my, .ref wi, .ref nb, .ref mv])), (hm, .inl (y 3, 3, .inl (fun _ => 0)))] H := hP
      have hD : va_D A [(ob, .inr (10, [ob_0, .ref wo, .ref mi, .ref hm, .ref mt, .int 0, .ref fv, .int 0, .int 0, .int 0, .int 0, .int 0, .int 0, .int (-1), .ref fr, ob_15, ob_16, ob_17, ob_18, ob_19, ob_20, ob_21, ob_22, ob_23, ob_24, ob_25, ob_26, ob_27, ob_28, ob_29, ob_30, ob_31, ob_32, ob_33, ob_34, .ref cd, ob_36, .ref my, .ref wi, .ref nb, .ref mv])), (hm, .inl (y 3, 3, .inl (fun _ => 0)))] := hD
      refine lv_if_ne (tgt := 15) hx hb dX10_beside_9 (by decide) (fun _ => ?_) (fun c9 => absurd c9 (by decide))
      refine lv_aload_n hx hb dX10_beside_15 rfl (lv_at hl 0 rfl) ?_
      refine va_get (D := G) (ci := 10) (v := .ref hm) (C := RX10) (T := TX10) (N := 41) hx hb hw0 inA_wsX100 hown hK.1 hP 0 rfl rfl 3 (by decide) (hw0 _ m_135) (fun _ h9 => h9) rfl dX10_beside_16 ?_
      refine lv_iload_n hx hb dX10_beside_19 rfl (lv_at hl 1 rfl) ?_
      refine va_zald hx hb hK.1 hP 1 3 rfl rfl (vp_in_nI (n := 0) (N := 3) (by decide) (by decide)) dX10_beside_20 ?_
      refine lv_topi (fun v_4 ev_4 => ?_)
      obtain rfl : 0 = v_4 := (ev_4.trans (rfl)).symm
      refine lv_if_ne (tgt := 27) hx hb dX10_beside_21 (by decide) (fun c9 => absurd (by decide) c9) (fun _ => ?_)
      refine lv_bipush (v := (-6)) hx hb dX10_beside_24 (by decide) ?_
      refine W.widen (k := 0) (n := 0) (Nat.le_of_ble_eq_true rfl) (Nat.le_of_ble_eq_true rfl) ?_
      exact W.iret (v := (-6)) hx hb hr (fun t ht hW => ⟨⟨(-6), _, rfl, (by first | rfl | decide | (simp only [sp_image]; (repeat' split) <;> first | rfl | (exfalso; omega))), by rw [ht]; exact hP, hD⟩, hS.F ht⟩) hS.2.2 dX10_beside_26
    · skip
      exact absurd c_3 (by decide)
  · have hl : lv_has ls 5 [(0, .ref ob), (1, .int 1)] := hl
    refine lv_iload_n hx hb dX10_beside_0 rfl (lv_at hl 1 rfl) ?_
    refine lv_i2l (v := 1) hx hb dX10_beside_1 (by decide) ?_
    refine lv_lconst (v := 0) hx hb dX10_beside_2 (by decide) ?_
    refine lv_ldc2 (own := RX10) (v := 2) hx hb hown (hw0 _ m_403) dX10_beside_3 ?_
    refine cSi (As := [.long 1, .long 0, .long 2]) (rest := []) ⟨hx, hb, hml, hown, hw0⟩ hA hK hP hD hS [] [0, 1] [] [(ob, .inr (10, [ob_0, .ref wo, .ref mi, .ref hm, .ref mt, .int 0, .ref fv, .int 0, .int 0, .int 0, .int 0, .int 0, .int 0, .int (-1), .ref fr, ob_15, ob_16, ob_17, ob_18, ob_19, ob_20, ob_21, ob_22, ob_23, ob_24, ob_25, ob_26, ob_27, ob_28, ob_29, ob_30, ob_31, ob_32, ob_33, ob_34, .ref cd, ob_36, .ref my, .ref wi, .ref nb, .ref mv])), (hm, .inl (y 3, 3, .inl (fun _ => 0)))] rfl rfl (by decide) (by decide) (by decide) (kX10_in l G y _ 1 0 2 ) ⟨(callB_of 3 hw0 (gA m_164) rfl rfl rfl (hw0 _ m_166) (hw0 _ m_167) (by decide +kernel) ⟨Nat.le_of_ble_eq_true rfl, Nat.le_of_ble_eq_true rfl⟩), (hw0 _ m_168)⟩ rfl hl.1 (Nat.le_of_ble_eq_true rfl) dX10_beside_6 ⟨Nat.le_of_ble_eq_true rfl, Nat.le_of_ble_eq_true rfl⟩ (fun r_5 w_5 H locs hw_5 hP hD hS => ?_)
    rcases hw_5 with ⟨c_6, rfl, rfl⟩ | ⟨c_7, rfl, rfl⟩
    · skip
      have hP : va_P G vwCl [(ob, .inr (10, [ob_0, .ref wo, .ref mi, .ref hm, .ref mt, .int 0, .ref fv, .int 0, .int 0, .int 0, .int 0, .int 0, .int 0, .int (-1), .ref fr, ob_15, ob_16, ob_17, ob_18, ob_19, ob_20, ob_21, ob_22, ob_23, ob_24, ob_25, ob_26, ob_27, ob_28, ob_29, ob_30, ob_31, ob_32, ob_33, ob_34, .ref cd, ob_36, .ref my, .ref wi, .ref nb, .ref mv])), (hm, .inl (y 3, 3, .inl (fun _ => 0)))] H := hP
      have hD : va_D A [(ob, .inr (10, [ob_0, .ref wo, .ref mi, .ref hm, .ref mt, .int 0, .ref fv, .int 0, .int 0, .int 0, .int 0, .int 0, .int 0, .int (-1), .ref fr, ob_15, ob_16, ob_17, ob_18, ob_19, ob_20, ob_21, ob_22, ob_23, ob_24, ob_25, ob_26, ob_27, ob_28, ob_29, ob_30, ob_31, ob_32, ob_33, ob_34, .ref cd, ob_36, .ref my, .ref wi, .ref nb, .ref mv])), (hm, .inl (y 3, 3, .inl (fun _ => 0)))] := hD
      refine lv_if_ne (tgt := 15) hx hb dX10_beside_9 (by decide) (fun _ => ?_) (fun c9 => absurd c9 (by decide))
      refine lv_aload_n hx hb dX10_beside_15 rfl (lv_at hl 0 rfl) ?_
      refine va_get (D := G) (ci := 10) (v := .ref hm) (C := RX10) (T := TX10) (N := 41) hx hb hw0 inA_wsX100 hown hK.1 hP 0 rfl rfl 3 (by decide) (hw0 _ m_135) (fun _ h9 => h9) rfl dX10_beside_16 ?_
      refine lv_iload_n hx hb dX10_beside_19 rfl (lv_at hl 1 rfl) ?_
      refine va_zald hx hb hK.1 hP 1 3 rfl rfl (vp_in_nI (n := 1) (N := 3) (by decide) (by decide)) dX10_beside_20 ?_
      refine lv_topi (fun v_8 ev_8 => ?_)
      obtain rfl : 0 = v_8 := (ev_8.trans (rfl)).symm
      refine lv_if_ne (tgt := 27) hx hb dX10_beside_21 (by decide) (fun c9 => absurd (by decide) c9) (fun _ => ?_)
      refine lv_bipush (v := (-6)) hx hb dX10_beside_24 (by decide) ?_
      refine W.widen (k := 0) (n := 0) (Nat.le_of_ble_eq_true rfl) (Nat.le_of_ble_eq_true rfl) ?_
      exact W.iret (v := (-6)) hx hb hr (fun t ht hW => ⟨⟨(-6), _, rfl, (by first | rfl | decide | (simp only [sp_image]; (repeat' split) <;> first | rfl | (exfalso; omega))), by rw [ht]; exact hP, hD⟩, hS.F ht⟩) hS.2.2 dX10_beside_26
    · skip
      exact absurd c_7 (by decide)
  · have hl : lv_has ls 5 [(0, .ref ob), (1, .int 2)] := hl
    refine lv_iload_n hx hb dX10_beside_0 rfl (lv_at hl 1 rfl) ?_
    refine lv_i2l (v := 2) hx hb dX10_beside_1 (by decide) ?_
    refine lv_lconst (v := 0) hx hb dX10_beside_2 (by decide) ?_
    refine lv_ldc2 (own := RX10) (v := 2) hx hb hown (hw0 _ m_403) dX10_beside_3 ?_
    refine cSi (As := [.long 2, .long 0, .long 2]) (rest := []) ⟨hx, hb, hml, hown, hw0⟩ hA hK hP hD hS [] [0, 1] [] [(ob, .inr (10, [ob_0, .ref wo, .ref mi, .ref hm, .ref mt, .int 0, .ref fv, .int 0, .int 0, .int 0, .int 0, .int 0, .int 0, .int (-1), .ref fr, ob_15, ob_16, ob_17, ob_18, ob_19, ob_20, ob_21, ob_22, ob_23, ob_24, ob_25, ob_26, ob_27, ob_28, ob_29, ob_30, ob_31, ob_32, ob_33, ob_34, .ref cd, ob_36, .ref my, .ref wi, .ref nb, .ref mv])), (hm, .inl (y 3, 3, .inl (fun _ => 0)))] rfl rfl (by decide) (by decide) (by decide) (kX10_in l G y _ 2 0 2 ) ⟨(callB_of 3 hw0 (gA m_164) rfl rfl rfl (hw0 _ m_166) (hw0 _ m_167) (by decide +kernel) ⟨Nat.le_of_ble_eq_true rfl, Nat.le_of_ble_eq_true rfl⟩), (hw0 _ m_168)⟩ rfl hl.1 (Nat.le_of_ble_eq_true rfl) dX10_beside_6 ⟨Nat.le_of_ble_eq_true rfl, Nat.le_of_ble_eq_true rfl⟩ (fun r_9 w_9 H locs hw_9 hP hD hS => ?_)
    rcases hw_9 with ⟨c_10, rfl, rfl⟩ | ⟨c_11, rfl, rfl⟩
    · skip
      have hP : va_P G vwCl [(ob, .inr (10, [ob_0, .ref wo, .ref mi, .ref hm, .ref mt, .int 0, .ref fv, .int 0, .int 0, .int 0, .int 0, .int 0, .int 0, .int (-1), .ref fr, ob_15, ob_16, ob_17, ob_18, ob_19, ob_20, ob_21, ob_22, ob_23, ob_24, ob_25, ob_26, ob_27, ob_28, ob_29, ob_30, ob_31, ob_32, ob_33, ob_34, .ref cd, ob_36, .ref my, .ref wi, .ref nb, .ref mv])), (hm, .inl (y 3, 3, .inl (fun _ => 0)))] H := hP
      have hD : va_D A [(ob, .inr (10, [ob_0, .ref wo, .ref mi, .ref hm, .ref mt, .int 0, .ref fv, .int 0, .int 0, .int 0, .int 0, .int 0, .int 0, .int (-1), .ref fr, ob_15, ob_16, ob_17, ob_18, ob_19, ob_20, ob_21, ob_22, ob_23, ob_24, ob_25, ob_26, ob_27, ob_28, ob_29, ob_30, ob_31, ob_32, ob_33, ob_34, .ref cd, ob_36, .ref my, .ref wi, .ref nb, .ref mv])), (hm, .inl (y 3, 3, .inl (fun _ => 0)))] := hD
      refine lv_if_ne (tgt := 15) hx hb dX10_beside_9 (by decide) (fun _ => ?_) (fun c9 => absurd c9 (by decide))
      refine lv_aload_n hx hb dX10_beside_15 rfl (lv_at hl 0 rfl) ?_
      refine va_get (D := G) (ci := 10) (v := .ref hm) (C := RX10) (T := TX10) (N := 41) hx hb hw0 inA_wsX100 hown hK.1 hP 0 rfl rfl 3 (by decide) (hw0 _ m_135) (fun _ h9 => h9) rfl dX10_beside_16 ?_
      refine lv_iload_n hx hb dX10_beside_19 rfl (lv_at hl 1 rfl) ?_
      refine va_zald hx hb hK.1 hP 1 3 rfl rfl (vp_in_nI (n := 2) (N := 3) (by decide) (by decide)) dX10_beside_20 ?_
      refine lv_topi (fun v_12 ev_12 => ?_)
      obtain rfl : 0 = v_12 := (ev_12.trans (rfl)).symm
      refine lv_if_ne (tgt := 27) hx hb dX10_beside_21 (by decide) (fun c9 => absurd (by decide) c9) (fun _ => ?_)
      refine lv_bipush (v := (-6)) hx hb dX10_beside_24 (by decide) ?_
      refine W.widen (k := 0) (n := 0) (Nat.le_of_ble_eq_true rfl) (Nat.le_of_ble_eq_true rfl) ?_
      exact W.iret (v := (-6)) hx hb hr (fun t ht hW => ⟨⟨(-6), _, rfl, (by first | rfl | decide | (simp only [sp_image]; (repeat' split) <;> first | rfl | (exfalso; omega))), by rw [ht]; exact hP, hD⟩, hS.F ht⟩) hS.2.2 dX10_beside_26
    · skip
      exact absurd c_11 (by decide)
  · have hl : lv_has ls 5 [(0, .ref ob), (1, .int a1)] := hl
    refine lv_iload_n hx hb dX10_beside_0 rfl (lv_at hl 1 rfl) ?_
    refine lv_i2l hx hb dX10_beside_1 rfl ?_
    refine lv_lconst (v := 0) hx hb dX10_beside_2 (by decide) ?_
    refine lv_ldc2 (own := RX10) (v := 2) hx hb hown (hw0 _ m_403) dX10_beside_3 ?_
    refine cSi (As := [.long (a1).toInt64, .long 0, .long 2]) (rest := []) ⟨hx, hb, hml, hown, hw0⟩ hA hK hP hD hS [] [0, 1] [] [(ob, .inr (10, [ob_0, .ref wo, .ref mi, .ref hm, .ref mt, .int 0, .ref fv, .int 0, .int 0, .int 0, .int 0, .int 0, .int 0, .int (-1), .ref fr, ob_15, ob_16, ob_17, ob_18, ob_19, ob_20, ob_21, ob_22, ob_23, ob_24, ob_25, ob_26, ob_27, ob_28, ob_29, ob_30, ob_31, ob_32, ob_33, ob_34, .ref cd, ob_36, .ref my, .ref wi, .ref nb, .ref mv])), (hm, .inl (y 3, 3, .inl (fun _ => 0)))] rfl rfl (by decide) (by decide) (by decide) (kX10_in l G y _ ((a1).toInt64) 0 2 ) ⟨(callB_of 3 hw0 (gA m_164) rfl rfl rfl (hw0 _ m_166) (hw0 _ m_167) (by decide +kernel) ⟨Nat.le_of_ble_eq_true rfl, Nat.le_of_ble_eq_true rfl⟩), (hw0 _ m_168)⟩ rfl hl.1 (Nat.le_of_ble_eq_true rfl) dX10_beside_6 ⟨Nat.le_of_ble_eq_true rfl, Nat.le_of_ble_eq_true rfl⟩ (fun r_13 w_13 H locs hw_13 hP hD hS => ?_)
    rcases hw_13 with ⟨c_14, rfl, rfl⟩ | ⟨c_15, rfl, rfl⟩
    · skip
      have tc_14 := in_1 (x := a1) (a := 0) (b := 2) c_14 (by decide) (by decide)
      exfalso; omega
    · skip
      have tc_15 := in_0 (x := a1) (a := 0) (b := 2) c_15 (by decide) (by decide)
      have hP : va_P G vwCl [(ob, .inr (10, [ob_0, .ref wo, .ref mi, .ref hm, .ref mt, .int 0, .ref fv, .int 0, .int 0, .int 0, .int 0, .int 0, .int 0, .int (-1), .ref fr, ob_15, ob_16, ob_17, ob_18, ob_19, ob_20, ob_21, ob_22, ob_23, ob_24, ob_25, ob_26, ob_27, ob_28, ob_29, ob_30, ob_31, ob_32, ob_33, ob_34, .ref cd, ob_36, .ref my, .ref wi, .ref nb, .ref mv])), (hm, .inl (y 3, 3, .inl (fun _ => 0)))] H := hP
      have hD : va_D A [(ob, .inr (10, [ob_0, .ref wo, .ref mi, .ref hm, .ref mt, .int 0, .ref fv, .int 0, .int 0, .int 0, .int 0, .int 0, .int 0, .int (-1), .ref fr, ob_15, ob_16, ob_17, ob_18, ob_19, ob_20, ob_21, ob_22, ob_23, ob_24, ob_25, ob_26, ob_27, ob_28, ob_29, ob_30, ob_31, ob_32, ob_33, ob_34, .ref cd, ob_36, .ref my, .ref wi, .ref nb, .ref mv])), (hm, .inl (y 3, 3, .inl (fun _ => 0)))] := hD
      refine lv_if_ne (tgt := 15) hx hb dX10_beside_9 (by decide) (fun c9 => absurd (by decide) c9) (fun _ => ?_)
      refine lv_bipush (v := (-2)) hx hb dX10_beside_12 (by decide) ?_
      refine W.widen (k := 0) (n := 0) (Nat.le_of_ble_eq_true rfl) (Nat.le_of_ble_eq_true rfl) ?_
      exact W.iret (v := (-2)) hx hb hr (fun t ht hW => ⟨⟨(-2), _, rfl, (by first | rfl | decide | (simp only [sp_image]; (repeat' split) <;> first | rfl | (exfalso; omega))), by rw [ht]; exact hP, hD⟩, hS.F ht⟩) hS.2.2 dX10_beside_14

set_option maxHeartbeats 4000000 in
set_option maxRecDepth 100000 in
theorem kX10_back (l : Launch) (G : va_G) (y : Nat → ClassId) (sz : Nat) (ob : Nat) (a1 : Int32) (ob_0 : Value) (wo : Nat) (mi : Nat) (hm : Nat) (mt : Nat) (fv : Nat) (fr : Nat) (ob_15 : Value) (ob_16 : Value) (ob_17 : Value) (ob_18 : Value) (ob_19 : Value) (ob_20 : Value) (ob_21 : Value) (ob_22 : Value) (ob_23 : Value) (ob_24 : Value) (ob_25 : Value) (ob_26 : Value) (ob_27 : Value) (ob_28 : Value) (ob_29 : Value) (ob_30 : Value) (ob_31 : Value) (ob_32 : Value) (ob_33 : Value) (ob_34 : Value) (cd : Nat) (ob_36 : Value) (my : Nat) (wi : Nat) (nb : Nat) (mv : Nat)  : Met l yX10_back (Cond.code yX10_back cX10_back 3 (some .int) :: wAll) ({ frames := 1, cells := 0, slots := 0, locals := 25 }) (va_Pc [.ref ob, .int a1] (kp G y sz [(ob, .inr (10, [ob_0, .ref wo, .ref mi, .ref hm, .ref mt, .int 0, .ref fv, .int 0, .int 0, .int 0, .int 0, .int 0, .int 0, .int (-1), .ref fr, ob_15, ob_16, ob_17, ob_18, ob_19, ob_20, ob_21, ob_22, ob_23, ob_24, ob_25, ob_26, ob_27, ob_28, ob_29, ob_30, ob_31, ob_32, ob_33, ob_34, .ref cd, ob_36, .ref my, .ref wi, .ref nb, .ref mv])), (hm, .inl (y 3, 3, .inl (fun _ => 0)))])) (va_Qi (fun (r : Int32) (_ : va_W) => r = sp_image a1) (kq G (va_A [(ob, .inr (10, [ob_0, .ref wo, .ref mi, .ref hm, .ref mt, .int 0, .ref fv, .int 0, .int 0, .int 0, .int 0, .int 0, .int 0, .int (-1), .ref fr, ob_15, ob_16, ob_17, ob_18, ob_19, ob_20, ob_21, ob_22, ob_23, ob_24, ob_25, ob_26, ob_27, ob_28, ob_29, ob_30, ob_31, ob_32, ob_33, ob_34, .ref cd, ob_36, .ref my, .ref wi, .ref nb, .ref mv])), (hm, .inl (y 3, 3, .inl (fun _ => 0)))] sz)) (va_A [(ob, .inr (10, [ob_0, .ref wo, .ref mi, .ref hm, .ref mt, .int 0, .ref fv, .int 0, .int 0, .int 0, .int 0, .int 0, .int 0, .int (-1), .ref fr, ob_15, ob_16, ob_17, ob_18, ob_19, ob_20, ob_21, ob_22, ob_23, ob_24, ob_25, ob_26, ob_27, ob_28, ob_29, ob_30, ob_31, ob_32, ob_33, ob_34, .ref cd, ob_36, .ref my, .ref wi, .ref nb, .ref mv])), (hm, .inl (y 3, 3, .inl (fun _ => 0)))] sz)) 0 0 (va_A [(ob, .inr (10, [ob_0, .ref wo, .ref mi, .ref hm, .ref mt, .int 0, .ref fv, .int 0, .int 0, .int 0, .int 0, .int 0, .int 0, .int (-1), .ref fr, ob_15, ob_16, ob_17, ob_18, ob_19, ob_20, ob_21, ob_22, ob_23, ob_24, ob_25, ob_26, ob_27, ob_28, ob_29, ob_30, ob_31, ob_32, ob_33, ob_34, .ref cd, ob_36, .ref my, .ref wi, .ref nb, .ref mv])), (hm, .inl (y 3, 3, .inl (fun _ => 0)))] sz) := by
  refine Met.ofW (cc := cX10_back) (maxL := 3) (ret := (some .int)) (by decide) rfl ?_
  intro p e s m args below meth c s₁ B hml hv
  obtain ⟨rfl, hsz, hP, hK, hD0⟩ := hv
  have hx := B.exec
  have hb := B.bytes
  have hr := B.returns
  have hw0 : ∀ w ∈ wAll, w.before _ s = true := fun w h => atoms_spec (ws := Cond.code yX10_back cX10_back 3 (some .int) :: wAll) B.pre w (List.mem_cons_of_mem _ h)
  have hown : s.vm.findClass RX10 = some m.cls := findClass_of_methodNamed B.named
  have hlocks := B.notSynchronized
  subst hsz
  have hD := hD0.self (sz := s.heap.size)
  generalize hAe : va_A [(ob, .inr (10, [ob_0, .ref wo, .ref mi, .ref hm, .ref mt, .int 0, .ref fv, .int 0, .int 0, .int 0, .int 0, .int 0, .int 0, .int (-1), .ref fr, ob_15, ob_16, ob_17, ob_18, ob_19, ob_20, ob_21, ob_22, ob_23, ob_24, ob_25, ob_26, ob_27, ob_28, ob_29, ob_30, ob_31, ob_32, ob_33, ob_34, .ref cd, ob_36, .ref my, .ref wi, .ref nb, .ref mv])), (hm, .inl (y 3, 3, .inl (fun _ => 0)))] s.heap.size = A at hD ⊢
  have hA : ∀ q : Nat, s.heap.size ≤ q → A q := fun q h => by rw [← hAe]; exact Or.inr h
  have hS : va_S A s.heap s.heap [] := va_S.rf
  have hP : va_P G vwCl [(ob, .inr (10, [ob_0, .ref wo, .ref mi, .ref hm, .ref mt, .int 0, .ref fv, .int 0, .int 0, .int 0, .int 0, .int 0, .int 0, .int (-1), .ref fr, ob_15, ob_16, ob_17, ob_18, ob_19, ob_20, ob_21, ob_22, ob_23, ob_24, ob_25, ob_26, ob_27, ob_28, ob_29, ob_30, ob_31, ob_32, ob_33, ob_34, .ref cd, ob_36, .ref my, .ref wi, .ref nb, .ref mv])), (hm, .inl (y 3, 3, .inl (fun _ => 0)))] s.heap := hP
  have hl := lv_entry ([.ref ob, .int a1]) (n := 3) (Nat.le_of_ble_eq_true rfl)
  rw [lg_entry_eq]
  generalize (lg_sl ([.ref ob, .int a1]) ++ List.replicate (3 - (lg_sl ([.ref ob, .int a1])).length) Slot.unset).toArray = ls at hl ⊢
  have hl : lv_has ls 3 [(0, .ref ob), (1, .int a1)] := hl
  rcases im_cases a1 with rfl | rfl | rfl | t_a1
  · have hl : lv_has ls 3 [(0, .ref ob), (1, .int 0)] := hl
    refine lv_iload_n hx hb dX10_back_0 rfl (lv_at hl 1 rfl) ?_
    refine lv_i2l (v := 0) hx hb dX10_back_1 (by decide) ?_
    refine lv_lconst (v := 0) hx hb dX10_back_2 (by decide) ?_
    refine lv_ldc2 (own := RX10) (v := 2) hx hb hown (hw0 _ m_403) dX10_back_3 ?_
    refine cSi (As := [.long 0, .long 0, .long 2]) (rest := []) ⟨hx, hb, hml, hown, hw0⟩ hA hK hP hD hS [] [0, 1] [] [(ob, .inr (10, [ob_0, .ref wo, .ref mi, .ref hm, .ref mt, .int 0, .ref fv, .int 0, .int 0, .int 0, .int 0, .int 0, .int 0, .int (-1), .ref fr, ob_15, ob_16, ob_17, ob_18, ob_19, ob_20, ob_21, ob_22, ob_23, ob_24, ob_25, ob_26, ob_27, ob_28, ob_29, ob_30, ob_31, ob_32, ob_33, ob_34, .ref cd, ob_36, .ref my, .ref wi, .ref nb, .ref mv])), (hm, .inl (y 3, 3, .inl (fun _ => 0)))] rfl rfl (by decide) (by decide) (by decide) (kX10_in l G y _ 0 0 2 ) ⟨(callB_of 3 hw0 (gA m_164) rfl rfl rfl (hw0 _ m_166) (hw0 _ m_167) (by decide +kernel) ⟨Nat.le_of_ble_eq_true rfl, Nat.le_of_ble_eq_true rfl⟩), (hw0 _ m_168)⟩ rfl hl.1 (Nat.le_of_ble_eq_true rfl) dX10_back_6 ⟨Nat.le_of_ble_eq_true rfl, Nat.le_of_ble_eq_true rfl⟩ (fun r_1 w_1 H locs hw_1 hP hD hS => ?_)
    rcases hw_1 with ⟨c_2, rfl, rfl⟩ | ⟨c_3, rfl, rfl⟩
    · skip
      have hP : va_P G vwCl [(ob, .inr (10, [ob_0, .ref wo, .ref mi, .ref hm, .ref mt, .int 0, .ref fv, .int 0, .int 0, .int 0, .int 0, .int 0, .int 0, .int (-1), .ref fr, ob_15, ob_16, ob_17, ob_18, ob_19, ob_20, ob_21, ob_22, ob_23, ob_24, ob_25, ob_26, ob_27, ob_28, ob_29, ob_30, ob_31, ob_32, ob_33, ob_34, .ref cd, ob_36, .ref my, .ref wi, .ref nb, .ref mv])), (hm, .inl (y 3, 3, .inl (fun _ => 0)))] H := hP
      have hD : va_D A [(ob, .inr (10, [ob_0, .ref wo, .ref mi, .ref hm, .ref mt, .int 0, .ref fv, .int 0, .int 0, .int 0, .int 0, .int 0, .int 0, .int (-1), .ref fr, ob_15, ob_16, ob_17, ob_18, ob_19, ob_20, ob_21, ob_22, ob_23, ob_24, ob_25, ob_26, ob_27, ob_28, ob_29, ob_30, ob_31, ob_32, ob_33, ob_34, .ref cd, ob_36, .ref my, .ref wi, .ref nb, .ref mv])), (hm, .inl (y 3, 3, .inl (fun _ => 0)))] := hD
      refine lv_if_ne (tgt := 15) hx hb dX10_back_9 (by decide) (fun _ => ?_) (fun c9 => absurd c9 (by decide))
      refine lv_aload_n hx hb dX10_back_15 rfl (lv_at hl 0 rfl) ?_
      refine va_get (D := G) (ci := 10) (v := .ref hm) (C := RX10) (T := TX10) (N := 41) hx hb hw0 inA_wsX100 hown hK.1 hP 0 rfl rfl 3 (by decide) (hw0 _ m_135) (fun _ h9 => h9) rfl dX10_back_16 ?_
      refine lv_iload_n hx hb dX10_back_19 rfl (lv_at hl 1 rfl) ?_
      refine va_zald hx hb hK.1 hP 1 3 rfl rfl (vp_in_nI (n := 0) (N := 3) (by decide) (by decide)) dX10_back_20 ?_
      refine lv_topi (fun v_4 ev_4 => ?_)
      obtain rfl : 0 = v_4 := (ev_4.trans (rfl)).symm
      refine lv_if_ne (tgt := 27) hx hb dX10_back_21 (by decide) (fun c9 => absurd (by decide) c9) (fun _ => ?_)
      refine lv_bipush (v := (-6)) hx hb dX10_back_24 (by decide) ?_
      refine W.widen (k := 0) (n := 0) (Nat.le_of_ble_eq_true rfl) (Nat.le_of_ble_eq_true rfl) ?_
      exact W.iret (v := (-6)) hx hb hr (fun t ht hW => ⟨⟨(-6), _, rfl, (by first | rfl | decide | (simp only [sp_image]; (repeat' split) <;> first | rfl | (exfalso; omega))), by rw [ht]; exact hP, hD⟩, hS.F ht⟩) hS.2.2 dX10_back_26
    · skip
      exact absurd c_3 (by decide)
  · have hl : lv_has ls 3 [(0, .ref ob), (1, .int 1)] := hl
    refine lv_iload_n hx hb dX10_back_0 rfl (lv_at hl 1 rfl) ?_
    refine lv_i2l (v := 1) hx hb dX10_back_1 (by decide) ?_
    refine lv_lconst (v := 0) hx hb dX10_back_2 (by decide) ?_
    refine lv_ldc2 (own := RX10) (v := 2) hx hb hown (hw0 _ m_403) dX10_back_3 ?_
    refine cSi (As := [.long 1, .long 0, .long 2]) (rest := []) ⟨hx, hb, hml, hown, hw0⟩ hA hK hP hD hS [] [0, 1] [] [(ob, .inr (10, [ob_0, .ref wo, .ref mi, .ref hm, .ref mt, .int 0, .ref fv, .int 0, .int 0, .int 0, .int 0, .int 0, .int 0, .int (-1), .ref fr, ob_15, ob_16, ob_17, ob_18, ob_19, ob_20, ob_21, ob_22, ob_23, ob_24, ob_25, ob_26, ob_27, ob_28, ob_29, ob_30, ob_31, ob_32, ob_33, ob_34, .ref cd, ob_36, .ref my, .ref wi, .ref nb, .ref mv])), (hm, .inl (y 3, 3, .inl (fun _ => 0)))] rfl rfl (by decide) (by decide) (by decide) (kX10_in l G y _ 1 0 2 ) ⟨(callB_of 3 hw0 (gA m_164) rfl rfl rfl (hw0 _ m_166) (hw0 _ m_167) (by decide +kernel) ⟨Nat.le_of_ble_eq_true rfl, Nat.le_of_ble_eq_true rfl⟩), (hw0 _ m_168)⟩ rfl hl.1 (Nat.le_of_ble_eq_true rfl) dX10_back_6 ⟨Nat.le_of_ble_eq_true rfl, Nat.le_of_ble_eq_true rfl⟩ (fun r_5 w_5 H locs hw_5 hP hD hS => ?_)
    rcases hw_5 with ⟨c_6, rfl, rfl⟩ | ⟨c_7, rfl, rfl⟩
    · skip
      have hP : va_P G vwCl [(ob, .inr (10, [ob_0, .ref wo, .ref mi, .ref hm, .ref mt, .int 0, .ref fv, .int 0, .int 0, .int 0, .int 0, .int 0, .int 0, .int (-1), .ref fr, ob_15, ob_16, ob_17, ob_18, ob_19, ob_20, ob_21, ob_22, ob_23, ob_24, ob_25, ob_26, ob_27, ob_28, ob_29, ob_30, ob_31, ob_32, ob_33, ob_34, .ref cd, ob_36, .ref my, .ref wi, .ref nb, .ref mv])), (hm, .inl (y 3, 3, .inl (fun _ => 0)))] H := hP
      have hD : va_D A [(ob, .inr (10, [ob_0, .ref wo, .ref mi, .ref hm, .ref mt, .int 0, .ref fv, .int 0, .int 0, .int 0, .int 0, .int 0, .int 0, .int (-1), .ref fr, ob_15, ob_16, ob_17, ob_18, ob_19, ob_20, ob_21, ob_22, ob_23, ob_24, ob_25, ob_26, ob_27, ob_28, ob_29, ob_30, ob_31, ob_32, ob_33, ob_34, .ref cd, ob_36, .ref my, .ref wi, .ref nb, .ref mv])), (hm, .inl (y 3, 3, .inl (fun _ => 0)))] := hD
      refine lv_if_ne (tgt := 15) hx hb dX10_back_9 (by decide) (fun _ => ?_) (fun c9 => absurd c9 (by decide))
      refine lv_aload_n hx hb dX10_back_15 rfl (lv_at hl 0 rfl) ?_
      refine va_get (D := G) (ci := 10) (v := .ref hm) (C := RX10) (T := TX10) (N := 41) hx hb hw0 inA_wsX100 hown hK.1 hP 0 rfl rfl 3 (by decide) (hw0 _ m_135) (fun _ h9 => h9) rfl dX10_back_16 ?_
      refine lv_iload_n hx hb dX10_back_19 rfl (lv_at hl 1 rfl) ?_
      refine va_zald hx hb hK.1 hP 1 3 rfl rfl (vp_in_nI (n := 1) (N := 3) (by decide) (by decide)) dX10_back_20 ?_
      refine lv_topi (fun v_8 ev_8 => ?_)
      obtain rfl : 0 = v_8 := (ev_8.trans (rfl)).symm
      refine lv_if_ne (tgt := 27) hx hb dX10_back_21 (by decide) (fun c9 => absurd (by decide) c9) (fun _ => ?_)
      refine lv_bipush (v := (-6)) hx hb dX10_back_24 (by decide) ?_
      refine W.widen (k := 0) (n := 0) (Nat.le_of_ble_eq_true rfl) (Nat.le_of_ble_eq_true rfl) ?_
      exact W.iret (v := (-6)) hx hb hr (fun t ht hW => ⟨⟨(-6), _, rfl, (by first | rfl | decide | (simp only [sp_image]; (repeat' split) <;> first | rfl | (exfalso; omega))), by rw [ht]; exact hP, hD⟩, hS.F ht⟩) hS.2.2 dX10_back_26
    · skip
      exact absurd c_7 (by decide)
  · have hl : lv_has ls 3 [(0, .ref ob), (1, .int 2)] := hl
    refine lv_iload_n hx hb dX10_back_0 rfl (lv_at hl 1 rfl) ?_
    refine lv_i2l (v := 2) hx hb dX10_back_1 (by decide) ?_
    refine lv_lconst (v := 0) hx hb dX10_back_2 (by decide) ?_
    refine lv_ldc2 (own := RX10) (v := 2) hx hb hown (hw0 _ m_403) dX10_back_3 ?_
    refine cSi (As := [.long 2, .long 0, .long 2]) (rest := []) ⟨hx, hb, hml, hown, hw0⟩ hA hK hP hD hS [] [0, 1] [] [(ob, .inr (10, [ob_0, .ref wo, .ref mi, .ref hm, .ref mt, .int 0, .ref fv, .int 0, .int 0, .int 0, .int 0, .int 0, .int 0, .int (-1), .ref fr, ob_15, ob_16, ob_17, ob_18, ob_19, ob_20, ob_21, ob_22, ob_23, ob_24, ob_25, ob_26, ob_27, ob_28, ob_29, ob_30, ob_31, ob_32, ob_33, ob_34, .ref cd, ob_36, .ref my, .ref wi, .ref nb, .ref mv])), (hm, .inl (y 3, 3, .inl (fun _ => 0)))] rfl rfl (by decide) (by decide) (by decide) (kX10_in l G y _ 2 0 2 ) ⟨(callB_of 3 hw0 (gA m_164) rfl rfl rfl (hw0 _ m_166) (hw0 _ m_167) (by decide +kernel) ⟨Nat.le_of_ble_eq_true rfl, Nat.le_of_ble_eq_true rfl⟩), (hw0 _ m_168)⟩ rfl hl.1 (Nat.le_of_ble_eq_true rfl) dX10_back_6 ⟨Nat.le_of_ble_eq_true rfl, Nat.le_of_ble_eq_true rfl⟩ (fun r_9 w_9 H locs hw_9 hP hD hS => ?_)
    rcases hw_9 with ⟨c_10, rfl, rfl⟩ | ⟨c_11, rfl, rfl⟩
    · skip
      have hP : va_P G vwCl [(ob, .inr (10, [ob_0, .ref wo, .ref mi, .ref hm, .ref mt, .int 0, .ref fv, .int 0, .int 0, .int 0, .int 0, .int 0, .int 0, .int (-1), .ref fr, ob_15, ob_16, ob_17, ob_18, ob_19, ob_20, ob_21, ob_22, ob_23, ob_24, ob_25, ob_26, ob_27, ob_28, ob_29, ob_30, ob_31, ob_32, ob_33, ob_34, .ref cd, ob_36, .ref my, .ref wi, .ref nb, .ref mv])), (hm, .inl (y 3, 3, .inl (fun _ => 0)))] H := hP
      have hD : va_D A [(ob, .inr (10, [ob_0, .ref wo, .ref mi, .ref hm, .ref mt, .int 0, .ref fv, .int 0, .int 0, .int 0, .int 0, .int 0, .int 0, .int (-1), .ref fr, ob_15, ob_16, ob_17, ob_18, ob_19, ob_20, ob_21, ob_22, ob_23, ob_24, ob_25, ob_26, ob_27, ob_28, ob_29, ob_30, ob_31, ob_32, ob_33, ob_34, .ref cd, ob_36, .ref my, .ref wi, .ref nb, .ref mv])), (hm, .inl (y 3, 3, .inl (fun _ => 0)))] := hD
      refine lv_if_ne (tgt := 15) hx hb dX10_back_9 (by decide) (fun _ => ?_) (fun c9 => absurd c9 (by decide))
      refine lv_aload_n hx hb dX10_back_15 rfl (lv_at hl 0 rfl) ?_
      refine va_get (D := G) (ci := 10) (v := .ref hm) (C := RX10) (T := TX10) (N := 41) hx hb hw0 inA_wsX100 hown hK.1 hP 0 rfl rfl 3 (by decide) (hw0 _ m_135) (fun _ h9 => h9) rfl dX10_back_16 ?_
      refine lv_iload_n hx hb dX10_back_19 rfl (lv_at hl 1 rfl) ?_
      refine va_zald hx hb hK.1 hP 1 3 rfl rfl (vp_in_nI (n := 2) (N := 3) (by decide) (by decide)) dX10_back_20 ?_
      refine lv_topi (fun v_12 ev_12 => ?_)
      obtain rfl : 0 = v_12 := (ev_12.trans (rfl)).symm
      refine lv_if_ne (tgt := 27) hx hb dX10_back_21 (by decide) (fun c9 => absurd (by decide) c9) (fun _ => ?_)
      refine lv_bipush (v := (-6)) hx hb dX10_back_24 (by decide) ?_
      refine W.widen (k := 0) (n := 0) (Nat.le_of_ble_eq_true rfl) (Nat.le_of_ble_eq_true rfl) ?_
      exact W.iret (v := (-6)) hx hb hr (fun t ht hW => ⟨⟨(-6), _, rfl, (by first | rfl | decide | (simp only [sp_image]; (repeat' split) <;> first | rfl | (exfalso; omega))), by rw [ht]; exact hP, hD⟩, hS.F ht⟩) hS.2.2 dX10_back_26
    · skip
      exact absurd c_11 (by decide)
  · have hl : lv_has ls 3 [(0, .ref ob), (1, .int a1)] := hl
    refine lv_iload_n hx hb dX10_back_0 rfl (lv_at hl 1 rfl) ?_
    refine lv_i2l hx hb dX10_back_1 rfl ?_
    refine lv_lconst (v := 0) hx hb dX10_back_2 (by decide) ?_
    refine lv_ldc2 (own := RX10) (v := 2) hx hb hown (hw0 _ m_403) dX10_back_3 ?_
    refine cSi (As := [.long (a1).toInt64, .long 0, .long 2]) (rest := []) ⟨hx, hb, hml, hown, hw0⟩ hA hK hP hD hS [] [0, 1] [] [(ob, .inr (10, [ob_0, .ref wo, .ref mi, .ref hm, .ref mt, .int 0, .ref fv, .int 0, .int 0, .int 0, .int 0, .int 0, .int 0, .int (-1), .ref fr, ob_15, ob_16, ob_17, ob_18, ob_19, ob_20, ob_21, ob_22, ob_23, ob_24, ob_25, ob_26, ob_27, ob_28, ob_29, ob_30, ob_31, ob_32, ob_33, ob_34, .ref cd, ob_36, .ref my, .ref wi, .ref nb, .ref mv])), (hm, .inl (y 3, 3, .inl (fun _ => 0)))] rfl rfl (by decide) (by decide) (by decide) (kX10_in l G y _ ((a1).toInt64) 0 2 ) ⟨(callB_of 3 hw0 (gA m_164) rfl rfl rfl (hw0 _ m_166) (hw0 _ m_167) (by decide +kernel) ⟨Nat.le_of_ble_eq_true rfl, Nat.le_of_ble_eq_true rfl⟩), (hw0 _ m_168)⟩ rfl hl.1 (Nat.le_of_ble_eq_true rfl) dX10_back_6 ⟨Nat.le_of_ble_eq_true rfl, Nat.le_of_ble_eq_true rfl⟩ (fun r_13 w_13 H locs hw_13 hP hD hS => ?_)
    rcases hw_13 with ⟨c_14, rfl, rfl⟩ | ⟨c_15, rfl, rfl⟩
    · skip
      have tc_14 := in_1 (x := a1) (a := 0) (b := 2) c_14 (by decide) (by decide)
      exfalso; omega
    · skip
      have tc_15 := in_0 (x := a1) (a := 0) (b := 2) c_15 (by decide) (by decide)
      have hP : va_P G vwCl [(ob, .inr (10, [ob_0, .ref wo, .ref mi, .ref hm, .ref mt, .int 0, .ref fv, .int 0, .int 0, .int 0, .int 0, .int 0, .int 0, .int (-1), .ref fr, ob_15, ob_16, ob_17, ob_18, ob_19, ob_20, ob_21, ob_22, ob_23, ob_24, ob_25, ob_26, ob_27, ob_28, ob_29, ob_30, ob_31, ob_32, ob_33, ob_34, .ref cd, ob_36, .ref my, .ref wi, .ref nb, .ref mv])), (hm, .inl (y 3, 3, .inl (fun _ => 0)))] H := hP
      have hD : va_D A [(ob, .inr (10, [ob_0, .ref wo, .ref mi, .ref hm, .ref mt, .int 0, .ref fv, .int 0, .int 0, .int 0, .int 0, .int 0, .int 0, .int (-1), .ref fr, ob_15, ob_16, ob_17, ob_18, ob_19, ob_20, ob_21, ob_22, ob_23, ob_24, ob_25, ob_26, ob_27, ob_28, ob_29, ob_30, ob_31, ob_32, ob_33, ob_34, .ref cd, ob_36, .ref my, .ref wi, .ref nb, .ref mv])), (hm, .inl (y 3, 3, .inl (fun _ => 0)))] := hD
      refine lv_if_ne (tgt := 15) hx hb dX10_back_9 (by decide) (fun c9 => absurd (by decide) c9) (fun _ => ?_)
      refine lv_bipush (v := (-2)) hx hb dX10_back_12 (by decide) ?_
      refine W.widen (k := 0) (n := 0) (Nat.le_of_ble_eq_true rfl) (Nat.le_of_ble_eq_true rfl) ?_
      exact W.iret (v := (-2)) hx hb hr (fun t ht hW => ⟨⟨(-2), _, rfl, (by first | rfl | decide | (simp only [sp_image]; (repeat' split) <;> first | rfl | (exfalso; omega))), by rw [ht]; exact hP, hD⟩, hS.F ht⟩) hS.2.2 dX10_back_14

set_option maxHeartbeats 4000000 in
set_option maxRecDepth 100000 in
theorem kX10_done (l : Launch) (G : va_G) (y : Nat → ClassId) (sz : Nat) (ob : Nat) (a1 : Int32) (ob_0 : Value) (wo : Nat) (mi : Nat) (hm : Nat) (mt : Nat) (fv : Nat) (fr : Nat) (ob_15 : Value) (ob_16 : Value) (ob_17 : Value) (ob_18 : Value) (ob_19 : Value) (ob_20 : Value) (ob_21 : Value) (ob_22 : Value) (ob_23 : Value) (ob_24 : Value) (ob_25 : Value) (ob_26 : Value) (ob_27 : Value) (ob_28 : Value) (ob_29 : Value) (ob_30 : Value) (ob_31 : Value) (ob_32 : Value) (ob_33 : Value) (ob_34 : Value) (cd : Nat) (ob_36 : Value) (my : Nat) (wi : Nat) (nb : Nat) (mv : Nat) (fy : Nat → Int32) (y0 : fy 0 = (-1)) (y1 : fy 1 = (-1)) (y2 : fy 2 = (-1)) (y3 : fy 3 = (-1)) : Met l yX10_done (Cond.code yX10_done cX10_done 11 (some .int) :: wAll) ({ frames := 2, cells := 0, slots := 0, locals := 45 }) (va_Pc [.ref ob, .int a1] (kp G y sz [(ob, .inr (10, [ob_0, .ref wo, .ref mi, .ref hm, .ref mt, .int 0, .ref fv, .int 0, .int 0, .int 0, .int 0, .int 0, .int 0, .int (-1), .ref fr, ob_15, ob_16, ob_17, ob_18, ob_19, ob_20, ob_21, ob_22, ob_23, ob_24, ob_25, ob_26, ob_27, ob_28, ob_29, ob_30, ob_31, ob_32, ob_33, ob_34, .ref cd, ob_36, .ref my, .ref wi, .ref nb, .ref mv])), (my, .inl (y 1, 4, .inl fy))])) (va_Qi (fun (r : Int32) (_ : va_W) => r = sp_slot a1) (kq G (va_A [(ob, .inr (10, [ob_0, .ref wo, .ref mi, .ref hm, .ref mt, .int 0, .ref fv, .int 0, .int 0, .int 0, .int 0, .int 0, .int 0, .int (-1), .ref fr, ob_15, ob_16, ob_17, ob_18, ob_19, ob_20, ob_21, ob_22, ob_23, ob_24, ob_25, ob_26, ob_27, ob_28, ob_29, ob_30, ob_31, ob_32, ob_33, ob_34, .ref cd, ob_36, .ref my, .ref wi, .ref nb, .ref mv])), (my, .inl (y 1, 4, .inl fy))] sz)) (va_A [(ob, .inr (10, [ob_0, .ref wo, .ref mi, .ref hm, .ref mt, .int 0, .ref fv, .int 0, .int 0, .int 0, .int 0, .int 0, .int 0, .int (-1), .ref fr, ob_15, ob_16, ob_17, ob_18, ob_19, ob_20, ob_21, ob_22, ob_23, ob_24, ob_25, ob_26, ob_27, ob_28, ob_29, ob_30, ob_31, ob_32, ob_33, ob_34, .ref cd, ob_36, .ref my, .ref wi, .ref nb, .ref mv])), (my, .inl (y 1, 4, .inl fy))] sz)) 0 0 (va_A [(ob, .inr (10, [ob_0, .ref wo, .ref mi, .ref hm, .ref mt, .int 0, .ref fv, .int 0, .int 0, .int 0, .int 0, .int 0, .int 0, .int (-1), .ref fr, ob_15, ob_16, ob_17, ob_18, ob_19, ob_20, ob_21, ob_22, ob_23, ob_24, ob_25, ob_26, ob_27, ob_28, ob_29, ob_30, ob_31, ob_32, ob_33, ob_34, .ref cd, ob_36, .ref my, .ref wi, .ref nb, .ref mv])), (my, .inl (y 1, 4, .inl fy))] sz) := by
  refine Met.ofW (cc := cX10_done) (maxL := 11) (ret := (some .int)) (by decide) rfl ?_
  intro p e s m args below meth c s₁ B hml hv
  obtain ⟨rfl, hsz, hP, hK, hD0⟩ := hv
  have hx := B.exec
  have hb := B.bytes
  have hr := B.returns
  have hw0 : ∀ w ∈ wAll, w.before _ s = true := fun w h => atoms_spec (ws := Cond.code yX10_done cX10_done 11 (some .int) :: wAll) B.pre w (List.mem_cons_of_mem _ h)
  have hown : s.vm.findClass RX10 = some m.cls := findClass_of_methodNamed B.named
  have hlocks := B.notSynchronized
  subst hsz
  have hD := hD0.self (sz := s.heap.size)
  generalize hAe : va_A [(ob, .inr (10, [ob_0, .ref wo, .ref mi, .ref hm, .ref mt, .int 0, .ref fv, .int 0, .int 0, .int 0, .int 0, .int 0, .int 0, .int (-1), .ref fr, ob_15, ob_16, ob_17, ob_18, ob_19, ob_20, ob_21, ob_22, ob_23, ob_24, ob_25, ob_26, ob_27, ob_28, ob_29, ob_30, ob_31, ob_32, ob_33, ob_34, .ref cd, ob_36, .ref my, .ref wi, .ref nb, .ref mv])), (my, .inl (y 1, 4, .inl fy))] s.heap.size = A at hD ⊢
  have hA : ∀ q : Nat, s.heap.size ≤ q → A q := fun q h => by rw [← hAe]; exact Or.inr h
  have hS : va_S A s.heap s.heap [] := va_S.rf
  have hP : va_P G vwCl [(ob, .inr (10, [ob_0, .ref wo, .ref mi, .ref hm, .ref mt, .int 0, .ref fv, .int 0, .int 0, .int 0, .int 0, .int 0, .int 0, .int (-1), .ref fr, ob_15, ob_16, ob_17, ob_18, ob_19, ob_20, ob_21, ob_22, ob_23, ob_24, ob_25, ob_26, ob_27, ob_28, ob_29, ob_30, ob_31, ob_32, ob_33, ob_34, .ref cd, ob_36, .ref my, .ref wi, .ref nb, .ref mv])), (my, .inl (y 1, 4, .inl fy))] s.heap := hP
  have hl := lv_entry ([.ref ob, .int a1]) (n := 11) (Nat.le_of_ble_eq_true rfl)
  rw [lg_entry_eq]
  generalize (lg_sl ([.ref ob, .int a1]) ++ List.replicate (11 - (lg_sl ([.ref ob, .int a1])).length) Slot.unset).toArray = ls at hl ⊢
  have hl : lv_has ls 11 [(0, .ref ob), (1, .int a1)] := hl
  rcases sl_cases a1 with rfl | rfl | rfl | rfl | t_a1
  · have hl : lv_has ls 11 [(0, .ref ob), (1, .int 0)] := hl
    refine lv_iload_n hx hb dX10_done_0 rfl (lv_at hl 1 rfl) ?_
    refine cSi (As := [.int 0]) (rest := []) ⟨hx, hb, hml, hown, hw0⟩ hA hK hP hD hS [] [0, 1] [] [(ob, .inr (10, [ob_0, .ref wo, .ref mi, .ref hm, .ref mt, .int 0, .ref fv, .int 0, .int 0, .int 0, .int 0, .int 0, .int 0, .int (-1), .ref fr, ob_15, ob_16, ob_17, ob_18, ob_19, ob_20, ob_21, ob_22, ob_23, ob_24, ob_25, ob_26, ob_27, ob_28, ob_29, ob_30, ob_31, ob_32, ob_33, ob_34, .ref cd, ob_36, .ref my, .ref wi, .ref nb, .ref mv])), (my, .inl (y 1, 4, .inl fy))] rfl rfl (by decide) (by decide) (by decide) (kX10_isSlot l G y _ 0 ) ⟨(callB_of 1 hw0 (gA m_169) rfl rfl rfl (hw0 _ m_166) (hw0 _ m_378) (by decide +kernel) ⟨Nat.le_of_ble_eq_true rfl, Nat.le_of_ble_eq_true rfl⟩), (hw0 _ m_379)⟩ rfl hl.1 (Nat.le_of_ble_eq_true rfl) dX10_done_1 ⟨Nat.le_of_ble_eq_true rfl, Nat.le_of_ble_eq_true rfl⟩ (fun r_1 w_1 H locs hw_1 hP hD hS => ?_)
    rcases hw_1 with ⟨c_2, rfl, rfl⟩ | ⟨c_3, rfl, rfl⟩
    · skip
      have hP : va_P G vwCl [(ob, .inr (10, [ob_0, .ref wo, .ref mi, .ref hm, .ref mt, .int 0, .ref fv, .int 0, .int 0, .int 0, .int 0, .int 0, .int 0, .int (-1), .ref fr, ob_15, ob_16, ob_17, ob_18, ob_19, ob_20, ob_21, ob_22, ob_23, ob_24, ob_25, ob_26, ob_27, ob_28, ob_29, ob_30, ob_31, ob_32, ob_33, ob_34, .ref cd, ob_36, .ref my, .ref wi, .ref nb, .ref mv])), (my, .inl (y 1, 4, .inl fy))] H := hP
      have hD : va_D A [(ob, .inr (10, [ob_0, .ref wo, .ref mi, .ref hm, .ref mt, .int 0, .ref fv, .int 0, .int 0, .int 0, .int 0, .int 0, .int 0, .int (-1), .ref fr, ob_15, ob_16, ob_17, ob_18, ob_19, ob_20, ob_21, ob_22, ob_23, ob_24, ob_25, ob_26, ob_27, ob_28, ob_29, ob_30, ob_31, ob_32, ob_33, ob_34, .ref cd, ob_36, .ref my, .ref wi, .ref nb, .ref mv])), (my, .inl (y 1, 4, .inl fy))] := hD
      refine lv_if_ne (tgt := 10) hx hb dX10_done_4 (by decide) (fun _ => ?_) (fun c9 => absurd c9 (by decide))
      refine lv_aload_n hx hb dX10_done_10 rfl (lv_at hl 0 rfl) ?_
      refine va_get (D := G) (ci := 10) (v := .ref my) (C := RX10) (T := TX10) (N := 41) hx hb hw0 inA_wsX100 hown hK.1 hP 0 rfl rfl 37 (by decide) (hw0 _ m_157) (fun _ h9 => h9) rfl dX10_done_11 ?_
      refine lv_iload_n hx hb dX10_done_14 rfl (lv_at hl 1 rfl) ?_
      refine va_iald hx hb hK.1 hP 1 1 rfl rfl (vp_in_nI (n := 0) (N := 4) (by decide) (by decide)) dX10_done_15 ?_
      refine lv_topi (fun v_4 ev_4 => ?_)
      obtain rfl : (-1) = v_4 := (ev_4.trans (y0)).symm
      refine lv_iconst (v := (-1)) hx hb dX10_done_16 (by decide) ?_
      refine lv_icmp_ne (tgt := 23) hx hb dX10_done_17 (by decide) (fun c9 => absurd (by decide) c9) (fun _ => ?_)
      refine lv_bipush (v := (-6)) hx hb dX10_done_20 (by decide) ?_
      refine W.widen (k := 0) (n := 0) (Nat.le_of_ble_eq_true rfl) (Nat.le_of_ble_eq_true rfl) ?_
      exact W.iret (v := (-6)) hx hb hr (fun t ht hW => ⟨⟨(-6), _, rfl, (by first | rfl | decide | (simp only [sp_slot]; (repeat' split) <;> first | rfl | (exfalso; omega))), by rw [ht]; exact hP, hD⟩, hS.F ht⟩) hS.2.2 dX10_done_22
    · skip
      exact absurd c_3 (by decide)
  · have hl : lv_has ls 11 [(0, .ref ob), (1, .int 1)] := hl
    refine lv_iload_n hx hb dX10_done_0 rfl (lv_at hl 1 rfl) ?_
    refine cSi (As := [.int 1]) (rest := []) ⟨hx, hb, hml, hown, hw0⟩ hA hK hP hD hS [] [0, 1] [] [(ob, .inr (10, [ob_0, .ref wo, .ref mi, .ref hm, .ref mt, .int 0, .ref fv, .int 0, .int 0, .int 0, .int 0, .int 0, .int 0, .int (-1), .ref fr, ob_15, ob_16, ob_17, ob_18, ob_19, ob_20, ob_21, ob_22, ob_23, ob_24, ob_25, ob_26, ob_27, ob_28, ob_29, ob_30, ob_31, ob_32, ob_33, ob_34, .ref cd, ob_36, .ref my, .ref wi, .ref nb, .ref mv])), (my, .inl (y 1, 4, .inl fy))] rfl rfl (by decide) (by decide) (by decide) (kX10_isSlot l G y _ 1 ) ⟨(callB_of 1 hw0 (gA m_169) rfl rfl rfl (hw0 _ m_166) (hw0 _ m_378) (by decide +kernel) ⟨Nat.le_of_ble_eq_true rfl, Nat.le_of_ble_eq_true rfl⟩), (hw0 _ m_379)⟩ rfl hl.1 (Nat.le_of_ble_eq_true rfl) dX10_done_1 ⟨Nat.le_of_ble_eq_true rfl, Nat.le_of_ble_eq_true rfl⟩ (fun r_5 w_5 H locs hw_5 hP hD hS => ?_)
    rcases hw_5 with ⟨c_6, rfl, rfl⟩ | ⟨c_7, rfl, rfl⟩
    · skip
      have hP : va_P G vwCl [(ob, .inr (10, [ob_0, .ref wo, .ref mi, .ref hm, .ref mt, .int 0, .ref fv, .int 0, .int 0, .int 0, .int 0, .int 0, .int 0, .int (-1), .ref fr, ob_15, ob_16, ob_17, ob_18, ob_19, ob_20, ob_21, ob_22, ob_23, ob_24, ob_25, ob_26, ob_27, ob_28, ob_29, ob_30, ob_31, ob_32, ob_33, ob_34, .ref cd, ob_36, .ref my, .ref wi, .ref nb, .ref mv])), (my, .inl (y 1, 4, .inl fy))] H := hP
      have hD : va_D A [(ob, .inr (10, [ob_0, .ref wo, .ref mi, .ref hm, .ref mt, .int 0, .ref fv, .int 0, .int 0, .int 0, .int 0, .int 0, .int 0, .int (-1), .ref fr, ob_15, ob_16, ob_17, ob_18, ob_19, ob_20, ob_21, ob_22, ob_23, ob_24, ob_25, ob_26, ob_27, ob_28, ob_29, ob_30, ob_31, ob_32, ob_33, ob_34, .ref cd, ob_36, .ref my, .ref wi, .ref nb, .ref mv])), (my, .inl (y 1, 4, .inl fy))] := hD
      refine lv_if_ne (tgt := 10) hx hb dX10_done_4 (by decide) (fun _ => ?_) (fun c9 => absurd c9 (by decide))
      refine lv_aload_n hx hb dX10_done_10 rfl (lv_at hl 0 rfl) ?_
      refine va_get (D := G) (ci := 10) (v := .ref my) (C := RX10) (T := TX10) (N := 41) hx hb hw0 inA_wsX100 hown hK.1 hP 0 rfl rfl 37 (by decide) (hw0 _ m_157) (fun _ h9 => h9) rfl dX10_done_11 ?_
      refine lv_iload_n hx hb dX10_done_14 rfl (lv_at hl 1 rfl) ?_
      refine va_iald hx hb hK.1 hP 1 1 rfl rfl (vp_in_nI (n := 1) (N := 4) (by decide) (by decide)) dX10_done_15 ?_
      refine lv_topi (fun v_8 ev_8 => ?_)
      obtain rfl : (-1) = v_8 := (ev_8.trans (y1)).symm
      refine lv_iconst (v := (-1)) hx hb dX10_done_16 (by decide) ?_
      refine lv_icmp_ne (tgt := 23) hx hb dX10_done_17 (by decide) (fun c9 => absurd (by decide) c9) (fun _ => ?_)
      refine lv_bipush (v := (-6)) hx hb dX10_done_20 (by decide) ?_
      refine W.widen (k := 0) (n := 0) (Nat.le_of_ble_eq_true rfl) (Nat.le_of_ble_eq_true rfl) ?_
      exact W.iret (v := (-6)) hx hb hr (fun t ht hW => ⟨⟨(-6), _, rfl, (by first | rfl | decide | (simp only [sp_slot]; (repeat' split) <;> first | rfl | (exfalso; omega))), by rw [ht]; exact hP, hD⟩, hS.F ht⟩) hS.2.2 dX10_done_22
    · skip
      exact absurd c_7 (by decide)
  · have hl : lv_has ls 11 [(0, .ref ob), (1, .int 2)] := hl
    refine lv_iload_n hx hb dX10_done_0 rfl (lv_at hl 1 rfl) ?_
    refine cSi (As := [.int 2]) (rest := []) ⟨hx, hb, hml, hown, hw0⟩ hA hK hP hD hS [] [0, 1] [] [(ob, .inr (10, [ob_0, .ref wo, .ref mi, .ref hm, .ref mt, .int 0, .ref fv, .int 0, .int 0, .int 0, .int 0, .int 0, .int 0, .int (-1), .ref fr, ob_15, ob_16, ob_17, ob_18, ob_19, ob_20, ob_21, ob_22, ob_23, ob_24, ob_25, ob_26, ob_27, ob_28, ob_29, ob_30, ob_31, ob_32, ob_33, ob_34, .ref cd, ob_36, .ref my, .ref wi, .ref nb, .ref mv])), (my, .inl (y 1, 4, .inl fy))] rfl rfl (by decide) (by decide) (by decide) (kX10_isSlot l G y _ 2 ) ⟨(callB_of 1 hw0 (gA m_169) rfl rfl rfl (hw0 _ m_166) (hw0 _ m_378) (by decide +kernel) ⟨Nat.le_of_ble_eq_true rfl, Nat.le_of_ble_eq_true rfl⟩), (hw0 _ m_379)⟩ rfl hl.1 (Nat.le_of_ble_eq_true rfl) dX10_done_1 ⟨Nat.le_of_ble_eq_true rfl, Nat.le_of_ble_eq_true rfl⟩ (fun r_9 w_9 H locs hw_9 hP hD hS => ?_)
    rcases hw_9 with ⟨c_10, rfl, rfl⟩ | ⟨c_11, rfl, rfl⟩
    · skip
      have hP : va_P G vwCl [(ob, .inr (10, [ob_0, .ref wo, .ref mi, .ref hm, .ref mt, .int 0, .ref fv, .int 0, .int 0, .int 0, .int 0, .int 0, .int 0, .int (-1), .ref fr, ob_15, ob_16, ob_17, ob_18, ob_19, ob_20, ob_21, ob_22, ob_23, ob_24, ob_25, ob_26, ob_27, ob_28, ob_29, ob_30, ob_31, ob_32, ob_33, ob_34, .ref cd, ob_36, .ref my, .ref wi, .ref nb, .ref mv])), (my, .inl (y 1, 4, .inl fy))] H := hP
      have hD : va_D A [(ob, .inr (10, [ob_0, .ref wo, .ref mi, .ref hm, .ref mt, .int 0, .ref fv, .int 0, .int 0, .int 0, .int 0, .int 0, .int 0, .int (-1), .ref fr, ob_15, ob_16, ob_17, ob_18, ob_19, ob_20, ob_21, ob_22, ob_23, ob_24, ob_25, ob_26, ob_27, ob_28, ob_29, ob_30, ob_31, ob_32, ob_33, ob_34, .ref cd, ob_36, .ref my, .ref wi, .ref nb, .ref mv])), (my, .inl (y 1, 4, .inl fy))] := hD
      refine lv_if_ne (tgt := 10) hx hb dX10_done_4 (by decide) (fun _ => ?_) (fun c9 => absurd c9 (by decide))
      refine lv_aload_n hx hb dX10_done_10 rfl (lv_at hl 0 rfl) ?_
      refine va_get (D := G) (ci := 10) (v := .ref my) (C := RX10) (T := TX10) (N := 41) hx hb hw0 inA_wsX100 hown hK.1 hP 0 rfl rfl 37 (by decide) (hw0 _ m_157) (fun _ h9 => h9) rfl dX10_done_11 ?_
      refine lv_iload_n hx hb dX10_done_14 rfl (lv_at hl 1 rfl) ?_
      refine va_iald hx hb hK.1 hP 1 1 rfl rfl (vp_in_nI (n := 2) (N := 4) (by decide) (by decide)) dX10_done_15 ?_
      refine lv_topi (fun v_12 ev_12 => ?_)
      obtain rfl : (-1) = v_12 := (ev_12.trans (y2)).symm
      refine lv_iconst (v := (-1)) hx hb dX10_done_16 (by decide) ?_
      refine lv_icmp_ne (tgt := 23) hx hb dX10_done_17 (by decide) (fun c9 => absurd (by decide) c9) (fun _ => ?_)
      refine lv_bipush (v := (-6)) hx hb dX10_done_20 (by decide) ?_
      refine W.widen (k := 0) (n := 0) (Nat.le_of_ble_eq_true rfl) (Nat.le_of_ble_eq_true rfl) ?_
      exact W.iret (v := (-6)) hx hb hr (fun t ht hW => ⟨⟨(-6), _, rfl, (by first | rfl | decide | (simp only [sp_slot]; (repeat' split) <;> first | rfl | (exfalso; omega))), by rw [ht]; exact hP, hD⟩, hS.F ht⟩) hS.2.2 dX10_done_22
    · skip
      exact absurd c_11 (by decide)
  · have hl : lv_has ls 11 [(0, .ref ob), (1, .int 3)] := hl
    refine lv_iload_n hx hb dX10_done_0 rfl (lv_at hl 1 rfl) ?_
    refine cSi (As := [.int 3]) (rest := []) ⟨hx, hb, hml, hown, hw0⟩ hA hK hP hD hS [] [0, 1] [] [(ob, .inr (10, [ob_0, .ref wo, .ref mi, .ref hm, .ref mt, .int 0, .ref fv, .int 0, .int 0, .int 0, .int 0, .int 0, .int 0, .int (-1), .ref fr, ob_15, ob_16, ob_17, ob_18, ob_19, ob_20, ob_21, ob_22, ob_23, ob_24, ob_25, ob_26, ob_27, ob_28, ob_29, ob_30, ob_31, ob_32, ob_33, ob_34, .ref cd, ob_36, .ref my, .ref wi, .ref nb, .ref mv])), (my, .inl (y 1, 4, .inl fy))] rfl rfl (by decide) (by decide) (by decide) (kX10_isSlot l G y _ 3 ) ⟨(callB_of 1 hw0 (gA m_169) rfl rfl rfl (hw0 _ m_166) (hw0 _ m_378) (by decide +kernel) ⟨Nat.le_of_ble_eq_true rfl, Nat.le_of_ble_eq_true rfl⟩), (hw0 _ m_379)⟩ rfl hl.1 (Nat.le_of_ble_eq_true rfl) dX10_done_1 ⟨Nat.le_of_ble_eq_true rfl, Nat.le_of_ble_eq_true rfl⟩ (fun r_13 w_13 H locs hw_13 hP hD hS => ?_)
    rcases hw_13 with ⟨c_14, rfl, rfl⟩ | ⟨c_15, rfl, rfl⟩
    · skip
      have hP : va_P G vwCl [(ob, .inr (10, [ob_0, .ref wo, .ref mi, .ref hm, .ref mt, .int 0, .ref fv, .int 0, .int 0, .int 0, .int 0, .int 0, .int 0, .int (-1), .ref fr, ob_15, ob_16, ob_17, ob_18, ob_19, ob_20, ob_21, ob_22, ob_23, ob_24, ob_25, ob_26, ob_27, ob_28, ob_29, ob_30, ob_31, ob_32, ob_33, ob_34, .ref cd, ob_36, .ref my, .ref wi, .ref nb, .ref mv])), (my, .inl (y 1, 4, .inl fy))] H := hP
      have hD : va_D A [(ob, .inr (10, [ob_0, .ref wo, .ref mi, .ref hm, .ref mt, .int 0, .ref fv, .int 0, .int 0, .int 0, .int 0, .int 0, .int 0, .int (-1), .ref fr, ob_15, ob_16, ob_17, ob_18, ob_19, ob_20, ob_21, ob_22, ob_23, ob_24, ob_25, ob_26, ob_27, ob_28, ob_29, ob_30, ob_31, ob_32, ob_33, ob_34, .ref cd, ob_36, .ref my, .ref wi, .ref nb, .ref mv])), (my, .inl (y 1, 4, .inl fy))] := hD
      refine lv_if_ne (tgt := 10) hx hb dX10_done_4 (by decide) (fun _ => ?_) (fun c9 => absurd c9 (by decide))
      refine lv_aload_n hx hb dX10_done_10 rfl (lv_at hl 0 rfl) ?_
      refine va_get (D := G) (ci := 10) (v := .ref my) (C := RX10) (T := TX10) (N := 41) hx hb hw0 inA_wsX100 hown hK.1 hP 0 rfl rfl 37 (by decide) (hw0 _ m_157) (fun _ h9 => h9) rfl dX10_done_11 ?_
      refine lv_iload_n hx hb dX10_done_14 rfl (lv_at hl 1 rfl) ?_
      refine va_iald hx hb hK.1 hP 1 1 rfl rfl (vp_in_nI (n := 3) (N := 4) (by decide) (by decide)) dX10_done_15 ?_
      refine lv_topi (fun v_16 ev_16 => ?_)
      obtain rfl : (-1) = v_16 := (ev_16.trans (y3)).symm
      refine lv_iconst (v := (-1)) hx hb dX10_done_16 (by decide) ?_
      refine lv_icmp_ne (tgt := 23) hx hb dX10_done_17 (by decide) (fun c9 => absurd (by decide) c9) (fun _ => ?_)
      refine lv_bipush (v := (-6)) hx hb dX10_done_20 (by decide) ?_
      refine W.widen (k := 0) (n := 0) (Nat.le_of_ble_eq_true rfl) (Nat.le_of_ble_eq_true rfl) ?_
      exact W.iret (v := (-6)) hx hb hr (fun t ht hW => ⟨⟨(-6), _, rfl, (by first | rfl | decide | (simp only [sp_slot]; (repeat' split) <;> first | rfl | (exfalso; omega))), by rw [ht]; exact hP, hD⟩, hS.F ht⟩) hS.2.2 dX10_done_22
    · skip
      exact absurd c_15 (by decide)
  · have hl : lv_has ls 11 [(0, .ref ob), (1, .int a1)] := hl
    refine lv_iload_n hx hb dX10_done_0 rfl (lv_at hl 1 rfl) ?_
    refine cSi (As := [.int a1]) (rest := []) ⟨hx, hb, hml, hown, hw0⟩ hA hK hP hD hS [] [0, 1] [] [(ob, .inr (10, [ob_0, .ref wo, .ref mi, .ref hm, .ref mt, .int 0, .ref fv, .int 0, .int 0, .int 0, .int 0, .int 0, .int 0, .int (-1), .ref fr, ob_15, ob_16, ob_17, ob_18, ob_19, ob_20, ob_21, ob_22, ob_23, ob_24, ob_25, ob_26, ob_27, ob_28, ob_29, ob_30, ob_31, ob_32, ob_33, ob_34, .ref cd, ob_36, .ref my, .ref wi, .ref nb, .ref mv])), (my, .inl (y 1, 4, .inl fy))] rfl rfl (by decide) (by decide) (by decide) (kX10_isSlot l G y _ a1 ) ⟨(callB_of 1 hw0 (gA m_169) rfl rfl rfl (hw0 _ m_166) (hw0 _ m_378) (by decide +kernel) ⟨Nat.le_of_ble_eq_true rfl, Nat.le_of_ble_eq_true rfl⟩), (hw0 _ m_379)⟩ rfl hl.1 (Nat.le_of_ble_eq_true rfl) dX10_done_1 ⟨Nat.le_of_ble_eq_true rfl, Nat.le_of_ble_eq_true rfl⟩ (fun r_17 w_17 H locs hw_17 hP hD hS => ?_)
    rcases hw_17 with ⟨c_18, rfl, rfl⟩ | ⟨c_19, rfl, rfl⟩
    · skip
      exfalso; omega
    · skip
      have hP : va_P G vwCl [(ob, .inr (10, [ob_0, .ref wo, .ref mi, .ref hm, .ref mt, .int 0, .ref fv, .int 0, .int 0, .int 0, .int 0, .int 0, .int 0, .int (-1), .ref fr, ob_15, ob_16, ob_17, ob_18, ob_19, ob_20, ob_21, ob_22, ob_23, ob_24, ob_25, ob_26, ob_27, ob_28, ob_29, ob_30, ob_31, ob_32, ob_33, ob_34, .ref cd, ob_36, .ref my, .ref wi, .ref nb, .ref mv])), (my, .inl (y 1, 4, .inl fy))] H := hP
      have hD : va_D A [(ob, .inr (10, [ob_0, .ref wo, .ref mi, .ref hm, .ref mt, .int 0, .ref fv, .int 0, .int 0, .int 0, .int 0, .int 0, .int 0, .int (-1), .ref fr, ob_15, ob_16, ob_17, ob_18, ob_19, ob_20, ob_21, ob_22, ob_23, ob_24, ob_25, ob_26, ob_27, ob_28, ob_29, ob_30, ob_31, ob_32, ob_33, ob_34, .ref cd, ob_36, .ref my, .ref wi, .ref nb, .ref mv])), (my, .inl (y 1, 4, .inl fy))] := hD
      refine lv_if_ne (tgt := 10) hx hb dX10_done_4 (by decide) (fun c9 => absurd (by decide) c9) (fun _ => ?_)
      refine lv_bipush (v := (-2)) hx hb dX10_done_7 (by decide) ?_
      refine W.widen (k := 0) (n := 0) (Nat.le_of_ble_eq_true rfl) (Nat.le_of_ble_eq_true rfl) ?_
      exact W.iret (v := (-2)) hx hb hr (fun t ht hW => ⟨⟨(-2), _, rfl, (by first | rfl | decide | (simp only [sp_slot]; (repeat' split) <;> first | rfl | (exfalso; omega))), by rw [ht]; exact hP, hD⟩, hS.F ht⟩) hS.2.2 dX10_done_9

set_option maxHeartbeats 4000000 in
set_option maxRecDepth 100000 in
theorem kX10_write (l : Launch) (G : va_G) (y : Nat → ClassId) (sz : Nat) (ob : Nat) (a1 : Int32) (a2 : Int32) (a3 : Int64) (ob_0 : Value) (wo : Nat) (mi : Nat) (hm : Nat) (mt : Nat) (fv : Nat) (fr : Nat) (ob_15 : Value) (ob_16 : Value) (ob_17 : Value) (ob_18 : Value) (ob_19 : Value) (ob_20 : Value) (ob_21 : Value) (ob_22 : Value) (ob_23 : Value) (ob_24 : Value) (ob_25 : Value) (ob_26 : Value) (ob_27 : Value) (ob_28 : Value) (ob_29 : Value) (ob_30 : Value) (ob_31 : Value) (ob_32 : Value) (ob_33 : Value) (ob_34 : Value) (cd : Nat) (ob_36 : Value) (my : Nat) (wi : Nat) (nb : Nat) (mv : Nat) (fy : Nat → Int32) (y0 : fy 0 = (-1)) (y1 : fy 1 = (-1)) (y2 : fy 2 = (-1)) (y3 : fy 3 = (-1)) : Met l yX10_write (Cond.code yX10_write cX10_write 5 (some .int) :: wAll) ({ frames := 2, cells := 0, slots := 0, locals := 45 }) (va_Pc [.ref ob, .int a1, .int a2, .long a3] (kp G y sz [(ob, .inr (10, [ob_0, .ref wo, .ref mi, .ref hm, .ref mt, .int 0, .ref fv, .int 0, .int 0, .int 0, .int 0, .int 0, .int 0, .int (-1), .ref fr, ob_15, ob_16, ob_17, ob_18, ob_19, ob_20, ob_21, ob_22, ob_23, ob_24, ob_25, ob_26, ob_27, ob_28, ob_29, ob_30, ob_31, ob_32, ob_33, ob_34, .ref cd, ob_36, .ref my, .ref wi, .ref nb, .ref mv])), (my, .inl (y 1, 4, .inl fy))])) (va_Qi (fun (r : Int32) (_ : va_W) => r = sp_slot a1) (kq G (va_A [(ob, .inr (10, [ob_0, .ref wo, .ref mi, .ref hm, .ref mt, .int 0, .ref fv, .int 0, .int 0, .int 0, .int 0, .int 0, .int 0, .int (-1), .ref fr, ob_15, ob_16, ob_17, ob_18, ob_19, ob_20, ob_21, ob_22, ob_23, ob_24, ob_25, ob_26, ob_27, ob_28, ob_29, ob_30, ob_31, ob_32, ob_33, ob_34, .ref cd, ob_36, .ref my, .ref wi, .ref nb, .ref mv])), (my, .inl (y 1, 4, .inl fy))] sz)) (va_A [(ob, .inr (10, [ob_0, .ref wo, .ref mi, .ref hm, .ref mt, .int 0, .ref fv, .int 0, .int 0, .int 0, .int 0, .int 0, .int 0, .int (-1), .ref fr, ob_15, ob_16, ob_17, ob_18, ob_19, ob_20, ob_21, ob_22, ob_23, ob_24, ob_25, ob_26, ob_27, ob_28, ob_29, ob_30, ob_31, ob_32, ob_33, ob_34, .ref cd, ob_36, .ref my, .ref wi, .ref nb, .ref mv])), (my, .inl (y 1, 4, .inl fy))] sz)) 0 0 (va_A [(ob, .inr (10, [ob_0, .ref wo, .ref mi, .ref hm, .ref mt, .int 0, .ref fv, .int 0, .int 0, .int 0, .int 0, .int 0, .int 0, .int (-1), .ref fr, ob_15, ob_16, ob_17, ob_18, ob_19, ob_20, ob_21, ob_22, ob_23, ob_24, ob_25, ob_26, ob_27, ob_28, ob_29, ob_30, ob_31, ob_32, ob_33, ob_34, .ref cd, ob_36, .ref my, .ref wi, .ref nb, .ref mv])), (my, .inl (y 1, 4, .inl fy))] sz) := by
  refine Met.ofW (cc := cX10_write) (maxL := 5) (ret := (some .int)) (by decide) rfl ?_
  intro p e s m args below meth c s₁ B hml hv
  obtain ⟨rfl, hsz, hP, hK, hD0⟩ := hv
  have hx := B.exec
  have hb := B.bytes
  have hr := B.returns
  have hw0 : ∀ w ∈ wAll, w.before _ s = true := fun w h => atoms_spec (ws := Cond.code yX10_write cX10_write 5 (some .int) :: wAll) B.pre w (List.mem_cons_of_mem _ h)
  have hown : s.vm.findClass RX10 = some m.cls := findClass_of_methodNamed B.named
  have hlocks := B.notSynchronized
  subst hsz
  have hD := hD0.self (sz := s.heap.size)
  generalize hAe : va_A [(ob, .inr (10, [ob_0, .ref wo, .ref mi, .ref hm, .ref mt, .int 0, .ref fv, .int 0, .int 0, .int 0, .int 0, .int 0, .int 0, .int (-1), .ref fr, ob_15, ob_16, ob_17, ob_18, ob_19, ob_20, ob_21, ob_22, ob_23, ob_24, ob_25, ob_26, ob_27, ob_28, ob_29, ob_30, ob_31, ob_32, ob_33, ob_34, .ref cd, ob_36, .ref my, .ref wi, .ref nb, .ref mv])), (my, .inl (y 1, 4, .inl fy))] s.heap.size = A at hD ⊢
  have hA : ∀ q : Nat, s.heap.size ≤ q → A q := fun q h => by rw [← hAe]; exact Or.inr h
  have hS : va_S A s.heap s.heap [] := va_S.rf
  have hP : va_P G vwCl [(ob, .inr (10, [ob_0, .ref wo, .ref mi, .ref hm, .ref mt, .int 0, .ref fv, .int 0, .int 0, .int 0, .int 0, .int 0, .int 0, .int (-1), .ref fr, ob_15, ob_16, ob_17, ob_18, ob_19, ob_20, ob_21, ob_22, ob_23, ob_24, ob_25, ob_26, ob_27, ob_28, ob_29, ob_30, ob_31, ob_32, ob_33, ob_34, .ref cd, ob_36, .ref my, .ref wi, .ref nb, .ref mv])), (my, .inl (y 1, 4, .inl fy))] s.heap := hP
  have hl := lv_entry ([.ref ob, .int a1, .int a2, .long a3]) (n := 5) (Nat.le_of_ble_eq_true rfl)
  rw [lg_entry_eq]
  generalize (lg_sl ([.ref ob, .int a1, .int a2, .long a3]) ++ List.replicate (5 - (lg_sl ([.ref ob, .int a1, .int a2, .long a3])).length) Slot.unset).toArray = ls at hl ⊢
  have hl : lv_has ls 5 [(0, .ref ob), (1, .int a1), (2, .int a2), (3, .long a3)] := hl
  rcases sl_cases a1 with rfl | rfl | rfl | rfl | t_a1
  · have hl : lv_has ls 5 [(0, .ref ob), (1, .int 0), (2, .int a2), (3, .long a3)] := hl
    refine lv_iload_n hx hb dX10_write_0 rfl (lv_at hl 1 rfl) ?_
    refine cSi (As := [.int 0]) (rest := []) ⟨hx, hb, hml, hown, hw0⟩ hA hK hP hD hS [] [0, 1] [] [(ob, .inr (10, [ob_0, .ref wo, .ref mi, .ref hm, .ref mt, .int 0, .ref fv, .int 0, .int 0, .int 0, .int 0, .int 0, .int 0, .int (-1), .ref fr, ob_15, ob_16, ob_17, ob_18, ob_19, ob_20, ob_21, ob_22, ob_23, ob_24, ob_25, ob_26, ob_27, ob_28, ob_29, ob_30, ob_31, ob_32, ob_33, ob_34, .ref cd, ob_36, .ref my, .ref wi, .ref nb, .ref mv])), (my, .inl (y 1, 4, .inl fy))] rfl rfl (by decide) (by decide) (by decide) (kX10_isSlot l G y _ 0 ) ⟨(callB_of 1 hw0 (gA m_169) rfl rfl rfl (hw0 _ m_166) (hw0 _ m_378) (by decide +kernel) ⟨Nat.le_of_ble_eq_true rfl, Nat.le_of_ble_eq_true rfl⟩), (hw0 _ m_379)⟩ rfl hl.1 (Nat.le_of_ble_eq_true rfl) dX10_write_1 ⟨Nat.le_of_ble_eq_true rfl, Nat.le_of_ble_eq_true rfl⟩ (fun r_1 w_1 H locs hw_1 hP hD hS => ?_)
    rcases hw_1 with ⟨c_2, rfl, rfl⟩ | ⟨c_3, rfl, rfl⟩
    · skip
      have hP : va_P G vwCl [(ob, .inr (10, [ob_0, .ref wo, .ref mi, .ref hm, .ref mt, .int 0, .ref fv, .int 0, .int 0, .int 0, .int 0, .int 0, .int 0, .int (-1), .ref fr, ob_15, ob_16, ob_17, ob_18, ob_19, ob_20, ob_21, ob_22, ob_23, ob_24, ob_25, ob_26, ob_27, ob_28, ob_29, ob_30, ob_31, ob_32, ob_33, ob_34, .ref cd, ob_36, .ref my, .ref wi, .ref nb, .ref mv])), (my, .inl (y 1, 4, .inl fy))] H := hP
      have hD : va_D A [(ob, .inr (10, [ob_0, .ref wo, .ref mi, .ref hm, .ref mt, .int 0, .ref fv, .int 0, .int 0, .int 0, .int 0, .int 0, .int 0, .int (-1), .ref fr, ob_15, ob_16, ob_17, ob_18, ob_19, ob_20, ob_21, ob_22, ob_23, ob_24, ob_25, ob_26, ob_27, ob_28, ob_29, ob_30, ob_31, ob_32, ob_33, ob_34, .ref cd, ob_36, .ref my, .ref wi, .ref nb, .ref mv])), (my, .inl (y 1, 4, .inl fy))] := hD
      refine lv_if_ne (tgt := 10) hx hb dX10_write_4 (by decide) (fun _ => ?_) (fun c9 => absurd c9 (by decide))
      refine lv_aload_n hx hb dX10_write_10 rfl (lv_at hl 0 rfl) ?_
      refine va_get (D := G) (ci := 10) (v := .ref my) (C := RX10) (T := TX10) (N := 41) hx hb hw0 inA_wsX100 hown hK.1 hP 0 rfl rfl 37 (by decide) (hw0 _ m_157) (fun _ h9 => h9) rfl dX10_write_11 ?_
      refine lv_iload_n hx hb dX10_write_14 rfl (lv_at hl 1 rfl) ?_
      refine va_iald hx hb hK.1 hP 1 1 rfl rfl (vp_in_nI (n := 0) (N := 4) (by decide) (by decide)) dX10_write_15 ?_
      refine lv_topi (fun v_4 ev_4 => ?_)
      obtain rfl : (-1) = v_4 := (ev_4.trans (y0)).symm
      refine lv_iconst (v := (-1)) hx hb dX10_write_16 (by decide) ?_
      refine lv_icmp_ne (tgt := 23) hx hb dX10_write_17 (by decide) (fun c9 => absurd (by decide) c9) (fun _ => ?_)
      refine lv_bipush (v := (-6)) hx hb dX10_write_20 (by decide) ?_
      refine W.widen (k := 0) (n := 0) (Nat.le_of_ble_eq_true rfl) (Nat.le_of_ble_eq_true rfl) ?_
      exact W.iret (v := (-6)) hx hb hr (fun t ht hW => ⟨⟨(-6), _, rfl, (by first | rfl | decide | (simp only [sp_slot]; (repeat' split) <;> first | rfl | (exfalso; omega))), by rw [ht]; exact hP, hD⟩, hS.F ht⟩) hS.2.2 dX10_write_22
    · skip
      exact absurd c_3 (by decide)
  · have hl : lv_has ls 5 [(0, .ref ob), (1, .int 1), (2, .int a2), (3, .long a3)] := hl
    refine lv_iload_n hx hb dX10_write_0 rfl (lv_at hl 1 rfl) ?_
    refine cSi (As := [.int 1]) (rest := []) ⟨hx, hb, hml, hown, hw0⟩ hA hK hP hD hS [] [0, 1] [] [(ob, .inr (10, [ob_0, .ref wo, .ref mi, .ref hm, .ref mt, .int 0, .ref fv, .int 0, .int 0, .int 0, .int 0, .int 0, .int 0, .int (-1), .ref fr, ob_15, ob_16, ob_17, ob_18, ob_19, ob_20, ob_21, ob_22, ob_23, ob_24, ob_25, ob_26, ob_27, ob_28, ob_29, ob_30, ob_31, ob_32, ob_33, ob_34, .ref cd, ob_36, .ref my, .ref wi, .ref nb, .ref mv])), (my, .inl (y 1, 4, .inl fy))] rfl rfl (by decide) (by decide) (by decide) (kX10_isSlot l G y _ 1 ) ⟨(callB_of 1 hw0 (gA m_169) rfl rfl rfl (hw0 _ m_166) (hw0 _ m_378) (by decide +kernel) ⟨Nat.le_of_ble_eq_true rfl, Nat.le_of_ble_eq_true rfl⟩), (hw0 _ m_379)⟩ rfl hl.1 (Nat.le_of_ble_eq_true rfl) dX10_write_1 ⟨Nat.le_of_ble_eq_true rfl, Nat.le_of_ble_eq_true rfl⟩ (fun r_5 w_5 H locs hw_5 hP hD hS => ?_)
    rcases hw_5 with ⟨c_6, rfl, rfl⟩ | ⟨c_7, rfl, rfl⟩
    · skip
      have hP : va_P G vwCl [(ob, .inr (10, [ob_0, .ref wo, .ref mi, .ref hm, .ref mt, .int 0, .ref fv, .int 0, .int 0, .int 0, .int 0, .int 0, .int 0, .int (-1), .ref fr, ob_15, ob_16, ob_17, ob_18, ob_19, ob_20, ob_21, ob_22, ob_23, ob_24, ob_25, ob_26, ob_27, ob_28, ob_29, ob_30, ob_31, ob_32, ob_33, ob_34, .ref cd, ob_36, .ref my, .ref wi, .ref nb, .ref mv])), (my, .inl (y 1, 4, .inl fy))] H := hP
      have hD : va_D A [(ob, .inr (10, [ob_0, .ref wo, .ref mi, .ref hm, .ref mt, .int 0, .ref fv, .int 0, .int 0, .int 0, .int 0, .int 0, .int 0, .int (-1), .ref fr, ob_15, ob_16, ob_17, ob_18, ob_19, ob_20, ob_21, ob_22, ob_23, ob_24, ob_25, ob_26, ob_27, ob_28, ob_29, ob_30, ob_31, ob_32, ob_33, ob_34, .ref cd, ob_36, .ref my, .ref wi, .ref nb, .ref mv])), (my, .inl (y 1, 4, .inl fy))] := hD
      refine lv_if_ne (tgt := 10) hx hb dX10_write_4 (by decide) (fun _ => ?_) (fun c9 => absurd c9 (by decide))
      refine lv_aload_n hx hb dX10_write_10 rfl (lv_at hl 0 rfl) ?_
      refine va_get (D := G) (ci := 10) (v := .ref my) (C := RX10) (T := TX10) (N := 41) hx hb hw0 inA_wsX100 hown hK.1 hP 0 rfl rfl 37 (by decide) (hw0 _ m_157) (fun _ h9 => h9) rfl dX10_write_11 ?_
      refine lv_iload_n hx hb dX10_write_14 rfl (lv_at hl 1 rfl) ?_
      refine va_iald hx hb hK.1 hP 1 1 rfl rfl (vp_in_nI (n := 1) (N := 4) (by decide) (by decide)) dX10_write_15 ?_
      refine lv_topi (fun v_8 ev_8 => ?_)
      obtain rfl : (-1) = v_8 := (ev_8.trans (y1)).symm
      refine lv_iconst (v := (-1)) hx hb dX10_write_16 (by decide) ?_
      refine lv_icmp_ne (tgt := 23) hx hb dX10_write_17 (by decide) (fun c9 => absurd (by decide) c9) (fun _ => ?_)
      refine lv_bipush (v := (-6)) hx hb dX10_write_20 (by decide) ?_
      refine W.widen (k := 0) (n := 0) (Nat.le_of_ble_eq_true rfl) (Nat.le_of_ble_eq_true rfl) ?_
      exact W.iret (v := (-6)) hx hb hr (fun t ht hW => ⟨⟨(-6), _, rfl, (by first | rfl | decide | (simp only [sp_slot]; (repeat' split) <;> first | rfl | (exfalso; omega))), by rw [ht]; exact hP, hD⟩, hS.F ht⟩) hS.2.2 dX10_write_22
    · skip
      exact absurd c_7 (by decide)
  · have hl : lv_has ls 5 [(0, .ref ob), (1, .int 2), (2, .int a2), (3, .long a3)] := hl
    refine lv_iload_n hx hb dX10_write_0 rfl (lv_at hl 1 rfl) ?_
    refine cSi (As := [.int 2]) (rest := []) ⟨hx, hb, hml, hown, hw0⟩ hA hK hP hD hS [] [0, 1] [] [(ob, .inr (10, [ob_0, .ref wo, .ref mi, .ref hm, .ref mt, .int 0, .ref fv, .int 0, .int 0, .int 0, .int 0, .int 0, .int 0, .int (-1), .ref fr, ob_15, ob_16, ob_17, ob_18, ob_19, ob_20, ob_21, ob_22, ob_23, ob_24, ob_25, ob_26, ob_27, ob_28, ob_29, ob_30, ob_31, ob_32, ob_33, ob_34, .ref cd, ob_36, .ref my, .ref wi, .ref nb, .ref mv])), (my, .inl (y 1, 4, .inl fy))] rfl rfl (by decide) (by decide) (by decide) (kX10_isSlot l G y _ 2 ) ⟨(callB_of 1 hw0 (gA m_169) rfl rfl rfl (hw0 _ m_166) (hw0 _ m_378) (by decide +kernel) ⟨Nat.le_of_ble_eq_true rfl, Nat.le_of_ble_eq_true rfl⟩), (hw0 _ m_379)⟩ rfl hl.1 (Nat.le_of_ble_eq_true rfl) dX10_write_1 ⟨Nat.le_of_ble_eq_true rfl, Nat.le_of_ble_eq_true rfl⟩ (fun r_9 w_9 H locs hw_9 hP hD hS => ?_)
    rcases hw_9 with ⟨c_10, rfl, rfl⟩ | ⟨c_11, rfl, rfl⟩
    · skip
      have hP : va_P G vwCl [(ob, .inr (10, [ob_0, .ref wo, .ref mi, .ref hm, .ref mt, .int 0, .ref fv, .int 0, .int 0, .int 0, .int 0, .int 0, .int 0, .int (-1), .ref fr, ob_15, ob_16, ob_17, ob_18, ob_19, ob_20, ob_21, ob_22, ob_23, ob_24, ob_25, ob_26, ob_27, ob_28, ob_29, ob_30, ob_31, ob_32, ob_33, ob_34, .ref cd, ob_36, .ref my, .ref wi, .ref nb, .ref mv])), (my, .inl (y 1, 4, .inl fy))] H := hP
      have hD : va_D A [(ob, .inr (10, [ob_0, .ref wo, .ref mi, .ref hm, .ref mt, .int 0, .ref fv, .int 0, .int 0, .int 0, .int 0, .int 0, .int 0, .int (-1), .ref fr, ob_15, ob_16, ob_17, ob_18, ob_19, ob_20, ob_21, ob_22, ob_23, ob_24, ob_25, ob_26, ob_27, ob_28, ob_29, ob_30, ob_31, ob_32, ob_33, ob_34, .ref cd, ob_36, .ref my, .ref wi, .ref nb, .ref mv])), (my, .inl (y 1, 4, .inl fy))] := hD
      refine lv_if_ne (tgt := 10) hx hb dX10_write_4 (by decide) (fun _ => ?_) (fun c9 => absurd c9 (by decide))
      refine lv_aload_n hx hb dX10_write_10 rfl (lv_at hl 0 rfl) ?_
      refine va_get (D := G) (ci := 10) (v := .ref my) (C := RX10) (T := TX10) (N := 41) hx hb hw0 inA_wsX100 hown hK.1 hP 0 rfl rfl 37 (by decide) (hw0 _ m_157) (fun _ h9 => h9) rfl dX10_write_11 ?_
      refine lv_iload_n hx hb dX10_write_14 rfl (lv_at hl 1 rfl) ?_
      refine va_iald hx hb hK.1 hP 1 1 rfl rfl (vp_in_nI (n := 2) (N := 4) (by decide) (by decide)) dX10_write_15 ?_
      refine lv_topi (fun v_12 ev_12 => ?_)
      obtain rfl : (-1) = v_12 := (ev_12.trans (y2)).symm
      refine lv_iconst (v := (-1)) hx hb dX10_write_16 (by decide) ?_
      refine lv_icmp_ne (tgt := 23) hx hb dX10_write_17 (by decide) (fun c9 => absurd (by decide) c9) (fun _ => ?_)
      refine lv_bipush (v := (-6)) hx hb dX10_write_20 (by decide) ?_
      refine W.widen (k := 0) (n := 0) (Nat.le_of_ble_eq_true rfl) (Nat.le_of_ble_eq_true rfl) ?_
      exact W.iret (v := (-6)) hx hb hr (fun t ht hW => ⟨⟨(-6), _, rfl, (by first | rfl | decide | (simp only [sp_slot]; (repeat' split) <;> first | rfl | (exfalso; omega))), by rw [ht]; exact hP, hD⟩, hS.F ht⟩) hS.2.2 dX10_write_22
    · skip
      exact absurd c_11 (by decide)
  · have hl : lv_has ls 5 [(0, .ref ob), (1, .int 3), (2, .int a2), (3, .long a3)] := hl
    refine lv_iload_n hx hb dX10_write_0 rfl (lv_at hl 1 rfl) ?_
    refine cSi (As := [.int 3]) (rest := []) ⟨hx, hb, hml, hown, hw0⟩ hA hK hP hD hS [] [0, 1] [] [(ob, .inr (10, [ob_0, .ref wo, .ref mi, .ref hm, .ref mt, .int 0, .ref fv, .int 0, .int 0, .int 0, .int 0, .int 0, .int 0, .int (-1), .ref fr, ob_15, ob_16, ob_17, ob_18, ob_19, ob_20, ob_21, ob_22, ob_23, ob_24, ob_25, ob_26, ob_27, ob_28, ob_29, ob_30, ob_31, ob_32, ob_33, ob_34, .ref cd, ob_36, .ref my, .ref wi, .ref nb, .ref mv])), (my, .inl (y 1, 4, .inl fy))] rfl rfl (by decide) (by decide) (by decide) (kX10_isSlot l G y _ 3 ) ⟨(callB_of 1 hw0 (gA m_169) rfl rfl rfl (hw0 _ m_166) (hw0 _ m_378) (by decide +kernel) ⟨Nat.le_of_ble_eq_true rfl, Nat.le_of_ble_eq_true rfl⟩), (hw0 _ m_379)⟩ rfl hl.1 (Nat.le_of_ble_eq_true rfl) dX10_write_1 ⟨Nat.le_of_ble_eq_true rfl, Nat.le_of_ble_eq_true rfl⟩ (fun r_13 w_13 H locs hw_13 hP hD hS => ?_)
    rcases hw_13 with ⟨c_14, rfl, rfl⟩ | ⟨c_15, rfl, rfl⟩
    · skip
      have hP : va_P G vwCl [(ob, .inr (10, [ob_0, .ref wo, .ref mi, .ref hm, .ref mt, .int 0, .ref fv, .int 0, .int 0, .int 0, .int 0, .int 0, .int 0, .int (-1), .ref fr, ob_15, ob_16, ob_17, ob_18, ob_19, ob_20, ob_21, ob_22, ob_23, ob_24, ob_25, ob_26, ob_27, ob_28, ob_29, ob_30, ob_31, ob_32, ob_33, ob_34, .ref cd, ob_36, .ref my, .ref wi, .ref nb, .ref mv])), (my, .inl (y 1, 4, .inl fy))] H := hP
      have hD : va_D A [(ob, .inr (10, [ob_0, .ref wo, .ref mi, .ref hm, .ref mt, .int 0, .ref fv, .int 0, .int 0, .int 0, .int 0, .int 0, .int 0, .int (-1), .ref fr, ob_15, ob_16, ob_17, ob_18, ob_19, ob_20, ob_21, ob_22, ob_23, ob_24, ob_25, ob_26, ob_27, ob_28, ob_29, ob_30, ob_31, ob_32, ob_33, ob_34, .ref cd, ob_36, .ref my, .ref wi, .ref nb, .ref mv])), (my, .inl (y 1, 4, .inl fy))] := hD
      refine lv_if_ne (tgt := 10) hx hb dX10_write_4 (by decide) (fun _ => ?_) (fun c9 => absurd c9 (by decide))
      refine lv_aload_n hx hb dX10_write_10 rfl (lv_at hl 0 rfl) ?_
      refine va_get (D := G) (ci := 10) (v := .ref my) (C := RX10) (T := TX10) (N := 41) hx hb hw0 inA_wsX100 hown hK.1 hP 0 rfl rfl 37 (by decide) (hw0 _ m_157) (fun _ h9 => h9) rfl dX10_write_11 ?_
      refine lv_iload_n hx hb dX10_write_14 rfl (lv_at hl 1 rfl) ?_
      refine va_iald hx hb hK.1 hP 1 1 rfl rfl (vp_in_nI (n := 3) (N := 4) (by decide) (by decide)) dX10_write_15 ?_
      refine lv_topi (fun v_16 ev_16 => ?_)
      obtain rfl : (-1) = v_16 := (ev_16.trans (y3)).symm
      refine lv_iconst (v := (-1)) hx hb dX10_write_16 (by decide) ?_
      refine lv_icmp_ne (tgt := 23) hx hb dX10_write_17 (by decide) (fun c9 => absurd (by decide) c9) (fun _ => ?_)
      refine lv_bipush (v := (-6)) hx hb dX10_write_20 (by decide) ?_
      refine W.widen (k := 0) (n := 0) (Nat.le_of_ble_eq_true rfl) (Nat.le_of_ble_eq_true rfl) ?_
      exact W.iret (v := (-6)) hx hb hr (fun t ht hW => ⟨⟨(-6), _, rfl, (by first | rfl | decide | (simp only [sp_slot]; (repeat' split) <;> first | rfl | (exfalso; omega))), by rw [ht]; exact hP, hD⟩, hS.F ht⟩) hS.2.2 dX10_write_22
    · skip
      exact absurd c_15 (by decide)
  · have hl : lv_has ls 5 [(0, .ref ob), (1, .int a1), (2, .int a2), (3, .long a3)] := hl
    refine lv_iload_n hx hb dX10_write_0 rfl (lv_at hl 1 rfl) ?_
    refine cSi (As := [.int a1]) (rest := []) ⟨hx, hb, hml, hown, hw0⟩ hA hK hP hD hS [] [0, 1] [] [(ob, .inr (10, [ob_0, .ref wo, .ref mi, .ref hm, .ref mt, .int 0, .ref fv, .int 0, .int 0, .int 0, .int 0, .int 0, .int 0, .int (-1), .ref fr, ob_15, ob_16, ob_17, ob_18, ob_19, ob_20, ob_21, ob_22, ob_23, ob_24, ob_25, ob_26, ob_27, ob_28, ob_29, ob_30, ob_31, ob_32, ob_33, ob_34, .ref cd, ob_36, .ref my, .ref wi, .ref nb, .ref mv])), (my, .inl (y 1, 4, .inl fy))] rfl rfl (by decide) (by decide) (by decide) (kX10_isSlot l G y _ a1 ) ⟨(callB_of 1 hw0 (gA m_169) rfl rfl rfl (hw0 _ m_166) (hw0 _ m_378) (by decide +kernel) ⟨Nat.le_of_ble_eq_true rfl, Nat.le_of_ble_eq_true rfl⟩), (hw0 _ m_379)⟩ rfl hl.1 (Nat.le_of_ble_eq_true rfl) dX10_write_1 ⟨Nat.le_of_ble_eq_true rfl, Nat.le_of_ble_eq_true rfl⟩ (fun r_17 w_17 H locs hw_17 hP hD hS => ?_)
    rcases hw_17 with ⟨c_18, rfl, rfl⟩ | ⟨c_19, rfl, rfl⟩
    · skip
      exfalso; omega
    · skip
      have hP : va_P G vwCl [(ob, .inr (10, [ob_0, .ref wo, .ref mi, .ref hm, .ref mt, .int 0, .ref fv, .int 0, .int 0, .int 0, .int 0, .int 0, .int 0, .int (-1), .ref fr, ob_15, ob_16, ob_17, ob_18, ob_19, ob_20, ob_21, ob_22, ob_23, ob_24, ob_25, ob_26, ob_27, ob_28, ob_29, ob_30, ob_31, ob_32, ob_33, ob_34, .ref cd, ob_36, .ref my, .ref wi, .ref nb, .ref mv])), (my, .inl (y 1, 4, .inl fy))] H := hP
      have hD : va_D A [(ob, .inr (10, [ob_0, .ref wo, .ref mi, .ref hm, .ref mt, .int 0, .ref fv, .int 0, .int 0, .int 0, .int 0, .int 0, .int 0, .int (-1), .ref fr, ob_15, ob_16, ob_17, ob_18, ob_19, ob_20, ob_21, ob_22, ob_23, ob_24, ob_25, ob_26, ob_27, ob_28, ob_29, ob_30, ob_31, ob_32, ob_33, ob_34, .ref cd, ob_36, .ref my, .ref wi, .ref nb, .ref mv])), (my, .inl (y 1, 4, .inl fy))] := hD
      refine lv_if_ne (tgt := 10) hx hb dX10_write_4 (by decide) (fun c9 => absurd (by decide) c9) (fun _ => ?_)
      refine lv_bipush (v := (-2)) hx hb dX10_write_7 (by decide) ?_
      refine W.widen (k := 0) (n := 0) (Nat.le_of_ble_eq_true rfl) (Nat.le_of_ble_eq_true rfl) ?_
      exact W.iret (v := (-2)) hx hb hr (fun t ht hW => ⟨⟨(-2), _, rfl, (by first | rfl | decide | (simp only [sp_slot]; (repeat' split) <;> first | rfl | (exfalso; omega))), by rw [ht]; exact hP, hD⟩, hS.F ht⟩) hS.2.2 dX10_write_9

set_option maxHeartbeats 4000000 in
set_option maxRecDepth 100000 in
theorem kX10_paste (l : Launch) (G : va_G) (y : Nat → ClassId) (sz : Nat) (ob : Nat) (a1 : Int32) (a2 : Int32) (a3 : Int32) (a4 : Int32) (a5 : Int32) (ob_0 : Value) (wo : Nat) (mi : Nat) (hm : Nat) (mt : Nat) (fv : Nat) (fr : Nat) (ob_15 : Value) (ob_16 : Value) (ob_17 : Value) (ob_18 : Value) (ob_19 : Value) (ob_20 : Value) (ob_21 : Value) (ob_22 : Value) (ob_23 : Value) (ob_24 : Value) (ob_25 : Value) (ob_26 : Value) (ob_27 : Value) (ob_28 : Value) (ob_29 : Value) (ob_30 : Value) (ob_31 : Value) (ob_32 : Value) (ob_33 : Value) (ob_34 : Value) (cd : Nat) (ob_36 : Value) (my : Nat) (wi : Nat) (nb : Nat) (mv : Nat) (fy : Nat → Int32) (y0 : fy 0 = (-1)) (y1 : fy 1 = (-1)) (y2 : fy 2 = (-1)) (y3 : fy 3 = (-1)) : Met l yX10_paste (Cond.code yX10_paste cX10_paste 7 (some .int) :: wAll) ({ frames := 2, cells := 0, slots := 0, locals := 45 }) (va_Pc [.ref ob, .int a1, .int a2, .int a3, .int a4, .int a5] (kp G y sz [(ob, .inr (10, [ob_0, .ref wo, .ref mi, .ref hm, .ref mt, .int 0, .ref fv, .int 0, .int 0, .int 0, .int 0, .int 0, .int 0, .int (-1), .ref fr, ob_15, ob_16, ob_17, ob_18, ob_19, ob_20, ob_21, ob_22, ob_23, ob_24, ob_25, ob_26, ob_27, ob_28, ob_29, ob_30, ob_31, ob_32, ob_33, ob_34, .ref cd, ob_36, .ref my, .ref wi, .ref nb, .ref mv])), (my, .inl (y 1, 4, .inl fy))])) (va_Qi (fun (r : Int32) (_ : va_W) => r = sp_paste a1 a3) (kq G (va_A [(ob, .inr (10, [ob_0, .ref wo, .ref mi, .ref hm, .ref mt, .int 0, .ref fv, .int 0, .int 0, .int 0, .int 0, .int 0, .int 0, .int (-1), .ref fr, ob_15, ob_16, ob_17, ob_18, ob_19, ob_20, ob_21, ob_22, ob_23, ob_24, ob_25, ob_26, ob_27, ob_28, ob_29, ob_30, ob_31, ob_32, ob_33, ob_34, .ref cd, ob_36, .ref my, .ref wi, .ref nb, .ref mv])), (my, .inl (y 1, 4, .inl fy))] sz)) (va_A [(ob, .inr (10, [ob_0, .ref wo, .ref mi, .ref hm, .ref mt, .int 0, .ref fv, .int 0, .int 0, .int 0, .int 0, .int 0, .int 0, .int (-1), .ref fr, ob_15, ob_16, ob_17, ob_18, ob_19, ob_20, ob_21, ob_22, ob_23, ob_24, ob_25, ob_26, ob_27, ob_28, ob_29, ob_30, ob_31, ob_32, ob_33, ob_34, .ref cd, ob_36, .ref my, .ref wi, .ref nb, .ref mv])), (my, .inl (y 1, 4, .inl fy))] sz)) 0 0 (va_A [(ob, .inr (10, [ob_0, .ref wo, .ref mi, .ref hm, .ref mt, .int 0, .ref fv, .int 0, .int 0, .int 0, .int 0, .int 0, .int 0, .int (-1), .ref fr, ob_15, ob_16, ob_17, ob_18, ob_19, ob_20, ob_21, ob_22, ob_23, ob_24, ob_25, ob_26, ob_27, ob_28, ob_29, ob_30, ob_31, ob_32, ob_33, ob_34, .ref cd, ob_36, .ref my, .ref wi, .ref nb, .ref mv])), (my, .inl (y 1, 4, .inl fy))] sz) := by
  refine Met.ofW (cc := cX10_paste) (maxL := 7) (ret := (some .int)) (by decide) rfl ?_
  intro p e s m args below meth c s₁ B hml hv
  obtain ⟨rfl, hsz, hP, hK, hD0⟩ := hv
  have hx := B.exec
  have hb := B.bytes
  have hr := B.returns
  have hw0 : ∀ w ∈ wAll, w.before _ s = true := fun w h => atoms_spec (ws := Cond.code yX10_paste cX10_paste 7 (some .int) :: wAll) B.pre w (List.mem_cons_of_mem _ h)
  have hown : s.vm.findClass RX10 = some m.cls := findClass_of_methodNamed B.named
  have hlocks := B.notSynchronized
  subst hsz
  have hD := hD0.self (sz := s.heap.size)
  generalize hAe : va_A [(ob, .inr (10, [ob_0, .ref wo, .ref mi, .ref hm, .ref mt, .int 0, .ref fv, .int 0, .int 0, .int 0, .int 0, .int 0, .int 0, .int (-1), .ref fr, ob_15, ob_16, ob_17, ob_18, ob_19, ob_20, ob_21, ob_22, ob_23, ob_24, ob_25, ob_26, ob_27, ob_28, ob_29, ob_30, ob_31, ob_32, ob_33, ob_34, .ref cd, ob_36, .ref my, .ref wi, .ref nb, .ref mv])), (my, .inl (y 1, 4, .inl fy))] s.heap.size = A at hD ⊢
  have hA : ∀ q : Nat, s.heap.size ≤ q → A q := fun q h => by rw [← hAe]; exact Or.inr h
  have hS : va_S A s.heap s.heap [] := va_S.rf
  have hP : va_P G vwCl [(ob, .inr (10, [ob_0, .ref wo, .ref mi, .ref hm, .ref mt, .int 0, .ref fv, .int 0, .int 0, .int 0, .int 0, .int 0, .int 0, .int (-1), .ref fr, ob_15, ob_16, ob_17, ob_18, ob_19, ob_20, ob_21, ob_22, ob_23, ob_24, ob_25, ob_26, ob_27, ob_28, ob_29, ob_30, ob_31, ob_32, ob_33, ob_34, .ref cd, ob_36, .ref my, .ref wi, .ref nb, .ref mv])), (my, .inl (y 1, 4, .inl fy))] s.heap := hP
  have hl := lv_entry ([.ref ob, .int a1, .int a2, .int a3, .int a4, .int a5]) (n := 7) (Nat.le_of_ble_eq_true rfl)
  rw [lg_entry_eq]
  generalize (lg_sl ([.ref ob, .int a1, .int a2, .int a3, .int a4, .int a5]) ++ List.replicate (7 - (lg_sl ([.ref ob, .int a1, .int a2, .int a3, .int a4, .int a5])).length) Slot.unset).toArray = ls at hl ⊢
  have hl : lv_has ls 7 [(0, .ref ob), (1, .int a1), (2, .int a2), (3, .int a3), (4, .int a4), (5, .int a5)] := hl
  rcases sl_cases a1 with rfl | rfl | rfl | rfl | t_a1
  · have hl : lv_has ls 7 [(0, .ref ob), (1, .int 0), (2, .int a2), (3, .int a3), (4, .int a4), (5, .int a5)] := hl
    rcases sl_cases a3 with rfl | rfl | rfl | rfl | t_a3
    · have hl : lv_has ls 7 [(0, .ref ob), (1, .int 0), (2, .int a2), (3, .int 0), (4, .int a4), (5, .int a5)] := hl
      refine lv_iload_n hx hb dX10_paste_0 rfl (lv_at hl 1 rfl) ?_
      refine cSi (As := [.int 0]) (rest := []) ⟨hx, hb, hml, hown, hw0⟩ hA hK hP hD hS [] [0, 1] [] [(ob, .inr (10, [ob_0, .ref wo, .ref mi, .ref hm, .ref mt, .int 0, .ref fv, .int 0, .int 0, .int 0, .int 0, .int 0, .int 0, .int (-1), .ref fr, ob_15, ob_16, ob_17, ob_18, ob_19, ob_20, ob_21, ob_22, ob_23, ob_24, ob_25, ob_26, ob_27, ob_28, ob_29, ob_30, ob_31, ob_32, ob_33, ob_34, .ref cd, ob_36, .ref my, .ref wi, .ref nb, .ref mv])), (my, .inl (y 1, 4, .inl fy))] rfl rfl (by decide) (by decide) (by decide) (kX10_isSlot l G y _ 0 ) ⟨(callB_of 1 hw0 (gA m_169) rfl rfl rfl (hw0 _ m_166) (hw0 _ m_378) (by decide +kernel) ⟨Nat.le_of_ble_eq_true rfl, Nat.le_of_ble_eq_true rfl⟩), (hw0 _ m_379)⟩ rfl hl.1 (Nat.le_of_ble_eq_true rfl) dX10_paste_1 ⟨Nat.le_of_ble_eq_true rfl, Nat.le_of_ble_eq_true rfl⟩ (fun r_1 w_1 H locs hw_1 hP hD hS => ?_)
      rcases hw_1 with ⟨c_2, rfl, rfl⟩ | ⟨c_3, rfl, rfl⟩
      · skip
        have hP : va_P G vwCl [(ob, .inr (10, [ob_0, .ref wo, .ref mi, .ref hm, .ref mt, .int 0, .ref fv, .int 0, .int 0, .int 0, .int 0, .int 0, .int 0, .int (-1), .ref fr, ob_15, ob_16, ob_17, ob_18, ob_19, ob_20, ob_21, ob_22, ob_23, ob_24, ob_25, ob_26, ob_27, ob_28, ob_29, ob_30, ob_31, ob_32, ob_33, ob_34, .ref cd, ob_36, .ref my, .ref wi, .ref nb, .ref mv])), (my, .inl (y 1, 4, .inl fy))] H := hP
        have hD : va_D A [(ob, .inr (10, [ob_0, .ref wo, .ref mi, .ref hm, .ref mt, .int 0, .ref fv, .int 0, .int 0, .int 0, .int 0, .int 0, .int 0, .int (-1), .ref fr, ob_15, ob_16, ob_17, ob_18, ob_19, ob_20, ob_21, ob_22, ob_23, ob_24, ob_25, ob_26, ob_27, ob_28, ob_29, ob_30, ob_31, ob_32, ob_33, ob_34, .ref cd, ob_36, .ref my, .ref wi, .ref nb, .ref mv])), (my, .inl (y 1, 4, .inl fy))] := hD
        refine lv_if_eq (tgt := 14) hx hb dX10_paste_4 (by decide) (fun c9 => absurd c9 (by decide)) (fun _ => ?_)
        refine lv_iload_n hx hb dX10_paste_7 rfl (lv_at hl 3 rfl) ?_
        refine cSi (As := [.int 0]) (rest := []) ⟨hx, hb, hml, hown, hw0⟩ hA hK hP hD hS [] [0, 1] [] [(ob, .inr (10, [ob_0, .ref wo, .ref mi, .ref hm, .ref mt, .int 0, .ref fv, .int 0, .int 0, .int 0, .int 0, .int 0, .int 0, .int (-1), .ref fr, ob_15, ob_16, ob_17, ob_18, ob_19, ob_20, ob_21, ob_22, ob_23, ob_24, ob_25, ob_26, ob_27, ob_28, ob_29, ob_30, ob_31, ob_32, ob_33, ob_34, .ref cd, ob_36, .ref my, .ref wi, .ref nb, .ref mv])), (my, .inl (y 1, 4, .inl fy))] rfl rfl (by decide) (by decide) (by decide) (kX10_isSlot l G y _ 0 ) ⟨(callB_of 1 hw0 (gA m_169) rfl rfl rfl (hw0 _ m_166) (hw0 _ m_378) (by decide +kernel) ⟨Nat.le_of_ble_eq_true rfl, Nat.le_of_ble_eq_true rfl⟩), (hw0 _ m_379)⟩ rfl hl.1 (Nat.le_of_ble_eq_true rfl) dX10_paste_8 ⟨Nat.le_of_ble_eq_true rfl, Nat.le_of_ble_eq_true rfl⟩ (fun r_4 w_4 H locs hw_4 hP hD hS => ?_)
        rcases hw_4 with ⟨c_5, rfl, rfl⟩ | ⟨c_6, rfl, rfl⟩
        · skip
          have hP : va_P G vwCl [(ob, .inr (10, [ob_0, .ref wo, .ref mi, .ref hm, .ref mt, .int 0, .ref fv, .int 0, .int 0, .int 0, .int 0, .int 0, .int 0, .int (-1), .ref fr, ob_15, ob_16, ob_17, ob_18, ob_19, ob_20, ob_21, ob_22, ob_23, ob_24, ob_25, ob_26, ob_27, ob_28, ob_29, ob_30, ob_31, ob_32, ob_33, ob_34, .ref cd, ob_36, .ref my, .ref wi, .ref nb, .ref mv])), (my, .inl (y 1, 4, .inl fy))] H := hP
          have hD : va_D A [(ob, .inr (10, [ob_0, .ref wo, .ref mi, .ref hm, .ref mt, .int 0, .ref fv, .int 0, .int 0, .int 0, .int 0, .int 0, .int 0, .int (-1), .ref fr, ob_15, ob_16, ob_17, ob_18, ob_19, ob_20, ob_21, ob_22, ob_23, ob_24, ob_25, ob_26, ob_27, ob_28, ob_29, ob_30, ob_31, ob_32, ob_33, ob_34, .ref cd, ob_36, .ref my, .ref wi, .ref nb, .ref mv])), (my, .inl (y 1, 4, .inl fy))] := hD
          refine lv_if_ne (tgt := 17) hx hb dX10_paste_11 (by decide) (fun _ => ?_) (fun c9 => absurd c9 (by decide))
          refine lv_aload_n hx hb dX10_paste_17 rfl (lv_at hl 0 rfl) ?_
          refine va_get (D := G) (ci := 10) (v := .ref my) (C := RX10) (T := TX10) (N := 41) hx hb hw0 inA_wsX100 hown hK.1 hP 0 rfl rfl 37 (by decide) (hw0 _ m_157) (fun _ h9 => h9) rfl dX10_paste_18 ?_
          refine lv_iload_n hx hb dX10_paste_21 rfl (lv_at hl 1 rfl) ?_
          refine va_iald hx hb hK.1 hP 1 1 rfl rfl (vp_in_nI (n := 0) (N := 4) (by decide) (by decide)) dX10_paste_22 ?_
          refine lv_topi (fun v_7 ev_7 => ?_)
          obtain rfl : (-1) = v_7 := (ev_7.trans (y0)).symm
          refine lv_iconst (v := (-1)) hx hb dX10_paste_23 (by decide) ?_
          refine lv_icmp_eq (tgt := 37) hx hb dX10_paste_24 (by decide) (fun _ => ?_) (fun c9 => absurd (by decide) c9)
          refine lv_bipush (v := (-6)) hx hb dX10_paste_37 (by decide) ?_
          refine W.widen (k := 0) (n := 0) (Nat.le_of_ble_eq_true rfl) (Nat.le_of_ble_eq_true rfl) ?_
          exact W.iret (v := (-6)) hx hb hr (fun t ht hW => ⟨⟨(-6), _, rfl, (by first | rfl | decide | (simp only [sp_paste]; (repeat' split) <;> first | rfl | (exfalso; omega))), by rw [ht]; exact hP, hD⟩, hS.F ht⟩) hS.2.2 dX10_paste_39
        · skip
          exact absurd c_6 (by decide)
      · skip
        exact absurd c_3 (by decide)
    · have hl : lv_has ls 7 [(0, .ref ob), (1, .int 0), (2, .int a2), (3, .int 1), (4, .int a4), (5, .int a5)] := hl
      refine lv_iload_n hx hb dX10_paste_0 rfl (lv_at hl 1 rfl) ?_
      refine cSi (As := [.int 0]) (rest := []) ⟨hx, hb, hml, hown, hw0⟩ hA hK hP hD hS [] [0, 1] [] [(ob, .inr (10, [ob_0, .ref wo, .ref mi, .ref hm, .ref mt, .int 0, .ref fv, .int 0, .int 0, .int 0, .int 0, .int 0, .int 0, .int (-1), .ref fr, ob_15, ob_16, ob_17, ob_18, ob_19, ob_20, ob_21, ob_22, ob_23, ob_24, ob_25, ob_26, ob_27, ob_28, ob_29, ob_30, ob_31, ob_32, ob_33, ob_34, .ref cd, ob_36, .ref my, .ref wi, .ref nb, .ref mv])), (my, .inl (y 1, 4, .inl fy))] rfl rfl (by decide) (by decide) (by decide) (kX10_isSlot l G y _ 0 ) ⟨(callB_of 1 hw0 (gA m_169) rfl rfl rfl (hw0 _ m_166) (hw0 _ m_378) (by decide +kernel) ⟨Nat.le_of_ble_eq_true rfl, Nat.le_of_ble_eq_true rfl⟩), (hw0 _ m_379)⟩ rfl hl.1 (Nat.le_of_ble_eq_true rfl) dX10_paste_1 ⟨Nat.le_of_ble_eq_true rfl, Nat.le_of_ble_eq_true rfl⟩ (fun r_8 w_8 H locs hw_8 hP hD hS => ?_)
      rcases hw_8 with ⟨c_9, rfl, rfl⟩ | ⟨c_10, rfl, rfl⟩
      · skip
        have hP : va_P G vwCl [(ob, .inr (10, [ob_0, .ref wo, .ref mi, .ref hm, .ref mt, .int 0, .ref fv, .int 0, .int 0, .int 0, .int 0, .int 0, .int 0, .int (-1), .ref fr, ob_15, ob_16, ob_17, ob_18, ob_19, ob_20, ob_21, ob_22, ob_23, ob_24, ob_25, ob_26, ob_27, ob_28, ob_29, ob_30, ob_31, ob_32, ob_33, ob_34, .ref cd, ob_36, .ref my, .ref wi, .ref nb, .ref mv])), (my, .inl (y 1, 4, .inl fy))] H := hP
        have hD : va_D A [(ob, .inr (10, [ob_0, .ref wo, .ref mi, .ref hm, .ref mt, .int 0, .ref fv, .int 0, .int 0, .int 0, .int 0, .int 0, .int 0, .int (-1), .ref fr, ob_15, ob_16, ob_17, ob_18, ob_19, ob_20, ob_21, ob_22, ob_23, ob_24, ob_25, ob_26, ob_27, ob_28, ob_29, ob_30, ob_31, ob_32, ob_33, ob_34, .ref cd, ob_36, .ref my, .ref wi, .ref nb, .ref mv])), (my, .inl (y 1, 4, .inl fy))] := hD
        refine lv_if_eq (tgt := 14) hx hb dX10_paste_4 (by decide) (fun c9 => absurd c9 (by decide)) (fun _ => ?_)
        refine lv_iload_n hx hb dX10_paste_7 rfl (lv_at hl 3 rfl) ?_
        refine cSi (As := [.int 1]) (rest := []) ⟨hx, hb, hml, hown, hw0⟩ hA hK hP hD hS [] [0, 1] [] [(ob, .inr (10, [ob_0, .ref wo, .ref mi, .ref hm, .ref mt, .int 0, .ref fv, .int 0, .int 0, .int 0, .int 0, .int 0, .int 0, .int (-1), .ref fr, ob_15, ob_16, ob_17, ob_18, ob_19, ob_20, ob_21, ob_22, ob_23, ob_24, ob_25, ob_26, ob_27, ob_28, ob_29, ob_30, ob_31, ob_32, ob_33, ob_34, .ref cd, ob_36, .ref my, .ref wi, .ref nb, .ref mv])), (my, .inl (y 1, 4, .inl fy))] rfl rfl (by decide) (by decide) (by decide) (kX10_isSlot l G y _ 1 ) ⟨(callB_of 1 hw0 (gA m_169) rfl rfl rfl (hw0 _ m_166) (hw0 _ m_378) (by decide +kernel) ⟨Nat.le_of_ble_eq_true rfl, Nat.le_of_ble_eq_true rfl⟩), (hw0 _ m_379)⟩ rfl hl.1 (Nat.le_of_ble_eq_true rfl) dX10_paste_8 ⟨Nat.le_of_ble_eq_true rfl, Nat.le_of_ble_eq_true rfl⟩ (fun r_11 w_11 H locs hw_11 hP hD hS => ?_)
        rcases hw_11 with ⟨c_12, rfl, rfl⟩ | ⟨c_13, rfl, rfl⟩
        · skip
          have hP : va_P G vwCl [(ob, .inr (10, [ob_0, .ref wo, .ref mi, .ref hm, .ref mt, .int 0, .ref fv, .int 0, .int 0, .int 0, .int 0, .int 0, .int 0, .int (-1), .ref fr, ob_15, ob_16, ob_17, ob_18, ob_19, ob_20, ob_21, ob_22, ob_23, ob_24, ob_25, ob_26, ob_27, ob_28, ob_29, ob_30, ob_31, ob_32, ob_33, ob_34, .ref cd, ob_36, .ref my, .ref wi, .ref nb, .ref mv])), (my, .inl (y 1, 4, .inl fy))] H := hP
          have hD : va_D A [(ob, .inr (10, [ob_0, .ref wo, .ref mi, .ref hm, .ref mt, .int 0, .ref fv, .int 0, .int 0, .int 0, .int 0, .int 0, .int 0, .int (-1), .ref fr, ob_15, ob_16, ob_17, ob_18, ob_19, ob_20, ob_21, ob_22, ob_23, ob_24, ob_25, ob_26, ob_27, ob_28, ob_29, ob_30, ob_31, ob_32, ob_33, ob_34, .ref cd, ob_36, .ref my, .ref wi, .ref nb, .ref mv])), (my, .inl (y 1, 4, .inl fy))] := hD
          refine lv_if_ne (tgt := 17) hx hb dX10_paste_11 (by decide) (fun _ => ?_) (fun c9 => absurd c9 (by decide))
          refine lv_aload_n hx hb dX10_paste_17 rfl (lv_at hl 0 rfl) ?_
          refine va_get (D := G) (ci := 10) (v := .ref my) (C := RX10) (T := TX10) (N := 41) hx hb hw0 inA_wsX100 hown hK.1 hP 0 rfl rfl 37 (by decide) (hw0 _ m_157) (fun _ h9 => h9) rfl dX10_paste_18 ?_
          refine lv_iload_n hx hb dX10_paste_21 rfl (lv_at hl 1 rfl) ?_
          refine va_iald hx hb hK.1 hP 1 1 rfl rfl (vp_in_nI (n := 0) (N := 4) (by decide) (by decide)) dX10_paste_22 ?_
          refine lv_topi (fun v_14 ev_14 => ?_)
          obtain rfl : (-1) = v_14 := (ev_14.trans (y0)).symm
          refine lv_iconst (v := (-1)) hx hb dX10_paste_23 (by decide) ?_
          refine lv_icmp_eq (tgt := 37) hx hb dX10_paste_24 (by decide) (fun _ => ?_) (fun c9 => absurd (by decide) c9)
          refine lv_bipush (v := (-6)) hx hb dX10_paste_37 (by decide) ?_
          refine W.widen (k := 0) (n := 0) (Nat.le_of_ble_eq_true rfl) (Nat.le_of_ble_eq_true rfl) ?_
          exact W.iret (v := (-6)) hx hb hr (fun t ht hW => ⟨⟨(-6), _, rfl, (by first | rfl | decide | (simp only [sp_paste]; (repeat' split) <;> first | rfl | (exfalso; omega))), by rw [ht]; exact hP, hD⟩, hS.F ht⟩) hS.2.2 dX10_paste_39
        · skip
          exact absurd c_13 (by decide)
      · skip
        exact absurd c_10 (by decide)
    · have hl : lv_has ls 7 [(0, .ref ob), (1, .int 0), (2, .int a2), (3, .int 2), (4, .int a4), (5, .int a5)] := hl
      refine lv_iload_n hx hb dX10_paste_0 rfl (lv_at hl 1 rfl) ?_
      refine cSi (As := [.int 0]) (rest := []) ⟨hx, hb, hml, hown, hw0⟩ hA hK hP hD hS [] [0, 1] [] [(ob, .inr (10, [ob_0, .ref wo, .ref mi, .ref hm, .ref mt, .int 0, .ref fv, .int 0, .int 0, .int 0, .int 0, .int 0, .int 0, .int (-1), .ref fr, ob_15, ob_16, ob_17, ob_18, ob_19, ob_20, ob_21, ob_22, ob_23, ob_24, ob_25, ob_26, ob_27, ob_28, ob_29, ob_30, ob_31, ob_32, ob_33, ob_34, .ref cd, ob_36, .ref my, .ref wi, .ref nb, .ref mv])), (my, .inl (y 1, 4, .inl fy))] rfl rfl (by decide) (by decide) (by decide) (kX10_isSlot l G y _ 0 ) ⟨(callB_of 1 hw0 (gA m_169) rfl rfl rfl (hw0 _ m_166) (hw0 _ m_378) (by decide +kernel) ⟨Nat.le_of_ble_eq_true rfl, Nat.le_of_ble_eq_true rfl⟩), (hw0 _ m_379)⟩ rfl hl.1 (Nat.le_of_ble_eq_true rfl) dX10_paste_1 ⟨Nat.le_of_ble_eq_true rfl, Nat.le_of_ble_eq_true rfl⟩ (fun r_15 w_15 H locs hw_15 hP hD hS => ?_)
      rcases hw_15 with ⟨c_16, rfl, rfl⟩ | ⟨c_17, rfl, rfl⟩
      · skip
        have hP : va_P G vwCl [(ob, .inr (10, [ob_0, .ref wo, .ref mi, .ref hm, .ref mt, .int 0, .ref fv, .int 0, .int 0, .int 0, .int 0, .int 0, .int 0, .int (-1), .ref fr, ob_15, ob_16, ob_17, ob_18, ob_19, ob_20, ob_21, ob_22, ob_23, ob_24, ob_25, ob_26, ob_27, ob_28, ob_29, ob_30, ob_31, ob_32, ob_33, ob_34, .ref cd, ob_36, .ref my, .ref wi, .ref nb, .ref mv])), (my, .inl (y 1, 4, .inl fy))] H := hP
        have hD : va_D A [(ob, .inr (10, [ob_0, .ref wo, .ref mi, .ref hm, .ref mt, .int 0, .ref fv, .int 0, .int 0, .int 0, .int 0, .int 0, .int 0, .int (-1), .ref fr, ob_15, ob_16, ob_17, ob_18, ob_19, ob_20, ob_21, ob_22, ob_23, ob_24, ob_25, ob_26, ob_27, ob_28, ob_29, ob_30, ob_31, ob_32, ob_33, ob_34, .ref cd, ob_36, .ref my, .ref wi, .ref nb, .ref mv])), (my, .inl (y 1, 4, .inl fy))] := hD
        refine lv_if_eq (tgt := 14) hx hb dX10_paste_4 (by decide) (fun c9 => absurd c9 (by decide)) (fun _ => ?_)
        refine lv_iload_n hx hb dX10_paste_7 rfl (lv_at hl 3 rfl) ?_
        refine cSi (As := [.int 2]) (rest := []) ⟨hx, hb, hml, hown, hw0⟩ hA hK hP hD hS [] [0, 1] [] [(ob, .inr (10, [ob_0, .ref wo, .ref mi, .ref hm, .ref mt, .int 0, .ref fv, .int 0, .int 0, .int 0, .int 0, .int 0, .int 0, .int (-1), .ref fr, ob_15, ob_16, ob_17, ob_18, ob_19, ob_20, ob_21, ob_22, ob_23, ob_24, ob_25, ob_26, ob_27, ob_28, ob_29, ob_30, ob_31, ob_32, ob_33, ob_34, .ref cd, ob_36, .ref my, .ref wi, .ref nb, .ref mv])), (my, .inl (y 1, 4, .inl fy))] rfl rfl (by decide) (by decide) (by decide) (kX10_isSlot l G y _ 2 ) ⟨(callB_of 1 hw0 (gA m_169) rfl rfl rfl (hw0 _ m_166) (hw0 _ m_378) (by decide +kernel) ⟨Nat.le_of_ble_eq_true rfl, Nat.le_of_ble_eq_true rfl⟩), (hw0 _ m_379)⟩ rfl hl.1 (Nat.le_of_ble_eq_true rfl) dX10_paste_8 ⟨Nat.le_of_ble_eq_true rfl, Nat.le_of_ble_eq_true rfl⟩ (fun r_18 w_18 H locs hw_18 hP hD hS => ?_)
        rcases hw_18 with ⟨c_19, rfl, rfl⟩ | ⟨c_20, rfl, rfl⟩
        · skip
          have hP : va_P G vwCl [(ob, .inr (10, [ob_0, .ref wo, .ref mi, .ref hm, .ref mt, .int 0, .ref fv, .int 0, .int 0, .int 0, .int 0, .int 0, .int 0, .int (-1), .ref fr, ob_15, ob_16, ob_17, ob_18, ob_19, ob_20, ob_21, ob_22, ob_23, ob_24, ob_25, ob_26, ob_27, ob_28, ob_29, ob_30, ob_31, ob_32, ob_33, ob_34, .ref cd, ob_36, .ref my, .ref wi, .ref nb, .ref mv])), (my, .inl (y 1, 4, .inl fy))] H := hP
          have hD : va_D A [(ob, .inr (10, [ob_0, .ref wo, .ref mi, .ref hm, .ref mt, .int 0, .ref fv, .int 0, .int 0, .int 0, .int 0, .int 0, .int 0, .int (-1), .ref fr, ob_15, ob_16, ob_17, ob_18, ob_19, ob_20, ob_21, ob_22, ob_23, ob_24, ob_25, ob_26, ob_27, ob_28, ob_29, ob_30, ob_31, ob_32, ob_33, ob_34, .ref cd, ob_36, .ref my, .ref wi, .ref nb, .ref mv])), (my, .inl (y 1, 4, .inl fy))] := hD
          refine lv_if_ne (tgt := 17) hx hb dX10_paste_11 (by decide) (fun _ => ?_) (fun c9 => absurd c9 (by decide))
          refine lv_aload_n hx hb dX10_paste_17 rfl (lv_at hl 0 rfl) ?_
          refine va_get (D := G) (ci := 10) (v := .ref my) (C := RX10) (T := TX10) (N := 41) hx hb hw0 inA_wsX100 hown hK.1 hP 0 rfl rfl 37 (by decide) (hw0 _ m_157) (fun _ h9 => h9) rfl dX10_paste_18 ?_
          refine lv_iload_n hx hb dX10_paste_21 rfl (lv_at hl 1 rfl) ?_
          refine va_iald hx hb hK.1 hP 1 1 rfl rfl (vp_in_nI (n := 0) (N := 4) (by decide) (by decide)) dX10_paste_22 ?_
          refine lv_topi (fun v_21 ev_21 => ?_)
          obtain rfl : (-1) = v_21 := (ev_21.trans (y0)).symm
          refine lv_iconst (v := (-1)) hx hb dX10_paste_23 (by decide) ?_
          refine lv_icmp_eq (tgt := 37) hx hb dX10_paste_24 (by decide) (fun _ => ?_) (fun c9 => absurd (by decide) c9)
          refine lv_bipush (v := (-6)) hx hb dX10_paste_37 (by decide) ?_
          refine W.widen (k := 0) (n := 0) (Nat.le_of_ble_eq_true rfl) (Nat.le_of_ble_eq_true rfl) ?_
          exact W.iret (v := (-6)) hx hb hr (fun t ht hW => ⟨⟨(-6), _, rfl, (by first | rfl | decide | (simp only [sp_paste]; (repeat' split) <;> first | rfl | (exfalso; omega))), by rw [ht]; exact hP, hD⟩, hS.F ht⟩) hS.2.2 dX10_paste_39
        · skip
          exact absurd c_20 (by decide)
      · skip
        exact absurd c_17 (by decide)
    · have hl : lv_has ls 7 [(0, .ref ob), (1, .int 0), (2, .int a2), (3, .int 3), (4, .int a4), (5, .int a5)] := hl
      refine lv_iload_n hx hb dX10_paste_0 rfl (lv_at hl 1 rfl) ?_
      refine cSi (As := [.int 0]) (rest := []) ⟨hx, hb, hml, hown, hw0⟩ hA hK hP hD hS [] [0, 1] [] [(ob, .inr (10, [ob_0, .ref wo, .ref mi, .ref hm, .ref mt, .int 0, .ref fv, .int 0, .int 0, .int 0, .int 0, .int 0, .int 0, .int (-1), .ref fr, ob_15, ob_16, ob_17, ob_18, ob_19, ob_20, ob_21, ob_22, ob_23, ob_24, ob_25, ob_26, ob_27, ob_28, ob_29, ob_30, ob_31, ob_32, ob_33, ob_34, .ref cd, ob_36, .ref my, .ref wi, .ref nb, .ref mv])), (my, .inl (y 1, 4, .inl fy))] rfl rfl (by decide) (by decide) (by decide) (kX10_isSlot l G y _ 0 ) ⟨(callB_of 1 hw0 (gA m_169) rfl rfl rfl (hw0 _ m_166) (hw0 _ m_378) (by decide +kernel) ⟨Nat.le_of_ble_eq_true rfl, Nat.le_of_ble_eq_true rfl⟩), (hw0 _ m_379)⟩ rfl hl.1 (Nat.le_of_ble_eq_true rfl) dX10_paste_1 ⟨Nat.le_of_ble_eq_true rfl, Nat.le_of_ble_eq_true rfl⟩ (fun r_22 w_22 H locs hw_22 hP hD hS => ?_)
      rcases hw_22 with ⟨c_23, rfl, rfl⟩ | ⟨c_24, rfl, rfl⟩
      · skip
        have hP : va_P G vwCl [(ob, .inr (10, [ob_0, .ref wo, .ref mi, .ref hm, .ref mt, .int 0, .ref fv, .int 0, .int 0, .int 0, .int 0, .int 0, .int 0, .int (-1), .ref fr, ob_15, ob_16, ob_17, ob_18, ob_19, ob_20, ob_21, ob_22, ob_23, ob_24, ob_25, ob_26, ob_27, ob_28, ob_29, ob_30, ob_31, ob_32, ob_33, ob_34, .ref cd, ob_36, .ref my, .ref wi, .ref nb, .ref mv])), (my, .inl (y 1, 4, .inl fy))] H := hP
        have hD : va_D A [(ob, .inr (10, [ob_0, .ref wo, .ref mi, .ref hm, .ref mt, .int 0, .ref fv, .int 0, .int 0, .int 0, .int 0, .int 0, .int 0, .int (-1), .ref fr, ob_15, ob_16, ob_17, ob_18, ob_19, ob_20, ob_21, ob_22, ob_23, ob_24, ob_25, ob_26, ob_27, ob_28, ob_29, ob_30, ob_31, ob_32, ob_33, ob_34, .ref cd, ob_36, .ref my, .ref wi, .ref nb, .ref mv])), (my, .inl (y 1, 4, .inl fy))] := hD
        refine lv_if_eq (tgt := 14) hx hb dX10_paste_4 (by decide) (fun c9 => absurd c9 (by decide)) (fun _ => ?_)
        refine lv_iload_n hx hb dX10_paste_7 rfl (lv_at hl 3 rfl) ?_
        refine cSi (As := [.int 3]) (rest := []) ⟨hx, hb, hml, hown, hw0⟩ hA hK hP hD hS [] [0, 1] [] [(ob, .inr (10, [ob_0, .ref wo, .ref mi, .ref hm, .ref mt, .int 0, .ref fv, .int 0, .int 0, .int 0, .int 0, .int 0, .int 0, .int (-1), .ref fr, ob_15, ob_16, ob_17, ob_18, ob_19, ob_20, ob_21, ob_22, ob_23, ob_24, ob_25, ob_26, ob_27, ob_28, ob_29, ob_30, ob_31, ob_32, ob_33, ob_34, .ref cd, ob_36, .ref my, .ref wi, .ref nb, .ref mv])), (my, .inl (y 1, 4, .inl fy))] rfl rfl (by decide) (by decide) (by decide) (kX10_isSlot l G y _ 3 ) ⟨(callB_of 1 hw0 (gA m_169) rfl rfl rfl (hw0 _ m_166) (hw0 _ m_378) (by decide +kernel) ⟨Nat.le_of_ble_eq_true rfl, Nat.le_of_ble_eq_true rfl⟩), (hw0 _ m_379)⟩ rfl hl.1 (Nat.le_of_ble_eq_true rfl) dX10_paste_8 ⟨Nat.le_of_ble_eq_true rfl, Nat.le_of_ble_eq_true rfl⟩ (fun r_25 w_25 H locs hw_25 hP hD hS => ?_)
        rcases hw_25 with ⟨c_26, rfl, rfl⟩ | ⟨c_27, rfl, rfl⟩
        · skip
          have hP : va_P G vwCl [(ob, .inr (10, [ob_0, .ref wo, .ref mi, .ref hm, .ref mt, .int 0, .ref fv, .int 0, .int 0, .int 0, .int 0, .int 0, .int 0, .int (-1), .ref fr, ob_15, ob_16, ob_17, ob_18, ob_19, ob_20, ob_21, ob_22, ob_23, ob_24, ob_25, ob_26, ob_27, ob_28, ob_29, ob_30, ob_31, ob_32, ob_33, ob_34, .ref cd, ob_36, .ref my, .ref wi, .ref nb, .ref mv])), (my, .inl (y 1, 4, .inl fy))] H := hP
          have hD : va_D A [(ob, .inr (10, [ob_0, .ref wo, .ref mi, .ref hm, .ref mt, .int 0, .ref fv, .int 0, .int 0, .int 0, .int 0, .int 0, .int 0, .int (-1), .ref fr, ob_15, ob_16, ob_17, ob_18, ob_19, ob_20, ob_21, ob_22, ob_23, ob_24, ob_25, ob_26, ob_27, ob_28, ob_29, ob_30, ob_31, ob_32, ob_33, ob_34, .ref cd, ob_36, .ref my, .ref wi, .ref nb, .ref mv])), (my, .inl (y 1, 4, .inl fy))] := hD
          refine lv_if_ne (tgt := 17) hx hb dX10_paste_11 (by decide) (fun _ => ?_) (fun c9 => absurd c9 (by decide))
          refine lv_aload_n hx hb dX10_paste_17 rfl (lv_at hl 0 rfl) ?_
          refine va_get (D := G) (ci := 10) (v := .ref my) (C := RX10) (T := TX10) (N := 41) hx hb hw0 inA_wsX100 hown hK.1 hP 0 rfl rfl 37 (by decide) (hw0 _ m_157) (fun _ h9 => h9) rfl dX10_paste_18 ?_
          refine lv_iload_n hx hb dX10_paste_21 rfl (lv_at hl 1 rfl) ?_
          refine va_iald hx hb hK.1 hP 1 1 rfl rfl (vp_in_nI (n := 0) (N := 4) (by decide) (by decide)) dX10_paste_22 ?_
          refine lv_topi (fun v_28 ev_28 => ?_)
          obtain rfl : (-1) = v_28 := (ev_28.trans (y0)).symm
          refine lv_iconst (v := (-1)) hx hb dX10_paste_23 (by decide) ?_
          refine lv_icmp_eq (tgt := 37) hx hb dX10_paste_24 (by decide) (fun _ => ?_) (fun c9 => absurd (by decide) c9)
          refine lv_bipush (v := (-6)) hx hb dX10_paste_37 (by decide) ?_
          refine W.widen (k := 0) (n := 0) (Nat.le_of_ble_eq_true rfl) (Nat.le_of_ble_eq_true rfl) ?_
          exact W.iret (v := (-6)) hx hb hr (fun t ht hW => ⟨⟨(-6), _, rfl, (by first | rfl | decide | (simp only [sp_paste]; (repeat' split) <;> first | rfl | (exfalso; omega))), by rw [ht]; exact hP, hD⟩, hS.F ht⟩) hS.2.2 dX10_paste_39
        · skip
          exact absurd c_27 (by decide)
      · skip
        exact absurd c_24 (by decide)
    · have hl : lv_has ls 7 [(0, .ref ob), (1, .int 0), (2, .int a2), (3, .int a3), (4, .int a4), (5, .int a5)] := hl
      refine lv_iload_n hx hb dX10_paste_0 rfl (lv_at hl 1 rfl) ?_
      refine cSi (As := [.int 0]) (rest := []) ⟨hx, hb, hml, hown, hw0⟩ hA hK hP hD hS [] [0, 1] [] [(ob, .inr (10, [ob_0, .ref wo, .ref mi, .ref hm, .ref mt, .int 0, .ref fv, .int 0, .int 0, .int 0, .int 0, .int 0, .int 0, .int (-1), .ref fr, ob_15, ob_16, ob_17, ob_18, ob_19, ob_20, ob_21, ob_22, ob_23, ob_24, ob_25, ob_26, ob_27, ob_28, ob_29, ob_30, ob_31, ob_32, ob_33, ob_34, .ref cd, ob_36, .ref my, .ref wi, .ref nb, .ref mv])), (my, .inl (y 1, 4, .inl fy))] rfl rfl (by decide) (by decide) (by decide) (kX10_isSlot l G y _ 0 ) ⟨(callB_of 1 hw0 (gA m_169) rfl rfl rfl (hw0 _ m_166) (hw0 _ m_378) (by decide +kernel) ⟨Nat.le_of_ble_eq_true rfl, Nat.le_of_ble_eq_true rfl⟩), (hw0 _ m_379)⟩ rfl hl.1 (Nat.le_of_ble_eq_true rfl) dX10_paste_1 ⟨Nat.le_of_ble_eq_true rfl, Nat.le_of_ble_eq_true rfl⟩ (fun r_29 w_29 H locs hw_29 hP hD hS => ?_)
      rcases hw_29 with ⟨c_30, rfl, rfl⟩ | ⟨c_31, rfl, rfl⟩
      · skip
        have hP : va_P G vwCl [(ob, .inr (10, [ob_0, .ref wo, .ref mi, .ref hm, .ref mt, .int 0, .ref fv, .int 0, .int 0, .int 0, .int 0, .int 0, .int 0, .int (-1), .ref fr, ob_15, ob_16, ob_17, ob_18, ob_19, ob_20, ob_21, ob_22, ob_23, ob_24, ob_25, ob_26, ob_27, ob_28, ob_29, ob_30, ob_31, ob_32, ob_33, ob_34, .ref cd, ob_36, .ref my, .ref wi, .ref nb, .ref mv])), (my, .inl (y 1, 4, .inl fy))] H := hP
        have hD : va_D A [(ob, .inr (10, [ob_0, .ref wo, .ref mi, .ref hm, .ref mt, .int 0, .ref fv, .int 0, .int 0, .int 0, .int 0, .int 0, .int 0, .int (-1), .ref fr, ob_15, ob_16, ob_17, ob_18, ob_19, ob_20, ob_21, ob_22, ob_23, ob_24, ob_25, ob_26, ob_27, ob_28, ob_29, ob_30, ob_31, ob_32, ob_33, ob_34, .ref cd, ob_36, .ref my, .ref wi, .ref nb, .ref mv])), (my, .inl (y 1, 4, .inl fy))] := hD
        refine lv_if_eq (tgt := 14) hx hb dX10_paste_4 (by decide) (fun c9 => absurd c9 (by decide)) (fun _ => ?_)
        refine lv_iload_n hx hb dX10_paste_7 rfl (lv_at hl 3 rfl) ?_
        refine cSi (As := [.int a3]) (rest := []) ⟨hx, hb, hml, hown, hw0⟩ hA hK hP hD hS [] [0, 1] [] [(ob, .inr (10, [ob_0, .ref wo, .ref mi, .ref hm, .ref mt, .int 0, .ref fv, .int 0, .int 0, .int 0, .int 0, .int 0, .int 0, .int (-1), .ref fr, ob_15, ob_16, ob_17, ob_18, ob_19, ob_20, ob_21, ob_22, ob_23, ob_24, ob_25, ob_26, ob_27, ob_28, ob_29, ob_30, ob_31, ob_32, ob_33, ob_34, .ref cd, ob_36, .ref my, .ref wi, .ref nb, .ref mv])), (my, .inl (y 1, 4, .inl fy))] rfl rfl (by decide) (by decide) (by decide) (kX10_isSlot l G y _ a3 ) ⟨(callB_of 1 hw0 (gA m_169) rfl rfl rfl (hw0 _ m_166) (hw0 _ m_378) (by decide +kernel) ⟨Nat.le_of_ble_eq_true rfl, Nat.le_of_ble_eq_true rfl⟩), (hw0 _ m_379)⟩ rfl hl.1 (Nat.le_of_ble_eq_true rfl) dX10_paste_8 ⟨Nat.le_of_ble_eq_true rfl, Nat.le_of_ble_eq_true rfl⟩ (fun r_32 w_32 H locs hw_32 hP hD hS => ?_)
        rcases hw_32 with ⟨c_33, rfl, rfl⟩ | ⟨c_34, rfl, rfl⟩
        · skip
          exfalso; omega
        · skip
          have hP : va_P G vwCl [(ob, .inr (10, [ob_0, .ref wo, .ref mi, .ref hm, .ref mt, .int 0, .ref fv, .int 0, .int 0, .int 0, .int 0, .int 0, .int 0, .int (-1), .ref fr, ob_15, ob_16, ob_17, ob_18, ob_19, ob_20, ob_21, ob_22, ob_23, ob_24, ob_25, ob_26, ob_27, ob_28, ob_29, ob_30, ob_31, ob_32, ob_33, ob_34, .ref cd, ob_36, .ref my, .ref wi, .ref nb, .ref mv])), (my, .inl (y 1, 4, .inl fy))] H := hP
          have hD : va_D A [(ob, .inr (10, [ob_0, .ref wo, .ref mi, .ref hm, .ref mt, .int 0, .ref fv, .int 0, .int 0, .int 0, .int 0, .int 0, .int 0, .int (-1), .ref fr, ob_15, ob_16, ob_17, ob_18, ob_19, ob_20, ob_21, ob_22, ob_23, ob_24, ob_25, ob_26, ob_27, ob_28, ob_29, ob_30, ob_31, ob_32, ob_33, ob_34, .ref cd, ob_36, .ref my, .ref wi, .ref nb, .ref mv])), (my, .inl (y 1, 4, .inl fy))] := hD
          refine lv_if_ne (tgt := 17) hx hb dX10_paste_11 (by decide) (fun c9 => absurd (by decide) c9) (fun _ => ?_)
          refine lv_bipush (v := (-2)) hx hb dX10_paste_14 (by decide) ?_
          refine W.widen (k := 0) (n := 0) (Nat.le_of_ble_eq_true rfl) (Nat.le_of_ble_eq_true rfl) ?_
          exact W.iret (v := (-2)) hx hb hr (fun t ht hW => ⟨⟨(-2), _, rfl, (by first | rfl | decide | (simp only [sp_paste]; (repeat' split) <;> first | rfl | (exfalso; omega))), by rw [ht]; exact hP, hD⟩, hS.F ht⟩) hS.2.2 dX10_paste_16
      · skip
        exact absurd c_31 (by decide)
  · have hl : lv_has ls 7 [(0, .ref ob), (1, .int 1), (2, .int a2), (3, .int a3), (4, .int a4), (5, .int a5)] := hl
    rcases sl_cases a3 with rfl | rfl | rfl | rfl | t_a3
    · have hl : lv_has ls 7 [(0, .ref ob), (1, .int 1), (2, .int a2), (3, .int 0), (4, .int a4), (5, .int a5)] := hl
      refine lv_iload_n hx hb dX10_paste_0 rfl (lv_at hl 1 rfl) ?_
      refine cSi (As := [.int 1]) (rest := []) ⟨hx, hb, hml, hown, hw0⟩ hA hK hP hD hS [] [0, 1] [] [(ob, .inr (10, [ob_0, .ref wo, .ref mi, .ref hm, .ref mt, .int 0, .ref fv, .int 0, .int 0, .int 0, .int 0, .int 0, .int 0, .int (-1), .ref fr, ob_15, ob_16, ob_17, ob_18, ob_19, ob_20, ob_21, ob_22, ob_23, ob_24, ob_25, ob_26, ob_27, ob_28, ob_29, ob_30, ob_31, ob_32, ob_33, ob_34, .ref cd, ob_36, .ref my, .ref wi, .ref nb, .ref mv])), (my, .inl (y 1, 4, .inl fy))] rfl rfl (by decide) (by decide) (by decide) (kX10_isSlot l G y _ 1 ) ⟨(callB_of 1 hw0 (gA m_169) rfl rfl rfl (hw0 _ m_166) (hw0 _ m_378) (by decide +kernel) ⟨Nat.le_of_ble_eq_true rfl, Nat.le_of_ble_eq_true rfl⟩), (hw0 _ m_379)⟩ rfl hl.1 (Nat.le_of_ble_eq_true rfl) dX10_paste_1 ⟨Nat.le_of_ble_eq_true rfl, Nat.le_of_ble_eq_true rfl⟩ (fun r_35 w_35 H locs hw_35 hP hD hS => ?_)
      rcases hw_35 with ⟨c_36, rfl, rfl⟩ | ⟨c_37, rfl, rfl⟩
      · skip
        have hP : va_P G vwCl [(ob, .inr (10, [ob_0, .ref wo, .ref mi, .ref hm, .ref mt, .int 0, .ref fv, .int 0, .int 0, .int 0, .int 0, .int 0, .int 0, .int (-1), .ref fr, ob_15, ob_16, ob_17, ob_18, ob_19, ob_20, ob_21, ob_22, ob_23, ob_24, ob_25, ob_26, ob_27, ob_28, ob_29, ob_30, ob_31, ob_32, ob_33, ob_34, .ref cd, ob_36, .ref my, .ref wi, .ref nb, .ref mv])), (my, .inl (y 1, 4, .inl fy))] H := hP
        have hD : va_D A [(ob, .inr (10, [ob_0, .ref wo, .ref mi, .ref hm, .ref mt, .int 0, .ref fv, .int 0, .int 0, .int 0, .int 0, .int 0, .int 0, .int (-1), .ref fr, ob_15, ob_16, ob_17, ob_18, ob_19, ob_20, ob_21, ob_22, ob_23, ob_24, ob_25, ob_26, ob_27, ob_28, ob_29, ob_30, ob_31, ob_32, ob_33, ob_34, .ref cd, ob_36, .ref my, .ref wi, .ref nb, .ref mv])), (my, .inl (y 1, 4, .inl fy))] := hD
        refine lv_if_eq (tgt := 14) hx hb dX10_paste_4 (by decide) (fun c9 => absurd c9 (by decide)) (fun _ => ?_)
        refine lv_iload_n hx hb dX10_paste_7 rfl (lv_at hl 3 rfl) ?_
        refine cSi (As := [.int 0]) (rest := []) ⟨hx, hb, hml, hown, hw0⟩ hA hK hP hD hS [] [0, 1] [] [(ob, .inr (10, [ob_0, .ref wo, .ref mi, .ref hm, .ref mt, .int 0, .ref fv, .int 0, .int 0, .int 0, .int 0, .int 0, .int 0, .int (-1), .ref fr, ob_15, ob_16, ob_17, ob_18, ob_19, ob_20, ob_21, ob_22, ob_23, ob_24, ob_25, ob_26, ob_27, ob_28, ob_29, ob_30, ob_31, ob_32, ob_33, ob_34, .ref cd, ob_36, .ref my, .ref wi, .ref nb, .ref mv])), (my, .inl (y 1, 4, .inl fy))] rfl rfl (by decide) (by decide) (by decide) (kX10_isSlot l G y _ 0 ) ⟨(callB_of 1 hw0 (gA m_169) rfl rfl rfl (hw0 _ m_166) (hw0 _ m_378) (by decide +kernel) ⟨Nat.le_of_ble_eq_true rfl, Nat.le_of_ble_eq_true rfl⟩), (hw0 _ m_379)⟩ rfl hl.1 (Nat.le_of_ble_eq_true rfl) dX10_paste_8 ⟨Nat.le_of_ble_eq_true rfl, Nat.le_of_ble_eq_true rfl⟩ (fun r_38 w_38 H locs hw_38 hP hD hS => ?_)
        rcases hw_38 with ⟨c_39, rfl, rfl⟩ | ⟨c_40, rfl, rfl⟩
        · skip
          have hP : va_P G vwCl [(ob, .inr (10, [ob_0, .ref wo, .ref mi, .ref hm, .ref mt, .int 0, .ref fv, .int 0, .int 0, .int 0, .int 0, .int 0, .int 0, .int (-1), .ref fr, ob_15, ob_16, ob_17, ob_18, ob_19, ob_20, ob_21, ob_22, ob_23, ob_24, ob_25, ob_26, ob_27, ob_28, ob_29, ob_30, ob_31, ob_32, ob_33, ob_34, .ref cd, ob_36, .ref my, .ref wi, .ref nb, .ref mv])), (my, .inl (y 1, 4, .inl fy))] H := hP
          have hD : va_D A [(ob, .inr (10, [ob_0, .ref wo, .ref mi, .ref hm, .ref mt, .int 0, .ref fv, .int 0, .int 0, .int 0, .int 0, .int 0, .int 0, .int (-1), .ref fr, ob_15, ob_16, ob_17, ob_18, ob_19, ob_20, ob_21, ob_22, ob_23, ob_24, ob_25, ob_26, ob_27, ob_28, ob_29, ob_30, ob_31, ob_32, ob_33, ob_34, .ref cd, ob_36, .ref my, .ref wi, .ref nb, .ref mv])), (my, .inl (y 1, 4, .inl fy))] := hD
          refine lv_if_ne (tgt := 17) hx hb dX10_paste_11 (by decide) (fun _ => ?_) (fun c9 => absurd c9 (by decide))
          refine lv_aload_n hx hb dX10_paste_17 rfl (lv_at hl 0 rfl) ?_
          refine va_get (D := G) (ci := 10) (v := .ref my) (C := RX10) (T := TX10) (N := 41) hx hb hw0 inA_wsX100 hown hK.1 hP 0 rfl rfl 37 (by decide) (hw0 _ m_157) (fun _ h9 => h9) rfl dX10_paste_18 ?_
          refine lv_iload_n hx hb dX10_paste_21 rfl (lv_at hl 1 rfl) ?_
          refine va_iald hx hb hK.1 hP 1 1 rfl rfl (vp_in_nI (n := 1) (N := 4) (by decide) (by decide)) dX10_paste_22 ?_
          refine lv_topi (fun v_41 ev_41 => ?_)
          obtain rfl : (-1) = v_41 := (ev_41.trans (y1)).symm
          refine lv_iconst (v := (-1)) hx hb dX10_paste_23 (by decide) ?_
          refine lv_icmp_eq (tgt := 37) hx hb dX10_paste_24 (by decide) (fun _ => ?_) (fun c9 => absurd (by decide) c9)
          refine lv_bipush (v := (-6)) hx hb dX10_paste_37 (by decide) ?_
          refine W.widen (k := 0) (n := 0) (Nat.le_of_ble_eq_true rfl) (Nat.le_of_ble_eq_true rfl) ?_
          exact W.iret (v := (-6)) hx hb hr (fun t ht hW => ⟨⟨(-6), _, rfl, (by first | rfl | decide | (simp only [sp_paste]; (repeat' split) <;> first | rfl | (exfalso; omega))), by rw [ht]; exact hP, hD⟩, hS.F ht⟩) hS.2.2 dX10_paste_39
        · skip
          exact absurd c_40 (by decide)
      · skip
        exact absurd c_37 (by decide)
    · have hl : lv_has ls 7 [(0, .ref ob), (1, .int 1), (2, .int a2), (3, .int 1), (4, .int a4), (5, .int a5)] := hl
      refine lv_iload_n hx hb dX10_paste_0 rfl (lv_at hl 1 rfl) ?_
      refine cSi (As := [.int 1]) (rest := []) ⟨hx, hb, hml, hown, hw0⟩ hA hK hP hD hS [] [0, 1] [] [(ob, .inr (10, [ob_0, .ref wo, .ref mi, .ref hm, .ref mt, .int 0, .ref fv, .int 0, .int 0, .int 0, .int 0, .int 0, .int 0, .int (-1), .ref fr, ob_15, ob_16, ob_17, ob_18, ob_19, ob_20, ob_21, ob_22, ob_23, ob_24, ob_25, ob_26, ob_27, ob_28, ob_29, ob_30, ob_31, ob_32, ob_33, ob_34, .ref cd, ob_36, .ref my, .ref wi, .ref nb, .ref mv])), (my, .inl (y 1, 4, .inl fy))] rfl rfl (by decide) (by decide) (by decide) (kX10_isSlot l G y _ 1 ) ⟨(callB_of 1 hw0 (gA m_169) rfl rfl rfl (hw0 _ m_166) (hw0 _ m_378) (by decide +kernel) ⟨Nat.le_of_ble_eq_true rfl, Nat.le_of_ble_eq_true rfl⟩), (hw0 _ m_379)⟩ rfl hl.1 (Nat.le_of_ble_eq_true rfl) dX10_paste_1 ⟨Nat.le_of_ble_eq_true rfl, Nat.le_of_ble_eq_true rfl⟩ (fun r_42 w_42 H locs hw_42 hP hD hS => ?_)
      rcases hw_42 with ⟨c_43, rfl, rfl⟩ | ⟨c_44, rfl, rfl⟩
      · skip
        have hP : va_P G vwCl [(ob, .inr (10, [ob_0, .ref wo, .ref mi, .ref hm, .ref mt, .int 0, .ref fv, .int 0, .int 0, .int 0, .int 0, .int 0, .int 0, .int (-1), .ref fr, ob_15, ob_16, ob_17, ob_18, ob_19, ob_20, ob_21, ob_22, ob_23, ob_24, ob_25, ob_26, ob_27, ob_28, ob_29, ob_30, ob_31, ob_32, ob_33, ob_34, .ref cd, ob_36, .ref my, .ref wi, .ref nb, .ref mv])), (my, .inl (y 1, 4, .inl fy))] H := hP
        have hD : va_D A [(ob, .inr (10, [ob_0, .ref wo, .ref mi, .ref hm, .ref mt, .int 0, .ref fv, .int 0, .int 0, .int 0, .int 0, .int 0, .int 0, .int (-1), .ref fr, ob_15, ob_16, ob_17, ob_18, ob_19, ob_20, ob_21, ob_22, ob_23, ob_24, ob_25, ob_26, ob_27, ob_28, ob_29, ob_30, ob_31, ob_32, ob_33, ob_34, .ref cd, ob_36, .ref my, .ref wi, .ref nb, .ref mv])), (my, .inl (y 1, 4, .inl fy))] := hD
        refine lv_if_eq (tgt := 14) hx hb dX10_paste_4 (by decide) (fun c9 => absurd c9 (by decide)) (fun _ => ?_)
        refine lv_iload_n hx hb dX10_paste_7 rfl (lv_at hl 3 rfl) ?_
        refine cSi (As := [.int 1]) (rest := []) ⟨hx, hb, hml, hown, hw0⟩ hA hK hP hD hS [] [0, 1] [] [(ob, .inr (10, [ob_0, .ref wo, .ref mi, .ref hm, .ref mt, .int 0, .ref fv, .int 0, .int 0, .int 0, .int 0, .int 0, .int 0, .int (-1), .ref fr, ob_15, ob_16, ob_17, ob_18, ob_19, ob_20, ob_21, ob_22, ob_23, ob_24, ob_25, ob_26, ob_27, ob_28, ob_29, ob_30, ob_31, ob_32, ob_33, ob_34, .ref cd, ob_36, .ref my, .ref wi, .ref nb, .ref mv])), (my, .inl (y 1, 4, .inl fy))] rfl rfl (by decide) (by decide) (by decide) (kX10_isSlot l G y _ 1 ) ⟨(callB_of 1 hw0 (gA m_169) rfl rfl rfl (hw0 _ m_166) (hw0 _ m_378) (by decide +kernel) ⟨Nat.le_of_ble_eq_true rfl, Nat.le_of_ble_eq_true rfl⟩), (hw0 _ m_379)⟩ rfl hl.1 (Nat.le_of_ble_eq_true rfl) dX10_paste_8 ⟨Nat.le_of_ble_eq_true rfl, Nat.le_of_ble_eq_true rfl⟩ (fun r_45 w_45 H locs hw_45 hP hD hS => ?_)
        rcases hw_45 with ⟨c_46, rfl, rfl⟩ | ⟨c_47, rfl, rfl⟩
        · skip
          have hP : va_P G vwCl [(ob, .inr (10, [ob_0, .ref wo, .ref mi, .ref hm, .ref mt, .int 0, .ref fv, .int 0, .int 0, .int 0, .int 0, .int 0, .int 0, .int (-1), .ref fr, ob_15, ob_16, ob_17, ob_18, ob_19, ob_20, ob_21, ob_22, ob_23, ob_24, ob_25, ob_26, ob_27, ob_28, ob_29, ob_30, ob_31, ob_32, ob_33, ob_34, .ref cd, ob_36, .ref my, .ref wi, .ref nb, .ref mv])), (my, .inl (y 1, 4, .inl fy))] H := hP
          have hD : va_D A [(ob, .inr (10, [ob_0, .ref wo, .ref mi, .ref hm, .ref mt, .int 0, .ref fv, .int 0, .int 0, .int 0, .int 0, .int 0, .int 0, .int (-1), .ref fr, ob_15, ob_16, ob_17, ob_18, ob_19, ob_20, ob_21, ob_22, ob_23, ob_24, ob_25, ob_26, ob_27, ob_28, ob_29, ob_30, ob_31, ob_32, ob_33, ob_34, .ref cd, ob_36, .ref my, .ref wi, .ref nb, .ref mv])), (my, .inl (y 1, 4, .inl fy))] := hD
          refine lv_if_ne (tgt := 17) hx hb dX10_paste_11 (by decide) (fun _ => ?_) (fun c9 => absurd c9 (by decide))
          refine lv_aload_n hx hb dX10_paste_17 rfl (lv_at hl 0 rfl) ?_
          refine va_get (D := G) (ci := 10) (v := .ref my) (C := RX10) (T := TX10) (N := 41) hx hb hw0 inA_wsX100 hown hK.1 hP 0 rfl rfl 37 (by decide) (hw0 _ m_157) (fun _ h9 => h9) rfl dX10_paste_18 ?_
          refine lv_iload_n hx hb dX10_paste_21 rfl (lv_at hl 1 rfl) ?_
          refine va_iald hx hb hK.1 hP 1 1 rfl rfl (vp_in_nI (n := 1) (N := 4) (by decide) (by decide)) dX10_paste_22 ?_
          refine lv_topi (fun v_48 ev_48 => ?_)
          obtain rfl : (-1) = v_48 := (ev_48.trans (y1)).symm
          refine lv_iconst (v := (-1)) hx hb dX10_paste_23 (by decide) ?_
          refine lv_icmp_eq (tgt := 37) hx hb dX10_paste_24 (by decide) (fun _ => ?_) (fun c9 => absurd (by decide) c9)
          refine lv_bipush (v := (-6)) hx hb dX10_paste_37 (by decide) ?_
          refine W.widen (k := 0) (n := 0) (Nat.le_of_ble_eq_true rfl) (Nat.le_of_ble_eq_true rfl) ?_
          exact W.iret (v := (-6)) hx hb hr (fun t ht hW => ⟨⟨(-6), _, rfl, (by first | rfl | decide | (simp only [sp_paste]; (repeat' split) <;> first | rfl | (exfalso; omega))), by rw [ht]; exact hP, hD⟩, hS.F ht⟩) hS.2.2 dX10_paste_39
        · skip
          exact absurd c_47 (by decide)
      · skip
        exact absurd c_44 (by decide)
    · have hl : lv_has ls 7 [(0, .ref ob), (1, .int 1), (2, .int a2), (3, .int 2), (4, .int a4), (5, .int a5)] := hl
      refine lv_iload_n hx hb dX10_paste_0 rfl (lv_at hl 1 rfl) ?_
      refine cSi (As := [.int 1]) (rest := []) ⟨hx, hb, hml, hown, hw0⟩ hA hK hP hD hS [] [0, 1] [] [(ob, .inr (10, [ob_0, .ref wo, .ref mi, .ref hm, .ref mt, .int 0, .ref fv, .int 0, .int 0, .int 0, .int 0, .int 0, .int 0, .int (-1), .ref fr, ob_15, ob_16, ob_17, ob_18, ob_19, ob_20, ob_21, ob_22, ob_23, ob_24, ob_25, ob_26, ob_27, ob_28, ob_29, ob_30, ob_31, ob_32, ob_33, ob_34, .ref cd, ob_36, .ref my, .ref wi, .ref nb, .ref mv])), (my, .inl (y 1, 4, .inl fy))] rfl rfl (by decide) (by decide) (by decide) (kX10_isSlot l G y _ 1 ) ⟨(callB_of 1 hw0 (gA m_169) rfl rfl rfl (hw0 _ m_166) (hw0 _ m_378) (by decide +kernel) ⟨Nat.le_of_ble_eq_true rfl, Nat.le_of_ble_eq_true rfl⟩), (hw0 _ m_379)⟩ rfl hl.1 (Nat.le_of_ble_eq_true rfl) dX10_paste_1 ⟨Nat.le_of_ble_eq_true rfl, Nat.le_of_ble_eq_true rfl⟩ (fun r_49 w_49 H locs hw_49 hP hD hS => ?_)
      rcases hw_49 with ⟨c_50, rfl, rfl⟩ | ⟨c_51, rfl, rfl⟩
      · skip
        have hP : va_P G vwCl [(ob, .inr (10, [ob_0, .ref wo, .ref mi, .ref hm, .ref mt, .int 0, .ref fv, .int 0, .int 0, .int 0, .int 0, .int 0, .int 0, .int (-1), .ref fr, ob_15, ob_16, ob_17, ob_18, ob_19, ob_20, ob_21, ob_22, ob_23, ob_24, ob_25, ob_26, ob_27, ob_28, ob_29, ob_30, ob_31, ob_32, ob_33, ob_34, .ref cd, ob_36, .ref my, .ref wi, .ref nb, .ref mv])), (my, .inl (y 1, 4, .inl fy))] H := hP
        have hD : va_D A [(ob, .inr (10, [ob_0, .ref wo, .ref mi, .ref hm, .ref mt, .int 0, .ref fv, .int 0, .int 0, .int 0, .int 0, .int 0, .int 0, .int (-1), .ref fr, ob_15, ob_16, ob_17, ob_18, ob_19, ob_20, ob_21, ob_22, ob_23, ob_24, ob_25, ob_26, ob_27, ob_28, ob_29, ob_30, ob_31, ob_32, ob_33, ob_34, .ref cd, ob_36, .ref my, .ref wi, .ref nb, .ref mv])), (my, .inl (y 1, 4, .inl fy))] := hD
        refine lv_if_eq (tgt := 14) hx hb dX10_paste_4 (by decide) (fun c9 => absurd c9 (by decide)) (fun _ => ?_)
        refine lv_iload_n hx hb dX10_paste_7 rfl (lv_at hl 3 rfl) ?_
        refine cSi (As := [.int 2]) (rest := []) ⟨hx, hb, hml, hown, hw0⟩ hA hK hP hD hS [] [0, 1] [] [(ob, .inr (10, [ob_0, .ref wo, .ref mi, .ref hm, .ref mt, .int 0, .ref fv, .int 0, .int 0, .int 0, .int 0, .int 0, .int 0, .int (-1), .ref fr, ob_15, ob_16, ob_17, ob_18, ob_19, ob_20, ob_21, ob_22, ob_23, ob_24, ob_25, ob_26, ob_27, ob_28, ob_29, ob_30, ob_31, ob_32, ob_33, ob_34, .ref cd, ob_36, .ref my, .ref wi, .ref nb, .ref mv])), (my, .inl (y 1, 4, .inl fy))] rfl rfl (by decide) (by decide) (by decide) (kX10_isSlot l G y _ 2 ) ⟨(callB_of 1 hw0 (gA m_169) rfl rfl rfl (hw0 _ m_166) (hw0 _ m_378) (by decide +kernel) ⟨Nat.le_of_ble_eq_true rfl, Nat.le_of_ble_eq_true rfl⟩), (hw0 _ m_379)⟩ rfl hl.1 (Nat.le_of_ble_eq_true rfl) dX10_paste_8 ⟨Nat.le_of_ble_eq_true rfl, Nat.le_of_ble_eq_true rfl⟩ (fun r_52 w_52 H locs hw_52 hP hD hS => ?_)
        rcases hw_52 with ⟨c_53, rfl, rfl⟩ | ⟨c_54, rfl, rfl⟩
        · skip
          have hP : va_P G vwCl [(ob, .inr (10, [ob_0, .ref wo, .ref mi, .ref hm, .ref mt, .int 0, .ref fv, .int 0, .int 0, .int 0, .int 0, .int 0, .int 0, .int (-1), .ref fr, ob_15, ob_16, ob_17, ob_18, ob_19, ob_20, ob_21, ob_22, ob_23, ob_24, ob_25, ob_26, ob_27, ob_28, ob_29, ob_30, ob_31, ob_32, ob_33, ob_34, .ref cd, ob_36, .ref my, .ref wi, .ref nb, .ref mv])), (my, .inl (y 1, 4, .inl fy))] H := hP
          have hD : va_D A [(ob, .inr (10, [ob_0, .ref wo, .ref mi, .ref hm, .ref mt, .int 0, .ref fv, .int 0, .int 0, .int 0, .int 0, .int 0, .int 0, .int (-1), .ref fr, ob_15, ob_16, ob_17, ob_18, ob_19, ob_20, ob_21, ob_22, ob_23, ob_24, ob_25, ob_26, ob_27, ob_28, ob_29, ob_30, ob_31, ob_32, ob_33, ob_34, .ref cd, ob_36, .ref my, .ref wi, .ref nb, .ref mv])), (my, .inl (y 1, 4, .inl fy))] := hD
          refine lv_if_ne (tgt := 17) hx hb dX10_paste_11 (by decide) (fun _ => ?_) (fun c9 => absurd c9 (by decide))
          refine lv_aload_n hx hb dX10_paste_17 rfl (lv_at hl 0 rfl) ?_
          refine va_get (D := G) (ci := 10) (v := .ref my) (C := RX10) (T := TX10) (N := 41) hx hb hw0 inA_wsX100 hown hK.1 hP 0 rfl rfl 37 (by decide) (hw0 _ m_157) (fun _ h9 => h9) rfl dX10_paste_18 ?_
          refine lv_iload_n hx hb dX10_paste_21 rfl (lv_at hl 1 rfl) ?_
          refine va_iald hx hb hK.1 hP 1 1 rfl rfl (vp_in_nI (n := 1) (N := 4) (by decide) (by decide)) dX10_paste_22 ?_
          refine lv_topi (fun v_55 ev_55 => ?_)
          obtain rfl : (-1) = v_55 := (ev_55.trans (y1)).symm
          refine lv_iconst (v := (-1)) hx hb dX10_paste_23 (by decide) ?_
          refine lv_icmp_eq (tgt := 37) hx hb dX10_paste_24 (by decide) (fun _ => ?_) (fun c9 => absurd (by decide) c9)
          refine lv_bipush (v := (-6)) hx hb dX10_paste_37 (by decide) ?_
          refine W.widen (k := 0) (n := 0) (Nat.le_of_ble_eq_true rfl) (Nat.le_of_ble_eq_true rfl) ?_
          exact W.iret (v := (-6)) hx hb hr (fun t ht hW => ⟨⟨(-6), _, rfl, (by first | rfl | decide | (simp only [sp_paste]; (repeat' split) <;> first | rfl | (exfalso; omega))), by rw [ht]; exact hP, hD⟩, hS.F ht⟩) hS.2.2 dX10_paste_39
        · skip
          exact absurd c_54 (by decide)
      · skip
        exact absurd c_51 (by decide)
    · have hl : lv_has ls 7 [(0, .ref ob), (1, .int 1), (2, .int a2), (3, .int 3), (4, .int a4), (5, .int a5)] := hl
      refine lv_iload_n hx hb dX10_paste_0 rfl (lv_at hl 1 rfl) ?_
      refine cSi (As := [.int 1]) (rest := []) ⟨hx, hb, hml, hown, hw0⟩ hA hK hP hD hS [] [0, 1] [] [(ob, .inr (10, [ob_0, .ref wo, .ref mi, .ref hm, .ref mt, .int 0, .ref fv, .int 0, .int 0, .int 0, .int 0, .int 0, .int 0, .int (-1), .ref fr, ob_15, ob_16, ob_17, ob_18, ob_19, ob_20, ob_21, ob_22, ob_23, ob_24, ob_25, ob_26, ob_27, ob_28, ob_29, ob_30, ob_31, ob_32, ob_33, ob_34, .ref cd, ob_36, .ref my, .ref wi, .ref nb, .ref mv])), (my, .inl (y 1, 4, .inl fy))] rfl rfl (by decide) (by decide) (by decide) (kX10_isSlot l G y _ 1 ) ⟨(callB_of 1 hw0 (gA m_169) rfl rfl rfl (hw0 _ m_166) (hw0 _ m_378) (by decide +kernel) ⟨Nat.le_of_ble_eq_true rfl, Nat.le_of_ble_eq_true rfl⟩), (hw0 _ m_379)⟩ rfl hl.1 (Nat.le_of_ble_eq_true rfl) dX10_paste_1 ⟨Nat.le_of_ble_eq_true rfl, Nat.le_of_ble_eq_true rfl⟩ (fun r_56 w_56 H locs hw_56 hP hD hS => ?_)
      rcases hw_56 with ⟨c_57, rfl, rfl⟩ | ⟨c_58, rfl, rfl⟩
      · skip
        have hP : va_P G vwCl [(ob, .inr (10, [ob_0, .ref wo, .ref mi, .ref hm, .ref mt, .int 0, .ref fv, .int 0, .int 0, .int 0, .int 0, .int 0, .int 0, .int (-1), .ref fr, ob_15, ob_16, ob_17, ob_18, ob_19, ob_20, ob_21, ob_22, ob_23, ob_24, ob_25, ob_26, ob_27, ob_28, ob_29, ob_30, ob_31, ob_32, ob_33, ob_34, .ref cd, ob_36, .ref my, .ref wi, .ref nb, .ref mv])), (my, .inl (y 1, 4, .inl fy))] H := hP
        have hD : va_D A [(ob, .inr (10, [ob_0, .ref wo, .ref mi, .ref hm, .ref mt, .int 0, .ref fv, .int 0, .int 0, .int 0, .int 0, .int 0, .int 0, .int (-1), .ref fr, ob_15, ob_16, ob_17, ob_18, ob_19, ob_20, ob_21, ob_22, ob_23, ob_24, ob_25, ob_26, ob_27, ob_28, ob_29, ob_30, ob_31, ob_32, ob_33, ob_34, .ref cd, ob_36, .ref my, .ref wi, .ref nb, .ref mv])), (my, .inl (y 1, 4, .inl fy))] := hD
        refine lv_if_eq (tgt := 14) hx hb dX10_paste_4 (by decide) (fun c9 => absurd c9 (by decide)) (fun _ => ?_)
        refine lv_iload_n hx hb dX10_paste_7 rfl (lv_at hl 3 rfl) ?_
        refine cSi (As := [.int 3]) (rest := []) ⟨hx, hb, hml, hown, hw0⟩ hA hK hP hD hS [] [0, 1] [] [(ob, .inr (10, [ob_0, .ref wo, .ref mi, .ref hm, .ref mt, .int 0, .ref fv, .int 0, .int 0, .int 0, .int 0, .int 0, .int 0, .int (-1), .ref fr, ob_15, ob_16, ob_17, ob_18, ob_19, ob_20, ob_21, ob_22, ob_23, ob_24, ob_25, ob_26, ob_27, ob_28, ob_29, ob_30, ob_31, ob_32, ob_33, ob_34, .ref cd, ob_36, .ref my, .ref wi, .ref nb, .ref mv])), (my, .inl (y 1, 4, .inl fy))] rfl rfl (by decide) (by decide) (by decide) (kX10_isSlot l G y _ 3 ) ⟨(callB_of 1 hw0 (gA m_169) rfl rfl rfl (hw0 _ m_166) (hw0 _ m_378) (by decide +kernel) ⟨Nat.le_of_ble_eq_true rfl, Nat.le_of_ble_eq_true rfl⟩), (hw0 _ m_379)⟩ rfl hl.1 (Nat.le_of_ble_eq_true rfl) dX10_paste_8 ⟨Nat.le_of_ble_eq_true rfl, Nat.le_of_ble_eq_true rfl⟩ (fun r_59 w_59 H locs hw_59 hP hD hS => ?_)
        rcases hw_59 with ⟨c_60, rfl, rfl⟩ | ⟨c_61, rfl, rfl⟩
        · skip
          have hP : va_P G vwCl [(ob, .inr (10, [ob_0, .ref wo, .ref mi, .ref hm, .ref mt, .int 0, .ref fv, .int 0, .int 0, .int 0, .int 0, .int 0, .int 0, .int (-1), .ref fr, ob_15, ob_16, ob_17, ob_18, ob_19, ob_20, ob_21, ob_22, ob_23, ob_24, ob_25, ob_26, ob_27, ob_28, ob_29, ob_30, ob_31, ob_32, ob_33, ob_34, .ref cd, ob_36, .ref my, .ref wi, .ref nb, .ref mv])), (my, .inl (y 1, 4, .inl fy))] H := hP
          have hD : va_D A [(ob, .inr (10, [ob_0, .ref wo, .ref mi, .ref hm, .ref mt, .int 0, .ref fv, .int 0, .int 0, .int 0, .int 0, .int 0, .int 0, .int (-1), .ref fr, ob_15, ob_16, ob_17, ob_18, ob_19, ob_20, ob_21, ob_22, ob_23, ob_24, ob_25, ob_26, ob_27, ob_28, ob_29, ob_30, ob_31, ob_32, ob_33, ob_34, .ref cd, ob_36, .ref my, .ref wi, .ref nb, .ref mv])), (my, .inl (y 1, 4, .inl fy))] := hD
          refine lv_if_ne (tgt := 17) hx hb dX10_paste_11 (by decide) (fun _ => ?_) (fun c9 => absurd c9 (by decide))
          refine lv_aload_n hx hb dX10_paste_17 rfl (lv_at hl 0 rfl) ?_
          refine va_get (D := G) (ci := 10) (v := .ref my) (C := RX10) (T := TX10) (N := 41) hx hb hw0 inA_wsX100 hown hK.1 hP 0 rfl rfl 37 (by decide) (hw0 _ m_157) (fun _ h9 => h9) rfl dX10_paste_18 ?_
          refine lv_iload_n hx hb dX10_paste_21 rfl (lv_at hl 1 rfl) ?_
          refine va_iald hx hb hK.1 hP 1 1 rfl rfl (vp_in_nI (n := 1) (N := 4) (by decide) (by decide)) dX10_paste_22 ?_
          refine lv_topi (fun v_62 ev_62 => ?_)
          obtain rfl : (-1) = v_62 := (ev_62.trans (y1)).symm
          refine lv_iconst (v := (-1)) hx hb dX10_paste_23 (by decide) ?_
          refine lv_icmp_eq (tgt := 37) hx hb dX10_paste_24 (by decide) (fun _ => ?_) (fun c9 => absurd (by decide) c9)
          refine lv_bipush (v := (-6)) hx hb dX10_paste_37 (by decide) ?_
          refine W.widen (k := 0) (n := 0) (Nat.le_of_ble_eq_true rfl) (Nat.le_of_ble_eq_true rfl) ?_
          exact W.iret (v := (-6)) hx hb hr (fun t ht hW => ⟨⟨(-6), _, rfl, (by first | rfl | decide | (simp only [sp_paste]; (repeat' split) <;> first | rfl | (exfalso; omega))), by rw [ht]; exact hP, hD⟩, hS.F ht⟩) hS.2.2 dX10_paste_39
        · skip
          exact absurd c_61 (by decide)
      · skip
        exact absurd c_58 (by decide)
    · have hl : lv_has ls 7 [(0, .ref ob), (1, .int 1), (2, .int a2), (3, .int a3), (4, .int a4), (5, .int a5)] := hl
      refine lv_iload_n hx hb dX10_paste_0 rfl (lv_at hl 1 rfl) ?_
      refine cSi (As := [.int 1]) (rest := []) ⟨hx, hb, hml, hown, hw0⟩ hA hK hP hD hS [] [0, 1] [] [(ob, .inr (10, [ob_0, .ref wo, .ref mi, .ref hm, .ref mt, .int 0, .ref fv, .int 0, .int 0, .int 0, .int 0, .int 0, .int 0, .int (-1), .ref fr, ob_15, ob_16, ob_17, ob_18, ob_19, ob_20, ob_21, ob_22, ob_23, ob_24, ob_25, ob_26, ob_27, ob_28, ob_29, ob_30, ob_31, ob_32, ob_33, ob_34, .ref cd, ob_36, .ref my, .ref wi, .ref nb, .ref mv])), (my, .inl (y 1, 4, .inl fy))] rfl rfl (by decide) (by decide) (by decide) (kX10_isSlot l G y _ 1 ) ⟨(callB_of 1 hw0 (gA m_169) rfl rfl rfl (hw0 _ m_166) (hw0 _ m_378) (by decide +kernel) ⟨Nat.le_of_ble_eq_true rfl, Nat.le_of_ble_eq_true rfl⟩), (hw0 _ m_379)⟩ rfl hl.1 (Nat.le_of_ble_eq_true rfl) dX10_paste_1 ⟨Nat.le_of_ble_eq_true rfl, Nat.le_of_ble_eq_true rfl⟩ (fun r_63 w_63 H locs hw_63 hP hD hS => ?_)
      rcases hw_63 with ⟨c_64, rfl, rfl⟩ | ⟨c_65, rfl, rfl⟩
      · skip
        have hP : va_P G vwCl [(ob, .inr (10, [ob_0, .ref wo, .ref mi, .ref hm, .ref mt, .int 0, .ref fv, .int 0, .int 0, .int 0, .int 0, .int 0, .int 0, .int (-1), .ref fr, ob_15, ob_16, ob_17, ob_18, ob_19, ob_20, ob_21, ob_22, ob_23, ob_24, ob_25, ob_26, ob_27, ob_28, ob_29, ob_30, ob_31, ob_32, ob_33, ob_34, .ref cd, ob_36, .ref my, .ref wi, .ref nb, .ref mv])), (my, .inl (y 1, 4, .inl fy))] H := hP
        have hD : va_D A [(ob, .inr (10, [ob_0, .ref wo, .ref mi, .ref hm, .ref mt, .int 0, .ref fv, .int 0, .int 0, .int 0, .int 0, .int 0, .int 0, .int (-1), .ref fr, ob_15, ob_16, ob_17, ob_18, ob_19, ob_20, ob_21, ob_22, ob_23, ob_24, ob_25, ob_26, ob_27, ob_28, ob_29, ob_30, ob_31, ob_32, ob_33, ob_34, .ref cd, ob_36, .ref my, .ref wi, .ref nb, .ref mv])), (my, .inl (y 1, 4, .inl fy))] := hD
        refine lv_if_eq (tgt := 14) hx hb dX10_paste_4 (by decide) (fun c9 => absurd c9 (by decide)) (fun _ => ?_)
        refine lv_iload_n hx hb dX10_paste_7 rfl (lv_at hl 3 rfl) ?_
        refine cSi (As := [.int a3]) (rest := []) ⟨hx, hb, hml, hown, hw0⟩ hA hK hP hD hS [] [0, 1] [] [(ob, .inr (10, [ob_0, .ref wo, .ref mi, .ref hm, .ref mt, .int 0, .ref fv, .int 0, .int 0, .int 0, .int 0, .int 0, .int 0, .int (-1), .ref fr, ob_15, ob_16, ob_17, ob_18, ob_19, ob_20, ob_21, ob_22, ob_23, ob_24, ob_25, ob_26, ob_27, ob_28, ob_29, ob_30, ob_31, ob_32, ob_33, ob_34, .ref cd, ob_36, .ref my, .ref wi, .ref nb, .ref mv])), (my, .inl (y 1, 4, .inl fy))] rfl rfl (by decide) (by decide) (by decide) (kX10_isSlot l G y _ a3 ) ⟨(callB_of 1 hw0 (gA m_169) rfl rfl rfl (hw0 _ m_166) (hw0 _ m_378) (by decide +kernel) ⟨Nat.le_of_ble_eq_true rfl, Nat.le_of_ble_eq_true rfl⟩), (hw0 _ m_379)⟩ rfl hl.1 (Nat.le_of_ble_eq_true rfl) dX10_paste_8 ⟨Nat.le_of_ble_eq_true rfl, Nat.le_of_ble_eq_true rfl⟩ (fun r_66 w_66 H locs hw_66 hP hD hS => ?_)
        rcases hw_66 with ⟨c_67, rfl, rfl⟩ | ⟨c_68, rfl, rfl⟩
        · skip
          exfalso; omega
        · skip
          have hP : va_P G vwCl [(ob, .inr (10, [ob_0, .ref wo, .ref mi, .ref hm, .ref mt, .int 0, .ref fv, .int 0, .int 0, .int 0, .int 0, .int 0, .int 0, .int (-1), .ref fr, ob_15, ob_16, ob_17, ob_18, ob_19, ob_20, ob_21, ob_22, ob_23, ob_24, ob_25, ob_26, ob_27, ob_28, ob_29, ob_30, ob_31, ob_32, ob_33, ob_34, .ref cd, ob_36, .ref my, .ref wi, .ref nb, .ref mv])), (my, .inl (y 1, 4, .inl fy))] H := hP
          have hD : va_D A [(ob, .inr (10, [ob_0, .ref wo, .ref mi, .ref hm, .ref mt, .int 0, .ref fv, .int 0, .int 0, .int 0, .int 0, .int 0, .int 0, .int (-1), .ref fr, ob_15, ob_16, ob_17, ob_18, ob_19, ob_20, ob_21, ob_22, ob_23, ob_24, ob_25, ob_26, ob_27, ob_28, ob_29, ob_30, ob_31, ob_32, ob_33, ob_34, .ref cd, ob_36, .ref my, .ref wi, .ref nb, .ref mv])), (my, .inl (y 1, 4, .inl fy))] := hD
          refine lv_if_ne (tgt := 17) hx hb dX10_paste_11 (by decide) (fun c9 => absurd (by decide) c9) (fun _ => ?_)
          refine lv_bipush (v := (-2)) hx hb dX10_paste_14 (by decide) ?_
          refine W.widen (k := 0) (n := 0) (Nat.le_of_ble_eq_true rfl) (Nat.le_of_ble_eq_true rfl) ?_
          exact W.iret (v := (-2)) hx hb hr (fun t ht hW => ⟨⟨(-2), _, rfl, (by first | rfl | decide | (simp only [sp_paste]; (repeat' split) <;> first | rfl | (exfalso; omega))), by rw [ht]; exact hP, hD⟩, hS.F ht⟩) hS.2.2 dX10_paste_16
      · skip
        exact absurd c_65 (by decide)
  · have hl : lv_has ls 7 [(0, .ref ob), (1, .int 2), (2, .int a2), (3, .int a3), (4, .int a4), (5, .int a5)] := hl
    rcases sl_cases a3 with rfl | rfl | rfl | rfl | t_a3
    · have hl : lv_has ls 7 [(0, .ref ob), (1, .int 2), (2, .int a2), (3, .int 0), (4, .int a4), (5, .int a5)] := hl
      refine lv_iload_n hx hb dX10_paste_0 rfl (lv_at hl 1 rfl) ?_
      refine cSi (As := [.int 2]) (rest := []) ⟨hx, hb, hml, hown, hw0⟩ hA hK hP hD hS [] [0, 1] [] [(ob, .inr (10, [ob_0, .ref wo, .ref mi, .ref hm, .ref mt, .int 0, .ref fv, .int 0, .int 0, .int 0, .int 0, .int 0, .int 0, .int (-1), .ref fr, ob_15, ob_16, ob_17, ob_18, ob_19, ob_20, ob_21, ob_22, ob_23, ob_24, ob_25, ob_26, ob_27, ob_28, ob_29, ob_30, ob_31, ob_32, ob_33, ob_34, .ref cd, ob_36, .ref my, .ref wi, .ref nb, .ref mv])), (my, .inl (y 1, 4, .inl fy))] rfl rfl (by decide) (by decide) (by decide) (kX10_isSlot l G y _ 2 ) ⟨(callB_of 1 hw0 (gA m_169) rfl rfl rfl (hw0 _ m_166) (hw0 _ m_378) (by decide +kernel) ⟨Nat.le_of_ble_eq_true rfl, Nat.le_of_ble_eq_true rfl⟩), (hw0 _ m_379)⟩ rfl hl.1 (Nat.le_of_ble_eq_true rfl) dX10_paste_1 ⟨Nat.le_of_ble_eq_true rfl, Nat.le_of_ble_eq_true rfl⟩ (fun r_69 w_69 H locs hw_69 hP hD hS => ?_)
      rcases hw_69 with ⟨c_70, rfl, rfl⟩ | ⟨c_71, rfl, rfl⟩
      · skip
        have hP : va_P G vwCl [(ob, .inr (10, [ob_0, .ref wo, .ref mi, .ref hm, .ref mt, .int 0, .ref fv, .int 0, .int 0, .int 0, .int 0, .int 0, .int 0, .int (-1), .ref fr, ob_15, ob_16, ob_17, ob_18, ob_19, ob_20, ob_21, ob_22, ob_23, ob_24, ob_25, ob_26, ob_27, ob_28, ob_29, ob_30, ob_31, ob_32, ob_33, ob_34, .ref cd, ob_36, .ref my, .ref wi, .ref nb, .ref mv])), (my, .inl (y 1, 4, .inl fy))] H := hP
        have hD : va_D A [(ob, .inr (10, [ob_0, .ref wo, .ref mi, .ref hm, .ref mt, .int 0, .ref fv, .int 0, .int 0, .int 0, .int 0, .int 0, .int 0, .int (-1), .ref fr, ob_15, ob_16, ob_17, ob_18, ob_19, ob_20, ob_21, ob_22, ob_23, ob_24, ob_25, ob_26, ob_27, ob_28, ob_29, ob_30, ob_31, ob_32, ob_33, ob_34, .ref cd, ob_36, .ref my, .ref wi, .ref nb, .ref mv])), (my, .inl (y 1, 4, .inl fy))] := hD
        refine lv_if_eq (tgt := 14) hx hb dX10_paste_4 (by decide) (fun c9 => absurd c9 (by decide)) (fun _ => ?_)
        refine lv_iload_n hx hb dX10_paste_7 rfl (lv_at hl 3 rfl) ?_
        refine cSi (As := [.int 0]) (rest := []) ⟨hx, hb, hml, hown, hw0⟩ hA hK hP hD hS [] [0, 1] [] [(ob, .inr (10, [ob_0, .ref wo, .ref mi, .ref hm, .ref mt, .int 0, .ref fv, .int 0, .int 0, .int 0, .int 0, .int 0, .int 0, .int (-1), .ref fr, ob_15, ob_16, ob_17, ob_18, ob_19, ob_20, ob_21, ob_22, ob_23, ob_24, ob_25, ob_26, ob_27, ob_28, ob_29, ob_30, ob_31, ob_32, ob_33, ob_34, .ref cd, ob_36, .ref my, .ref wi, .ref nb, .ref mv])), (my, .inl (y 1, 4, .inl fy))] rfl rfl (by decide) (by decide) (by decide) (kX10_isSlot l G y _ 0 ) ⟨(callB_of 1 hw0 (gA m_169) rfl rfl rfl (hw0 _ m_166) (hw0 _ m_378) (by decide +kernel) ⟨Nat.le_of_ble_eq_true rfl, Nat.le_of_ble_eq_true rfl⟩), (hw0 _ m_379)⟩ rfl hl.1 (Nat.le_of_ble_eq_true rfl) dX10_paste_8 ⟨Nat.le_of_ble_eq_true rfl, Nat.le_of_ble_eq_true rfl⟩ (fun r_72 w_72 H locs hw_72 hP hD hS => ?_)
        rcases hw_72 with ⟨c_73, rfl, rfl⟩ | ⟨c_74, rfl, rfl⟩
        · skip
          have hP : va_P G vwCl [(ob, .inr (10, [ob_0, .ref wo, .ref mi, .ref hm, .ref mt, .int 0, .ref fv, .int 0, .int 0, .int 0, .int 0, .int 0, .int 0, .int (-1), .ref fr, ob_15, ob_16, ob_17, ob_18, ob_19, ob_20, ob_21, ob_22, ob_23, ob_24, ob_25, ob_26, ob_27, ob_28, ob_29, ob_30, ob_31, ob_32, ob_33, ob_34, .ref cd, ob_36, .ref my, .ref wi, .ref nb, .ref mv])), (my, .inl (y 1, 4, .inl fy))] H := hP
          have hD : va_D A [(ob, .inr (10, [ob_0, .ref wo, .ref mi, .ref hm, .ref mt, .int 0, .ref fv, .int 0, .int 0, .int 0, .int 0, .int 0, .int 0, .int (-1), .ref fr, ob_15, ob_16, ob_17, ob_18, ob_19, ob_20, ob_21, ob_22, ob_23, ob_24, ob_25, ob_26, ob_27, ob_28, ob_29, ob_30, ob_31, ob_32, ob_33, ob_34, .ref cd, ob_36, .ref my, .ref wi, .ref nb, .ref mv])), (my, .inl (y 1, 4, .inl fy))] := hD
          refine lv_if_ne (tgt := 17) hx hb dX10_paste_11 (by decide) (fun _ => ?_) (fun c9 => absurd c9 (by decide))
          refine lv_aload_n hx hb dX10_paste_17 rfl (lv_at hl 0 rfl) ?_
          refine va_get (D := G) (ci := 10) (v := .ref my) (C := RX10) (T := TX10) (N := 41) hx hb hw0 inA_wsX100 hown hK.1 hP 0 rfl rfl 37 (by decide) (hw0 _ m_157) (fun _ h9 => h9) rfl dX10_paste_18 ?_
          refine lv_iload_n hx hb dX10_paste_21 rfl (lv_at hl 1 rfl) ?_
          refine va_iald hx hb hK.1 hP 1 1 rfl rfl (vp_in_nI (n := 2) (N := 4) (by decide) (by decide)) dX10_paste_22 ?_
          refine lv_topi (fun v_75 ev_75 => ?_)
          obtain rfl : (-1) = v_75 := (ev_75.trans (y2)).symm
          refine lv_iconst (v := (-1)) hx hb dX10_paste_23 (by decide) ?_
          refine lv_icmp_eq (tgt := 37) hx hb dX10_paste_24 (by decide) (fun _ => ?_) (fun c9 => absurd (by decide) c9)
          refine lv_bipush (v := (-6)) hx hb dX10_paste_37 (by decide) ?_
          refine W.widen (k := 0) (n := 0) (Nat.le_of_ble_eq_true rfl) (Nat.le_of_ble_eq_true rfl) ?_
          exact W.iret (v := (-6)) hx hb hr (fun t ht hW => ⟨⟨(-6), _, rfl, (by first | rfl | decide | (simp only [sp_paste]; (repeat' split) <;> first | rfl | (exfalso; omega))), by rw [ht]; exact hP, hD⟩, hS.F ht⟩) hS.2.2 dX10_paste_39
        · skip
          exact absurd c_74 (by decide)
      · skip
        exact absurd c_71 (by decide)
    · have hl : lv_has ls 7 [(0, .ref ob), (1, .int 2), (2, .int a2), (3, .int 1), (4, .int a4), (5, .int a5)] := hl
      refine lv_iload_n hx hb dX10_paste_0 rfl (lv_at hl 1 rfl) ?_
      refine cSi (As := [.int 2]) (rest := []) ⟨hx, hb, hml, hown, hw0⟩ hA hK hP hD hS [] [0, 1] [] [(ob, .inr (10, [ob_0, .ref wo, .ref mi, .ref hm, .ref mt, .int 0, .ref fv, .int 0, .int 0, .int 0, .int 0, .int 0, .int 0, .int (-1), .ref fr, ob_15, ob_16, ob_17, ob_18, ob_19, ob_20, ob_21, ob_22, ob_23, ob_24, ob_25, ob_26, ob_27, ob_28, ob_29, ob_30, ob_31, ob_32, ob_33, ob_34, .ref cd, ob_36, .ref my, .ref wi, .ref nb, .ref mv])), (my, .inl (y 1, 4, .inl fy))] rfl rfl (by decide) (by decide) (by decide) (kX10_isSlot l G y _ 2 ) ⟨(callB_of 1 hw0 (gA m_169) rfl rfl rfl (hw0 _ m_166) (hw0 _ m_378) (by decide +kernel) ⟨Nat.le_of_ble_eq_true rfl, Nat.le_of_ble_eq_true rfl⟩), (hw0 _ m_379)⟩ rfl hl.1 (Nat.le_of_ble_eq_true rfl) dX10_paste_1 ⟨Nat.le_of_ble_eq_true rfl, Nat.le_of_ble_eq_true rfl⟩ (fun r_76 w_76 H locs hw_76 hP hD hS => ?_)
      rcases hw_76 with ⟨c_77, rfl, rfl⟩ | ⟨c_78, rfl, rfl⟩
      · skip
        have hP : va_P G vwCl [(ob, .inr (10, [ob_0, .ref wo, .ref mi, .ref hm, .ref mt, .int 0, .ref fv, .int 0, .int 0, .int 0, .int 0, .int 0, .int 0, .int (-1), .ref fr, ob_15, ob_16, ob_17, ob_18, ob_19, ob_20, ob_21, ob_22, ob_23, ob_24, ob_25, ob_26, ob_27, ob_28, ob_29, ob_30, ob_31, ob_32, ob_33, ob_34, .ref cd, ob_36, .ref my, .ref wi, .ref nb, .ref mv])), (my, .inl (y 1, 4, .inl fy))] H := hP
        have hD : va_D A [(ob, .inr (10, [ob_0, .ref wo, .ref mi, .ref hm, .ref mt, .int 0, .ref fv, .int 0, .int 0, .int 0, .int 0, .int 0, .int 0, .int (-1), .ref fr, ob_15, ob_16, ob_17, ob_18, ob_19, ob_20, ob_21, ob_22, ob_23, ob_24, ob_25, ob_26, ob_27, ob_28, ob_29, ob_30, ob_31, ob_32, ob_33, ob_34, .ref cd, ob_36, .ref my, .ref wi, .ref nb, .ref mv])), (my, .inl (y 1, 4, .inl fy))] := hD
        refine lv_if_eq (tgt := 14) hx hb dX10_paste_4 (by decide) (fun c9 => absurd c9 (by decide)) (fun _ => ?_)
        refine lv_iload_n hx hb dX10_paste_7 rfl (lv_at hl 3 rfl) ?_
        refine cSi (As := [.int 1]) (rest := []) ⟨hx, hb, hml, hown, hw0⟩ hA hK hP hD hS [] [0, 1] [] [(ob, .inr (10, [ob_0, .ref wo, .ref mi, .ref hm, .ref mt, .int 0, .ref fv, .int 0, .int 0, .int 0, .int 0, .int 0, .int 0, .int (-1), .ref fr, ob_15, ob_16, ob_17, ob_18, ob_19, ob_20, ob_21, ob_22, ob_23, ob_24, ob_25, ob_26, ob_27, ob_28, ob_29, ob_30, ob_31, ob_32, ob_33, ob_34, .ref cd, ob_36, .ref my, .ref wi, .ref nb, .ref mv])), (my, .inl (y 1, 4, .inl fy))] rfl rfl (by decide) (by decide) (by decide) (kX10_isSlot l G y _ 1 ) ⟨(callB_of 1 hw0 (gA m_169) rfl rfl rfl (hw0 _ m_166) (hw0 _ m_378) (by decide +kernel) ⟨Nat.le_of_ble_eq_true rfl, Nat.le_of_ble_eq_true rfl⟩), (hw0 _ m_379)⟩ rfl hl.1 (Nat.le_of_ble_eq_true rfl) dX10_paste_8 ⟨Nat.le_of_ble_eq_true rfl, Nat.le_of_ble_eq_true rfl⟩ (fun r_79 w_79 H locs hw_79 hP hD hS => ?_)
        rcases hw_79 with ⟨c_80, rfl, rfl⟩ | ⟨c_81, rfl, rfl⟩
        · skip
          have hP : va_P G vwCl [(ob, .inr (10, [ob_0, .ref wo, .ref mi, .ref hm, .ref mt, .int 0, .ref fv, .int 0, .int 0, .int 0, .int 0, .int 0, .int 0, .int (-1), .ref fr, ob_15, ob_16, ob_17, ob_18, ob_19, ob_20, ob_21, ob_22, ob_23, ob_24, ob_25, ob_26, ob_27, ob_28, ob_29, ob_30, ob_31, ob_32, ob_33, ob_34, .ref cd, ob_36, .ref my, .ref wi, .ref nb, .ref mv])), (my, .inl (y 1, 4, .inl fy))] H := hP
          have hD : va_D A [(ob, .inr (10, [ob_0, .ref wo, .ref mi, .ref hm, .ref mt, .int 0, .ref fv, .int 0, .int 0, .int 0, .int 0, .int 0, .int 0, .int (-1), .ref fr, ob_15, ob_16, ob_17, ob_18, ob_19, ob_20, ob_21, ob_22, ob_23, ob_24, ob_25, ob_26, ob_27, ob_28, ob_29, ob_30, ob_31, ob_32, ob_33, ob_34, .ref cd, ob_36, .ref my, .ref wi, .ref nb, .ref mv])), (my, .inl (y 1, 4, .inl fy))] := hD
          refine lv_if_ne (tgt := 17) hx hb dX10_paste_11 (by decide) (fun _ => ?_) (fun c9 => absurd c9 (by decide))
          refine lv_aload_n hx hb dX10_paste_17 rfl (lv_at hl 0 rfl) ?_
          refine va_get (D := G) (ci := 10) (v := .ref my) (C := RX10) (T := TX10) (N := 41) hx hb hw0 inA_wsX100 hown hK.1 hP 0 rfl rfl 37 (by decide) (hw0 _ m_157) (fun _ h9 => h9) rfl dX10_paste_18 ?_
          refine lv_iload_n hx hb dX10_paste_21 rfl (lv_at hl 1 rfl) ?_
          refine va_iald hx hb hK.1 hP 1 1 rfl rfl (vp_in_nI (n := 2) (N := 4) (by decide) (by decide)) dX10_paste_22 ?_
          refine lv_topi (fun v_82 ev_82 => ?_)
          obtain rfl : (-1) = v_82 := (ev_82.trans (y2)).symm
          refine lv_iconst (v := (-1)) hx hb dX10_paste_23 (by decide) ?_
          refine lv_icmp_eq (tgt := 37) hx hb dX10_paste_24 (by decide) (fun _ => ?_) (fun c9 => absurd (by decide) c9)
          refine lv_bipush (v := (-6)) hx hb dX10_paste_37 (by decide) ?_
          refine W.widen (k := 0) (n := 0) (Nat.le_of_ble_eq_true rfl) (Nat.le_of_ble_eq_true rfl) ?_
          exact W.iret (v := (-6)) hx hb hr (fun t ht hW => ⟨⟨(-6), _, rfl, (by first | rfl | decide | (simp only [sp_paste]; (repeat' split) <;> first | rfl | (exfalso; omega))), by rw [ht]; exact hP, hD⟩, hS.F ht⟩) hS.2.2 dX10_paste_39
        · skip
          exact absurd c_81 (by decide)
      · skip
        exact absurd c_78 (by decide)
    · have hl : lv_has ls 7 [(0, .ref ob), (1, .int 2), (2, .int a2), (3, .int 2), (4, .int a4), (5, .int a5)] := hl
      refine lv_iload_n hx hb dX10_paste_0 rfl (lv_at hl 1 rfl) ?_
      refine cSi (As := [.int 2]) (rest := []) ⟨hx, hb, hml, hown, hw0⟩ hA hK hP hD hS [] [0, 1] [] [(ob, .inr (10, [ob_0, .ref wo, .ref mi, .ref hm, .ref mt, .int 0, .ref fv, .int 0, .int 0, .int 0, .int 0, .int 0, .int 0, .int (-1), .ref fr, ob_15, ob_16, ob_17, ob_18, ob_19, ob_20, ob_21, ob_22, ob_23, ob_24, ob_25, ob_26, ob_27, ob_28, ob_29, ob_30, ob_31, ob_32, ob_33, ob_34, .ref cd, ob_36, .ref my, .ref wi, .ref nb, .ref mv])), (my, .inl (y 1, 4, .inl fy))] rfl rfl (by decide) (by decide) (by decide) (kX10_isSlot l G y _ 2 ) ⟨(callB_of 1 hw0 (gA m_169) rfl rfl rfl (hw0 _ m_166) (hw0 _ m_378) (by decide +kernel) ⟨Nat.le_of_ble_eq_true rfl, Nat.le_of_ble_eq_true rfl⟩), (hw0 _ m_379)⟩ rfl hl.1 (Nat.le_of_ble_eq_true rfl) dX10_paste_1 ⟨Nat.le_of_ble_eq_true rfl, Nat.le_of_ble_eq_true rfl⟩ (fun r_83 w_83 H locs hw_83 hP hD hS => ?_)
      rcases hw_83 with ⟨c_84, rfl, rfl⟩ | ⟨c_85, rfl, rfl⟩
      · skip
        have hP : va_P G vwCl [(ob, .inr (10, [ob_0, .ref wo, .ref mi, .ref hm, .ref mt, .int 0, .ref fv, .int 0, .int 0, .int 0, .int 0, .int 0, .int 0, .int (-1), .ref fr, ob_15, ob_16, ob_17, ob_18, ob_19, ob_20, ob_21, ob_22, ob_23, ob_24, ob_25, ob_26, ob_27, ob_28, ob_29, ob_30, ob_31, ob_32, ob_33, ob_34, .ref cd, ob_36, .ref my, .ref wi, .ref nb, .ref mv])), (my, .inl (y 1, 4, .inl fy))] H := hP
        have hD : va_D A [(ob, .inr (10, [ob_0, .ref wo, .ref mi, .ref hm, .ref mt, .int 0, .ref fv, .int 0, .int 0, .int 0, .int 0, .int 0, .int 0, .int (-1), .ref fr, ob_15, ob_16, ob_17, ob_18, ob_19, ob_20, ob_21, ob_22, ob_23, ob_24, ob_25, ob_26, ob_27, ob_28, ob_29, ob_30, ob_31, ob_32, ob_33, ob_34, .ref cd, ob_36, .ref my, .ref wi, .ref nb, .ref mv])), (my, .inl (y 1, 4, .inl fy))] := hD
        refine lv_if_eq (tgt := 14) hx hb dX10_paste_4 (by decide) (fun c9 => absurd c9 (by decide)) (fun _ => ?_)
        refine lv_iload_n hx hb dX10_paste_7 rfl (lv_at hl 3 rfl) ?_
        refine cSi (As := [.int 2]) (rest := []) ⟨hx, hb, hml, hown, hw0⟩ hA hK hP hD hS [] [0, 1] [] [(ob, .inr (10, [ob_0, .ref wo, .ref mi, .ref hm, .ref mt, .int 0, .ref fv, .int 0, .int 0, .int 0, .int 0, .int 0, .int 0, .int (-1), .ref fr, ob_15, ob_16, ob_17, ob_18, ob_19, ob_20, ob_21, ob_22, ob_23, ob_24, ob_25, ob_26, ob_27, ob_28, ob_29, ob_30, ob_31, ob_32, ob_33, ob_34, .ref cd, ob_36, .ref my, .ref wi, .ref nb, .ref mv])), (my, .inl (y 1, 4, .inl fy))] rfl rfl (by decide) (by decide) (by decide) (kX10_isSlot l G y _ 2 ) ⟨(callB_of 1 hw0 (gA m_169) rfl rfl rfl (hw0 _ m_166) (hw0 _ m_378) (by decide +kernel) ⟨Nat.le_of_ble_eq_true rfl, Nat.le_of_ble_eq_true rfl⟩), (hw0 _ m_379)⟩ rfl hl.1 (Nat.le_of_ble_eq_true rfl) dX10_paste_8 ⟨Nat.le_of_ble_eq_true rfl, Nat.le_of_ble_eq_true rfl⟩ (fun r_86 w_86 H locs hw_86 hP hD hS => ?_)
        rcases hw_86 with ⟨c_87, rfl, rfl⟩ | ⟨c_88, rfl, rfl⟩
        · skip
          have hP : va_P G vwCl [(ob, .inr (10, [ob_0, .ref wo, .ref mi, .ref hm, .ref mt, .int 0, .ref fv, .int 0, .int 0, .int 0, .int 0, .int 0, .int 0, .int (-1), .ref fr, ob_15, ob_16, ob_17, ob_18, ob_19, ob_20, ob_21, ob_22, ob_23, ob_24, ob_25, ob_26, ob_27, ob_28, ob_29, ob_30, ob_31, ob_32, ob_33, ob_34, .ref cd, ob_36, .ref my, .ref wi, .ref nb, .ref mv])), (my, .inl (y 1, 4, .inl fy))] H := hP
          have hD : va_D A [(ob, .inr (10, [ob_0, .ref wo, .ref mi, .ref hm, .ref mt, .int 0, .ref fv, .int 0, .int 0, .int 0, .int 0, .int 0, .int 0, .int (-1), .ref fr, ob_15, ob_16, ob_17, ob_18, ob_19, ob_20, ob_21, ob_22, ob_23, ob_24, ob_25, ob_26, ob_27, ob_28, ob_29, ob_30, ob_31, ob_32, ob_33, ob_34, .ref cd, ob_36, .ref my, .ref wi, .ref nb, .ref mv])), (my, .inl (y 1, 4, .inl fy))] := hD
          refine lv_if_ne (tgt := 17) hx hb dX10_paste_11 (by decide) (fun _ => ?_) (fun c9 => absurd c9 (by decide))
          refine lv_aload_n hx hb dX10_paste_17 rfl (lv_at hl 0 rfl) ?_
          refine va_get (D := G) (ci := 10) (v := .ref my) (C := RX10) (T := TX10) (N := 41) hx hb hw0 inA_wsX100 hown hK.1 hP 0 rfl rfl 37 (by decide) (hw0 _ m_157) (fun _ h9 => h9) rfl dX10_paste_18 ?_
          refine lv_iload_n hx hb dX10_paste_21 rfl (lv_at hl 1 rfl) ?_
          refine va_iald hx hb hK.1 hP 1 1 rfl rfl (vp_in_nI (n := 2) (N := 4) (by decide) (by decide)) dX10_paste_22 ?_
          refine lv_topi (fun v_89 ev_89 => ?_)
          obtain rfl : (-1) = v_89 := (ev_89.trans (y2)).symm
          refine lv_iconst (v := (-1)) hx hb dX10_paste_23 (by decide) ?_
          refine lv_icmp_eq (tgt := 37) hx hb dX10_paste_24 (by decide) (fun _ => ?_) (fun c9 => absurd (by decide) c9)
          refine lv_bipush (v := (-6)) hx hb dX10_paste_37 (by decide) ?_
          refine W.widen (k := 0) (n := 0) (Nat.le_of_ble_eq_true rfl) (Nat.le_of_ble_eq_true rfl) ?_
          exact W.iret (v := (-6)) hx hb hr (fun t ht hW => ⟨⟨(-6), _, rfl, (by first | rfl | decide | (simp only [sp_paste]; (repeat' split) <;> first | rfl | (exfalso; omega))), by rw [ht]; exact hP, hD⟩, hS.F ht⟩) hS.2.2 dX10_paste_39
        · skip
          exact absurd c_88 (by decide)
      · skip
        exact absurd c_85 (by decide)
    · have hl : lv_has ls 7 [(0, .ref ob), (1, .int 2), (2, .int a2), (3, .int 3), (4, .int a4), (5, .int a5)] := hl
      refine lv_iload_n hx hb dX10_paste_0 rfl (lv_at hl 1 rfl) ?_
      refine cSi (As := [.int 2]) (rest := []) ⟨hx, hb, hml, hown, hw0⟩ hA hK hP hD hS [] [0, 1] [] [(ob, .inr (10, [ob_0, .ref wo, .ref mi, .ref hm, .ref mt, .int 0, .ref fv, .int 0, .int 0, .int 0, .int 0, .int 0, .int 0, .int (-1), .ref fr, ob_15, ob_16, ob_17, ob_18, ob_19, ob_20, ob_21, ob_22, ob_23, ob_24, ob_25, ob_26, ob_27, ob_28, ob_29, ob_30, ob_31, ob_32, ob_33, ob_34, .ref cd, ob_36, .ref my, .ref wi, .ref nb, .ref mv])), (my, .inl (y 1, 4, .inl fy))] rfl rfl (by decide) (by decide) (by decide) (kX10_isSlot l G y _ 2 ) ⟨(callB_of 1 hw0 (gA m_169) rfl rfl rfl (hw0 _ m_166) (hw0 _ m_378) (by decide +kernel) ⟨Nat.le_of_ble_eq_true rfl, Nat.le_of_ble_eq_true rfl⟩), (hw0 _ m_379)⟩ rfl hl.1 (Nat.le_of_ble_eq_true rfl) dX10_paste_1 ⟨Nat.le_of_ble_eq_true rfl, Nat.le_of_ble_eq_true rfl⟩ (fun r_90 w_90 H locs hw_90 hP hD hS => ?_)
      rcases hw_90 with ⟨c_91, rfl, rfl⟩ | ⟨c_92, rfl, rfl⟩
      · skip
        have hP : va_P G vwCl [(ob, .inr (10, [ob_0, .ref wo, .ref mi, .ref hm, .ref mt, .int 0, .ref fv, .int 0, .int 0, .int 0, .int 0, .int 0, .int 0, .int (-1), .ref fr, ob_15, ob_16, ob_17, ob_18, ob_19, ob_20, ob_21, ob_22, ob_23, ob_24, ob_25, ob_26, ob_27, ob_28, ob_29, ob_30, ob_31, ob_32, ob_33, ob_34, .ref cd, ob_36, .ref my, .ref wi, .ref nb, .ref mv])), (my, .inl (y 1, 4, .inl fy))] H := hP
        have hD : va_D A [(ob, .inr (10, [ob_0, .ref wo, .ref mi, .ref hm, .ref mt, .int 0, .ref fv, .int 0, .int 0, .int 0, .int 0, .int 0, .int 0, .int (-1), .ref fr, ob_15, ob_16, ob_17, ob_18, ob_19, ob_20, ob_21, ob_22, ob_23, ob_24, ob_25, ob_26, ob_27, ob_28, ob_29, ob_30, ob_31, ob_32, ob_33, ob_34, .ref cd, ob_36, .ref my, .ref wi, .ref nb, .ref mv])), (my, .inl (y 1, 4, .inl fy))] := hD
        refine lv_if_eq (tgt := 14) hx hb dX10_paste_4 (by decide) (fun c9 => absurd c9 (by decide)) (fun _ => ?_)
        refine lv_iload_n hx hb dX10_paste_7 rfl (lv_at hl 3 rfl) ?_
        refine cSi (As := [.int 3]) (rest := []) ⟨hx, hb, hml, hown, hw0⟩ hA hK hP hD hS [] [0, 1] [] [(ob, .inr (10, [ob_0, .ref wo, .ref mi, .ref hm, .ref mt, .int 0, .ref fv, .int 0, .int 0, .int 0, .int 0, .int 0, .int 0, .int (-1), .ref fr, ob_15, ob_16, ob_17, ob_18, ob_19, ob_20, ob_21, ob_22, ob_23, ob_24, ob_25, ob_26, ob_27, ob_28, ob_29, ob_30, ob_31, ob_32, ob_33, ob_34, .ref cd, ob_36, .ref my, .ref wi, .ref nb, .ref mv])), (my, .inl (y 1, 4, .inl fy))] rfl rfl (by decide) (by decide) (by decide) (kX10_isSlot l G y _ 3 ) ⟨(callB_of 1 hw0 (gA m_169) rfl rfl rfl (hw0 _ m_166) (hw0 _ m_378) (by decide +kernel) ⟨Nat.le_of_ble_eq_true rfl, Nat.le_of_ble_eq_true rfl⟩), (hw0 _ m_379)⟩ rfl hl.1 (Nat.le_of_ble_eq_true rfl) dX10_paste_8 ⟨Nat.le_of_ble_eq_true rfl, Nat.le_of_ble_eq_true rfl⟩ (fun r_93 w_93 H locs hw_93 hP hD hS => ?_)
        rcases hw_93 with ⟨c_94, rfl, rfl⟩ | ⟨c_95, rfl, rfl⟩
        · skip
          have hP : va_P G vwCl [(ob, .inr (10, [ob_0, .ref wo, .ref mi, .ref hm, .ref mt, .int 0, .ref fv, .int 0, .int 0, .int 0, .int 0, .int 0, .int 0, .int (-1), .ref fr, ob_15, ob_16, ob_17, ob_18, ob_19, ob_20, ob_21, ob_22, ob_23, ob_24, ob_25, ob_26, ob_27, ob_28, ob_29, ob_30, ob_31, ob_32, ob_33, ob_34, .ref cd, ob_36, .ref my, .ref wi, .ref nb, .ref mv])), (my, .inl (y 1, 4, .inl fy))] H := hP
          have hD : va_D A [(ob, .inr (10, [ob_0, .ref wo, .ref mi, .ref hm, .ref mt, .int 0, .ref fv, .int 0, .int 0, .int 0, .int 0, .int 0, .int 0, .int (-1), .ref fr, ob_15, ob_16, ob_17, ob_18, ob_19, ob_20, ob_21, ob_22, ob_23, ob_24, ob_25, ob_26, ob_27, ob_28, ob_29, ob_30, ob_31, ob_32, ob_33, ob_34, .ref cd, ob_36, .ref my, .ref wi, .ref nb, .ref mv])), (my, .inl (y 1, 4, .inl fy))] := hD
          refine lv_if_ne (tgt := 17) hx hb dX10_paste_11 (by decide) (fun _ => ?_) (fun c9 => absurd c9 (by decide))
          refine lv_aload_n hx hb dX10_paste_17 rfl (lv_at hl 0 rfl) ?_
          refine va_get (D := G) (ci := 10) (v := .ref my) (C := RX10) (T := TX10) (N := 41) hx hb hw0 inA_wsX100 hown hK.1 hP 0 rfl rfl 37 (by decide) (hw0 _ m_157) (fun _ h9 => h9) rfl dX10_paste_18 ?_
          refine lv_iload_n hx hb dX10_paste_21 rfl (lv_at hl 1 rfl) ?_
          refine va_iald hx hb hK.1 hP 1 1 rfl rfl (vp_in_nI (n := 2) (N := 4) (by decide) (by decide)) dX10_paste_22 ?_
          refine lv_topi (fun v_96 ev_96 => ?_)
          obtain rfl : (-1) = v_96 := (ev_96.trans (y2)).symm
          refine lv_iconst (v := (-1)) hx hb dX10_paste_23 (by decide) ?_
          refine lv_icmp_eq (tgt := 37) hx hb dX10_paste_24 (by decide) (fun _ => ?_) (fun c9 => absurd (by decide) c9)
          refine lv_bipush (v := (-6)) hx hb dX10_paste_37 (by decide) ?_
          refine W.widen (k := 0) (n := 0) (Nat.le_of_ble_eq_true rfl) (Nat.le_of_ble_eq_true rfl) ?_
          exact W.iret (v := (-6)) hx hb hr (fun t ht hW => ⟨⟨(-6), _, rfl, (by first | rfl | decide | (simp only [sp_paste]; (repeat' split) <;> first | rfl | (exfalso; omega))), by rw [ht]; exact hP, hD⟩, hS.F ht⟩) hS.2.2 dX10_paste_39
        · skip
          exact absurd c_95 (by decide)
      · skip
        exact absurd c_92 (by decide)
    · have hl : lv_has ls 7 [(0, .ref ob), (1, .int 2), (2, .int a2), (3, .int a3), (4, .int a4), (5, .int a5)] := hl
      refine lv_iload_n hx hb dX10_paste_0 rfl (lv_at hl 1 rfl) ?_
      refine cSi (As := [.int 2]) (rest := []) ⟨hx, hb, hml, hown, hw0⟩ hA hK hP hD hS [] [0, 1] [] [(ob, .inr (10, [ob_0, .ref wo, .ref mi, .ref hm, .ref mt, .int 0, .ref fv, .int 0, .int 0, .int 0, .int 0, .int 0, .int 0, .int (-1), .ref fr, ob_15, ob_16, ob_17, ob_18, ob_19, ob_20, ob_21, ob_22, ob_23, ob_24, ob_25, ob_26, ob_27, ob_28, ob_29, ob_30, ob_31, ob_32, ob_33, ob_34, .ref cd, ob_36, .ref my, .ref wi, .ref nb, .ref mv])), (my, .inl (y 1, 4, .inl fy))] rfl rfl (by decide) (by decide) (by decide) (kX10_isSlot l G y _ 2 ) ⟨(callB_of 1 hw0 (gA m_169) rfl rfl rfl (hw0 _ m_166) (hw0 _ m_378) (by decide +kernel) ⟨Nat.le_of_ble_eq_true rfl, Nat.le_of_ble_eq_true rfl⟩), (hw0 _ m_379)⟩ rfl hl.1 (Nat.le_of_ble_eq_true rfl) dX10_paste_1 ⟨Nat.le_of_ble_eq_true rfl, Nat.le_of_ble_eq_true rfl⟩ (fun r_97 w_97 H locs hw_97 hP hD hS => ?_)
      rcases hw_97 with ⟨c_98, rfl, rfl⟩ | ⟨c_99, rfl, rfl⟩
      · skip
        have hP : va_P G vwCl [(ob, .inr (10, [ob_0, .ref wo, .ref mi, .ref hm, .ref mt, .int 0, .ref fv, .int 0, .int 0, .int 0, .int 0, .int 0, .int 0, .int (-1), .ref fr, ob_15, ob_16, ob_17, ob_18, ob_19, ob_20, ob_21, ob_22, ob_23, ob_24, ob_25, ob_26, ob_27, ob_28, ob_29, ob_30, ob_31, ob_32, ob_33, ob_34, .ref cd, ob_36, .ref my, .ref wi, .ref nb, .ref mv])), (my, .inl (y 1, 4, .inl fy))] H := hP
        have hD : va_D A [(ob, .inr (10, [ob_0, .ref wo, .ref mi, .ref hm, .ref mt, .int 0, .ref fv, .int 0, .int 0, .int 0, .int 0, .int 0, .int 0, .int (-1), .ref fr, ob_15, ob_16, ob_17, ob_18, ob_19, ob_20, ob_21, ob_22, ob_23, ob_24, ob_25, ob_26, ob_27, ob_28, ob_29, ob_30, ob_31, ob_32, ob_33, ob_34, .ref cd, ob_36, .ref my, .ref wi, .ref nb, .ref mv])), (my, .inl (y 1, 4, .inl fy))] := hD
        refine lv_if_eq (tgt := 14) hx hb dX10_paste_4 (by decide) (fun c9 => absurd c9 (by decide)) (fun _ => ?_)
        refine lv_iload_n hx hb dX10_paste_7 rfl (lv_at hl 3 rfl) ?_
        refine cSi (As := [.int a3]) (rest := []) ⟨hx, hb, hml, hown, hw0⟩ hA hK hP hD hS [] [0, 1] [] [(ob, .inr (10, [ob_0, .ref wo, .ref mi, .ref hm, .ref mt, .int 0, .ref fv, .int 0, .int 0, .int 0, .int 0, .int 0, .int 0, .int (-1), .ref fr, ob_15, ob_16, ob_17, ob_18, ob_19, ob_20, ob_21, ob_22, ob_23, ob_24, ob_25, ob_26, ob_27, ob_28, ob_29, ob_30, ob_31, ob_32, ob_33, ob_34, .ref cd, ob_36, .ref my, .ref wi, .ref nb, .ref mv])), (my, .inl (y 1, 4, .inl fy))] rfl rfl (by decide) (by decide) (by decide) (kX10_isSlot l G y _ a3 ) ⟨(callB_of 1 hw0 (gA m_169) rfl rfl rfl (hw0 _ m_166) (hw0 _ m_378) (by decide +kernel) ⟨Nat.le_of_ble_eq_true rfl, Nat.le_of_ble_eq_true rfl⟩), (hw0 _ m_379)⟩ rfl hl.1 (Nat.le_of_ble_eq_true rfl) dX10_paste_8 ⟨Nat.le_of_ble_eq_true rfl, Nat.le_of_ble_eq_true rfl⟩ (fun r_100 w_100 H locs hw_100 hP hD hS => ?_)
        rcases hw_100 with ⟨c_101, rfl, rfl⟩ | ⟨c_102, rfl, rfl⟩
        · skip
          exfalso; omega
        · skip
          have hP : va_P G vwCl [(ob, .inr (10, [ob_0, .ref wo, .ref mi, .ref hm, .ref mt, .int 0, .ref fv, .int 0, .int 0, .int 0, .int 0, .int 0, .int 0, .int (-1), .ref fr, ob_15, ob_16, ob_17, ob_18, ob_19, ob_20, ob_21, ob_22, ob_23, ob_24, ob_25, ob_26, ob_27, ob_28, ob_29, ob_30, ob_31, ob_32, ob_33, ob_34, .ref cd, ob_36, .ref my, .ref wi, .ref nb, .ref mv])), (my, .inl (y 1, 4, .inl fy))] H := hP
          have hD : va_D A [(ob, .inr (10, [ob_0, .ref wo, .ref mi, .ref hm, .ref mt, .int 0, .ref fv, .int 0, .int 0, .int 0, .int 0, .int 0, .int 0, .int (-1), .ref fr, ob_15, ob_16, ob_17, ob_18, ob_19, ob_20, ob_21, ob_22, ob_23, ob_24, ob_25, ob_26, ob_27, ob_28, ob_29, ob_30, ob_31, ob_32, ob_33, ob_34, .ref cd, ob_36, .ref my, .ref wi, .ref nb, .ref mv])), (my, .inl (y 1, 4, .inl fy))] := hD
          refine lv_if_ne (tgt := 17) hx hb dX10_paste_11 (by decide) (fun c9 => absurd (by decide) c9) (fun _ => ?_)
          refine lv_bipush (v := (-2)) hx hb dX10_paste_14 (by decide) ?_
          refine W.widen (k := 0) (n := 0) (Nat.le_of_ble_eq_true rfl) (Nat.le_of_ble_eq_true rfl) ?_
          exact W.iret (v := (-2)) hx hb hr (fun t ht hW => ⟨⟨(-2), _, rfl, (by first | rfl | decide | (simp only [sp_paste]; (repeat' split) <;> first | rfl | (exfalso; omega))), by rw [ht]; exact hP, hD⟩, hS.F ht⟩) hS.2.2 dX10_paste_16
      · skip
        exact absurd c_99 (by decide)
  · have hl : lv_has ls 7 [(0, .ref ob), (1, .int 3), (2, .int a2), (3, .int a3), (4, .int a4), (5, .int a5)] := hl
    rcases sl_cases a3 with rfl | rfl | rfl | rfl | t_a3
    · have hl : lv_has ls 7 [(0, .ref ob), (1, .int 3), (2, .int a2), (3, .int 0), (4, .int a4), (5, .int a5)] := hl
      refine lv_iload_n hx hb dX10_paste_0 rfl (lv_at hl 1 rfl) ?_
      refine cSi (As := [.int 3]) (rest := []) ⟨hx, hb, hml, hown, hw0⟩ hA hK hP hD hS [] [0, 1] [] [(ob, .inr (10, [ob_0, .ref wo, .ref mi, .ref hm, .ref mt, .int 0, .ref fv, .int 0, .int 0, .int 0, .int 0, .int 0, .int 0, .int (-1), .ref fr, ob_15, ob_16, ob_17, ob_18, ob_19, ob_20, ob_21, ob_22, ob_23, ob_24, ob_25, ob_26, ob_27, ob_28, ob_29, ob_30, ob_31, ob_32, ob_33, ob_34, .ref cd, ob_36, .ref my, .ref wi, .ref nb, .ref mv])), (my, .inl (y 1, 4, .inl fy))] rfl rfl (by decide) (by decide) (by decide) (kX10_isSlot l G y _ 3 ) ⟨(callB_of 1 hw0 (gA m_169) rfl rfl rfl (hw0 _ m_166) (hw0 _ m_378) (by decide +kernel) ⟨Nat.le_of_ble_eq_true rfl, Nat.le_of_ble_eq_true rfl⟩), (hw0 _ m_379)⟩ rfl hl.1 (Nat.le_of_ble_eq_true rfl) dX10_paste_1 ⟨Nat.le_of_ble_eq_true rfl, Nat.le_of_ble_eq_true rfl⟩ (fun r_103 w_103 H locs hw_103 hP hD hS => ?_)
      rcases hw_103 with ⟨c_104, rfl, rfl⟩ | ⟨c_105, rfl, rfl⟩
      · skip
        have hP : va_P G vwCl [(ob, .inr (10, [ob_0, .ref wo, .ref mi, .ref hm, .ref mt, .int 0, .ref fv, .int 0, .int 0, .int 0, .int 0, .int 0, .int 0, .int (-1), .ref fr, ob_15, ob_16, ob_17, ob_18, ob_19, ob_20, ob_21, ob_22, ob_23, ob_24, ob_25, ob_26, ob_27, ob_28, ob_29, ob_30, ob_31, ob_32, ob_33, ob_34, .ref cd, ob_36, .ref my, .ref wi, .ref nb, .ref mv])), (my, .inl (y 1, 4, .inl fy))] H := hP
        have hD : va_D A [(ob, .inr (10, [ob_0, .ref wo, .ref mi, .ref hm, .ref mt, .int 0, .ref fv, .int 0, .int 0, .int 0, .int 0, .int 0, .int 0, .int (-1), .ref fr, ob_15, ob_16, ob_17, ob_18, ob_19, ob_20, ob_21, ob_22, ob_23, ob_24, ob_25, ob_26, ob_27, ob_28, ob_29, ob_30, ob_31, ob_32, ob_33, ob_34, .ref cd, ob_36, .ref my, .ref wi, .ref nb, .ref mv])), (my, .inl (y 1, 4, .inl fy))] := hD
        refine lv_if_eq (tgt := 14) hx hb dX10_paste_4 (by decide) (fun c9 => absurd c9 (by decide)) (fun _ => ?_)
        refine lv_iload_n hx hb dX10_paste_7 rfl (lv_at hl 3 rfl) ?_
        refine cSi (As := [.int 0]) (rest := []) ⟨hx, hb, hml, hown, hw0⟩ hA hK hP hD hS [] [0, 1] [] [(ob, .inr (10, [ob_0, .ref wo, .ref mi, .ref hm, .ref mt, .int 0, .ref fv, .int 0, .int 0, .int 0, .int 0, .int 0, .int 0, .int (-1), .ref fr, ob_15, ob_16, ob_17, ob_18, ob_19, ob_20, ob_21, ob_22, ob_23, ob_24, ob_25, ob_26, ob_27, ob_28, ob_29, ob_30, ob_31, ob_32, ob_33, ob_34, .ref cd, ob_36, .ref my, .ref wi, .ref nb, .ref mv])), (my, .inl (y 1, 4, .inl fy))] rfl rfl (by decide) (by decide) (by decide) (kX10_isSlot l G y _ 0 ) ⟨(callB_of 1 hw0 (gA m_169) rfl rfl rfl (hw0 _ m_166) (hw0 _ m_378) (by decide +kernel) ⟨Nat.le_of_ble_eq_true rfl, Nat.le_of_ble_eq_true rfl⟩), (hw0 _ m_379)⟩ rfl hl.1 (Nat.le_of_ble_eq_true rfl) dX10_paste_8 ⟨Nat.le_of_ble_eq_true rfl, Nat.le_of_ble_eq_true rfl⟩ (fun r_106 w_106 H locs hw_106 hP hD hS => ?_)
        rcases hw_106 with ⟨c_107, rfl, rfl⟩ | ⟨c_108, rfl, rfl⟩
        · skip
          have hP : va_P G vwCl [(ob, .inr (10, [ob_0, .ref wo, .ref mi, .ref hm, .ref mt, .int 0, .ref fv, .int 0, .int 0, .int 0, .int 0, .int 0, .int 0, .int (-1), .ref fr, ob_15, ob_16, ob_17, ob_18, ob_19, ob_20, ob_21, ob_22, ob_23, ob_24, ob_25, ob_26, ob_27, ob_28, ob_29, ob_30, ob_31, ob_32, ob_33, ob_34, .ref cd, ob_36, .ref my, .ref wi, .ref nb, .ref mv])), (my, .inl (y 1, 4, .inl fy))] H := hP
          have hD : va_D A [(ob, .inr (10, [ob_0, .ref wo, .ref mi, .ref hm, .ref mt, .int 0, .ref fv, .int 0, .int 0, .int 0, .int 0, .int 0, .int 0, .int (-1), .ref fr, ob_15, ob_16, ob_17, ob_18, ob_19, ob_20, ob_21, ob_22, ob_23, ob_24, ob_25, ob_26, ob_27, ob_28, ob_29, ob_30, ob_31, ob_32, ob_33, ob_34, .ref cd, ob_36, .ref my, .ref wi, .ref nb, .ref mv])), (my, .inl (y 1, 4, .inl fy))] := hD
          refine lv_if_ne (tgt := 17) hx hb dX10_paste_11 (by decide) (fun _ => ?_) (fun c9 => absurd c9 (by decide))
          refine lv_aload_n hx hb dX10_paste_17 rfl (lv_at hl 0 rfl) ?_
          refine va_get (D := G) (ci := 10) (v := .ref my) (C := RX10) (T := TX10) (N := 41) hx hb hw0 inA_wsX100 hown hK.1 hP 0 rfl rfl 37 (by decide) (hw0 _ m_157) (fun _ h9 => h9) rfl dX10_paste_18 ?_
          refine lv_iload_n hx hb dX10_paste_21 rfl (lv_at hl 1 rfl) ?_
          refine va_iald hx hb hK.1 hP 1 1 rfl rfl (vp_in_nI (n := 3) (N := 4) (by decide) (by decide)) dX10_paste_22 ?_
          refine lv_topi (fun v_109 ev_109 => ?_)
          obtain rfl : (-1) = v_109 := (ev_109.trans (y3)).symm
          refine lv_iconst (v := (-1)) hx hb dX10_paste_23 (by decide) ?_
          refine lv_icmp_eq (tgt := 37) hx hb dX10_paste_24 (by decide) (fun _ => ?_) (fun c9 => absurd (by decide) c9)
          refine lv_bipush (v := (-6)) hx hb dX10_paste_37 (by decide) ?_
          refine W.widen (k := 0) (n := 0) (Nat.le_of_ble_eq_true rfl) (Nat.le_of_ble_eq_true rfl) ?_
          exact W.iret (v := (-6)) hx hb hr (fun t ht hW => ⟨⟨(-6), _, rfl, (by first | rfl | decide | (simp only [sp_paste]; (repeat' split) <;> first | rfl | (exfalso; omega))), by rw [ht]; exact hP, hD⟩, hS.F ht⟩) hS.2.2 dX10_paste_39
        · skip
          exact absurd c_108 (by decide)
      · skip
        exact absurd c_105 (by decide)
    · have hl : lv_has ls 7 [(0, .ref ob), (1, .int 3), (2, .int a2), (3, .int 1), (4, .int a4), (5, .int a5)] := hl
      refine lv_iload_n hx hb dX10_paste_0 rfl (lv_at hl 1 rfl) ?_
      refine cSi (As := [.int 3]) (rest := []) ⟨hx, hb, hml, hown, hw0⟩ hA hK hP hD hS [] [0, 1] [] [(ob, .inr (10, [ob_0, .ref wo, .ref mi, .ref hm, .ref mt, .int 0, .ref fv, .int 0, .int 0, .int 0, .int 0, .int 0, .int 0, .int (-1), .ref fr, ob_15, ob_16, ob_17, ob_18, ob_19, ob_20, ob_21, ob_22, ob_23, ob_24, ob_25, ob_26, ob_27, ob_28, ob_29, ob_30, ob_31, ob_32, ob_33, ob_34, .ref cd, ob_36, .ref my, .ref wi, .ref nb, .ref mv])), (my, .inl (y 1, 4, .inl fy))] rfl rfl (by decide) (by decide) (by decide) (kX10_isSlot l G y _ 3 ) ⟨(callB_of 1 hw0 (gA m_169) rfl rfl rfl (hw0 _ m_166) (hw0 _ m_378) (by decide +kernel) ⟨Nat.le_of_ble_eq_true rfl, Nat.le_of_ble_eq_true rfl⟩), (hw0 _ m_379)⟩ rfl hl.1 (Nat.le_of_ble_eq_true rfl) dX10_paste_1 ⟨Nat.le_of_ble_eq_true rfl, Nat.le_of_ble_eq_true rfl⟩ (fun r_110 w_110 H locs hw_110 hP hD hS => ?_)
      rcases hw_110 with ⟨c_111, rfl, rfl⟩ | ⟨c_112, rfl, rfl⟩
      · skip
        have hP : va_P G vwCl [(ob, .inr (10, [ob_0, .ref wo, .ref mi, .ref hm, .ref mt, .int 0, .ref fv, .int 0, .int 0, .int 0, .int 0, .int 0, .int 0, .int (-1), .ref fr, ob_15, ob_16, ob_17, ob_18, ob_19, ob_20, ob_21, ob_22, ob_23, ob_24, ob_25, ob_26, ob_27, ob_28, ob_29, ob_30, ob_31, ob_32, ob_33, ob_34, .ref cd, ob_36, .ref my, .ref wi, .ref nb, .ref mv])), (my, .inl (y 1, 4, .inl fy))] H := hP
        have hD : va_D A [(ob, .inr (10, [ob_0, .ref wo, .ref mi, .ref hm, .ref mt, .int 0, .ref fv, .int 0, .int 0, .int 0, .int 0, .int 0, .int 0, .int (-1), .ref fr, ob_15, ob_16, ob_17, ob_18, ob_19, ob_20, ob_21, ob_22, ob_23, ob_24, ob_25, ob_26, ob_27, ob_28, ob_29, ob_30, ob_31, ob_32, ob_33, ob_34, .ref cd, ob_36, .ref my, .ref wi, .ref nb, .ref mv])), (my, .inl (y 1, 4, .inl fy))] := hD
        refine lv_if_eq (tgt := 14) hx hb dX10_paste_4 (by decide) (fun c9 => absurd c9 (by decide)) (fun _ => ?_)
        refine lv_iload_n hx hb dX10_paste_7 rfl (lv_at hl 3 rfl) ?_
        refine cSi (As := [.int 1]) (rest := []) ⟨hx, hb, hml, hown, hw0⟩ hA hK hP hD hS [] [0, 1] [] [(ob, .inr (10, [ob_0, .ref wo, .ref mi, .ref hm, .ref mt, .int 0, .ref fv, .int 0, .int 0, .int 0, .int 0, .int 0, .int 0, .int (-1), .ref fr, ob_15, ob_16, ob_17, ob_18, ob_19, ob_20, ob_21, ob_22, ob_23, ob_24, ob_25, ob_26, ob_27, ob_28, ob_29, ob_30, ob_31, ob_32, ob_33, ob_34, .ref cd, ob_36, .ref my, .ref wi, .ref nb, .ref mv])), (my, .inl (y 1, 4, .inl fy))] rfl rfl (by decide) (by decide) (by decide) (kX10_isSlot l G y _ 1 ) ⟨(callB_of 1 hw0 (gA m_169) rfl rfl rfl (hw0 _ m_166) (hw0 _ m_378) (by decide +kernel) ⟨Nat.le_of_ble_eq_true rfl, Nat.le_of_ble_eq_true rfl⟩), (hw0 _ m_379)⟩ rfl hl.1 (Nat.le_of_ble_eq_true rfl) dX10_paste_8 ⟨Nat.le_of_ble_eq_true rfl, Nat.le_of_ble_eq_true rfl⟩ (fun r_113 w_113 H locs hw_113 hP hD hS => ?_)
        rcases hw_113 with ⟨c_114, rfl, rfl⟩ | ⟨c_115, rfl, rfl⟩
        · skip
          have hP : va_P G vwCl [(ob, .inr (10, [ob_0, .ref wo, .ref mi, .ref hm, .ref mt, .int 0, .ref fv, .int 0, .int 0, .int 0, .int 0, .int 0, .int 0, .int (-1), .ref fr, ob_15, ob_16, ob_17, ob_18, ob_19, ob_20, ob_21, ob_22, ob_23, ob_24, ob_25, ob_26, ob_27, ob_28, ob_29, ob_30, ob_31, ob_32, ob_33, ob_34, .ref cd, ob_36, .ref my, .ref wi, .ref nb, .ref mv])), (my, .inl (y 1, 4, .inl fy))] H := hP
          have hD : va_D A [(ob, .inr (10, [ob_0, .ref wo, .ref mi, .ref hm, .ref mt, .int 0, .ref fv, .int 0, .int 0, .int 0, .int 0, .int 0, .int 0, .int (-1), .ref fr, ob_15, ob_16, ob_17, ob_18, ob_19, ob_20, ob_21, ob_22, ob_23, ob_24, ob_25, ob_26, ob_27, ob_28, ob_29, ob_30, ob_31, ob_32, ob_33, ob_34, .ref cd, ob_36, .ref my, .ref wi, .ref nb, .ref mv])), (my, .inl (y 1, 4, .inl fy))] := hD
          refine lv_if_ne (tgt := 17) hx hb dX10_paste_11 (by decide) (fun _ => ?_) (fun c9 => absurd c9 (by decide))
          refine lv_aload_n hx hb dX10_paste_17 rfl (lv_at hl 0 rfl) ?_
          refine va_get (D := G) (ci := 10) (v := .ref my) (C := RX10) (T := TX10) (N := 41) hx hb hw0 inA_wsX100 hown hK.1 hP 0 rfl rfl 37 (by decide) (hw0 _ m_157) (fun _ h9 => h9) rfl dX10_paste_18 ?_
          refine lv_iload_n hx hb dX10_paste_21 rfl (lv_at hl 1 rfl) ?_
          refine va_iald hx hb hK.1 hP 1 1 rfl rfl (vp_in_nI (n := 3) (N := 4) (by decide) (by decide)) dX10_paste_22 ?_
          refine lv_topi (fun v_116 ev_116 => ?_)
          obtain rfl : (-1) = v_116 := (ev_116.trans (y3)).symm
          refine lv_iconst (v := (-1)) hx hb dX10_paste_23 (by decide) ?_
          refine lv_icmp_eq (tgt := 37) hx hb dX10_paste_24 (by decide) (fun _ => ?_) (fun c9 => absurd (by decide) c9)
          refine lv_bipush (v := (-6)) hx hb dX10_paste_37 (by decide) ?_
          refine W.widen (k := 0) (n := 0) (Nat.le_of_ble_eq_true rfl) (Nat.le_of_ble_eq_true rfl) ?_
          exact W.iret (v := (-6)) hx hb hr (fun t ht hW => ⟨⟨(-6), _, rfl, (by first | rfl | decide | (simp only [sp_paste]; (repeat' split) <;> first | rfl | (exfalso; omega))), by rw [ht]; exact hP, hD⟩, hS.F ht⟩) hS.2.2 dX10_paste_39
        · skip
          exact absurd c_115 (by decide)
      · skip
        exact absurd c_112 (by decide)
    · have hl : lv_has ls 7 [(0, .ref ob), (1, .int 3), (2, .int a2), (3, .int 2), (4, .int a4), (5, .int a5)] := hl
      refine lv_iload_n hx hb dX10_paste_0 rfl (lv_at hl 1 rfl) ?_
      refine cSi (As := [.int 3]) (rest := []) ⟨hx, hb, hml, hown, hw0⟩ hA hK hP hD hS [] [0, 1] [] [(ob, .inr (10, [ob_0, .ref wo, .ref mi, .ref hm, .ref mt, .int 0, .ref fv, .int 0, .int 0, .int 0, .int 0, .int 0, .int 0, .int (-1), .ref fr, ob_15, ob_16, ob_17, ob_18, ob_19, ob_20, ob_21, ob_22, ob_23, ob_24, ob_25, ob_26, ob_27, ob_28, ob_29, ob_30, ob_31, ob_32, ob_33, ob_34, .ref cd, ob_36, .ref my, .ref wi, .ref nb, .ref mv])), (my, .inl (y 1, 4, .inl fy))] rfl rfl (by decide) (by decide) (by decide) (kX10_isSlot l G y _ 3 ) ⟨(callB_of 1 hw0 (gA m_169) rfl rfl rfl (hw0 _ m_166) (hw0 _ m_378) (by decide +kernel) ⟨Nat.le_of_ble_eq_true rfl, Nat.le_of_ble_eq_true rfl⟩), (hw0 _ m_379)⟩ rfl hl.1 (Nat.le_of_ble_eq_true rfl) dX10_paste_1 ⟨Nat.le_of_ble_eq_true rfl, Nat.le_of_ble_eq_true rfl⟩ (fun r_117 w_117 H locs hw_117 hP hD hS => ?_)
      rcases hw_117 with ⟨c_118, rfl, rfl⟩ | ⟨c_119, rfl, rfl⟩
      · skip
        have hP : va_P G vwCl [(ob, .inr (10, [ob_0, .ref wo, .ref mi, .ref hm, .ref mt, .int 0, .ref fv, .int 0, .int 0, .int 0, .int 0, .int 0, .int 0, .int (-1), .ref fr, ob_15, ob_16, ob_17, ob_18, ob_19, ob_20, ob_21, ob_22, ob_23, ob_24, ob_25, ob_26, ob_27, ob_28, ob_29, ob_30, ob_31, ob_32, ob_33, ob_34, .ref cd, ob_36, .ref my, .ref wi, .ref nb, .ref mv])), (my, .inl (y 1, 4, .inl fy))] H := hP
        have hD : va_D A [(ob, .inr (10, [ob_0, .ref wo, .ref mi, .ref hm, .ref mt, .int 0, .ref fv, .int 0, .int 0, .int 0, .int 0, .int 0, .int 0, .int (-1), .ref fr, ob_15, ob_16, ob_17, ob_18, ob_19, ob_20, ob_21, ob_22, ob_23, ob_24, ob_25, ob_26, ob_27, ob_28, ob_29, ob_30, ob_31, ob_32, ob_33, ob_34, .ref cd, ob_36, .ref my, .ref wi, .ref nb, .ref mv])), (my, .inl (y 1, 4, .inl fy))] := hD
        refine lv_if_eq (tgt := 14) hx hb dX10_paste_4 (by decide) (fun c9 => absurd c9 (by decide)) (fun _ => ?_)
        refine lv_iload_n hx hb dX10_paste_7 rfl (lv_at hl 3 rfl) ?_
        refine cSi (As := [.int 2]) (rest := []) ⟨hx, hb, hml, hown, hw0⟩ hA hK hP hD hS [] [0, 1] [] [(ob, .inr (10, [ob_0, .ref wo, .ref mi, .ref hm, .ref mt, .int 0, .ref fv, .int 0, .int 0, .int 0, .int 0, .int 0, .int 0, .int (-1), .ref fr, ob_15, ob_16, ob_17, ob_18, ob_19, ob_20, ob_21, ob_22, ob_23, ob_24, ob_25, ob_26, ob_27, ob_28, ob_29, ob_30, ob_31, ob_32, ob_33, ob_34, .ref cd, ob_36, .ref my, .ref wi, .ref nb, .ref mv])), (my, .inl (y 1, 4, .inl fy))] rfl rfl (by decide) (by decide) (by decide) (kX10_isSlot l G y _ 2 ) ⟨(callB_of 1 hw0 (gA m_169) rfl rfl rfl (hw0 _ m_166) (hw0 _ m_378) (by decide +kernel) ⟨Nat.le_of_ble_eq_true rfl, Nat.le_of_ble_eq_true rfl⟩), (hw0 _ m_379)⟩ rfl hl.1 (Nat.le_of_ble_eq_true rfl) dX10_paste_8 ⟨Nat.le_of_ble_eq_true rfl, Nat.le_of_ble_eq_true rfl⟩ (fun r_120 w_120 H locs hw_120 hP hD hS => ?_)
        rcases hw_120 with ⟨c_121, rfl, rfl⟩ | ⟨c_122, rfl, rfl⟩
        · skip
          have hP : va_P G vwCl [(ob, .inr (10, [ob_0, .ref wo, .ref mi, .ref hm, .ref mt, .int 0, .ref fv, .int 0, .int 0, .int 0, .int 0, .int 0, .int 0, .int (-1), .ref fr, ob_15, ob_16, ob_17, ob_18, ob_19, ob_20, ob_21, ob_22, ob_23, ob_24, ob_25, ob_26, ob_27, ob_28, ob_29, ob_30, ob_31, ob_32, ob_33, ob_34, .ref cd, ob_36, .ref my, .ref wi, .ref nb, .ref mv])), (my, .inl (y 1, 4, .inl fy))] H := hP
          have hD : va_D A [(ob, .inr (10, [ob_0, .ref wo, .ref mi, .ref hm, .ref mt, .int 0, .ref fv, .int 0, .int 0, .int 0, .int 0, .int 0, .int 0, .int (-1), .ref fr, ob_15, ob_16, ob_17, ob_18, ob_19, ob_20, ob_21, ob_22, ob_23, ob_24, ob_25, ob_26, ob_27, ob_28, ob_29, ob_30, ob_31, ob_32, ob_33, ob_34, .ref cd, ob_36, .ref my, .ref wi, .ref nb, .ref mv])), (my, .inl (y 1, 4, .inl fy))] := hD
          refine lv_if_ne (tgt := 17) hx hb dX10_paste_11 (by decide) (fun _ => ?_) (fun c9 => absurd c9 (by decide))
          refine lv_aload_n hx hb dX10_paste_17 rfl (lv_at hl 0 rfl) ?_
          refine va_get (D := G) (ci := 10) (v := .ref my) (C := RX10) (T := TX10) (N := 41) hx hb hw0 inA_wsX100 hown hK.1 hP 0 rfl rfl 37 (by decide) (hw0 _ m_157) (fun _ h9 => h9) rfl dX10_paste_18 ?_
          refine lv_iload_n hx hb dX10_paste_21 rfl (lv_at hl 1 rfl) ?_
          refine va_iald hx hb hK.1 hP 1 1 rfl rfl (vp_in_nI (n := 3) (N := 4) (by decide) (by decide)) dX10_paste_22 ?_
          refine lv_topi (fun v_123 ev_123 => ?_)
          obtain rfl : (-1) = v_123 := (ev_123.trans (y3)).symm
          refine lv_iconst (v := (-1)) hx hb dX10_paste_23 (by decide) ?_
          refine lv_icmp_eq (tgt := 37) hx hb dX10_paste_24 (by decide) (fun _ => ?_) (fun c9 => absurd (by decide) c9)
          refine lv_bipush (v := (-6)) hx hb dX10_paste_37 (by decide) ?_
          refine W.widen (k := 0) (n := 0) (Nat.le_of_ble_eq_true rfl) (Nat.le_of_ble_eq_true rfl) ?_
          exact W.iret (v := (-6)) hx hb hr (fun t ht hW => ⟨⟨(-6), _, rfl, (by first | rfl | decide | (simp only [sp_paste]; (repeat' split) <;> first | rfl | (exfalso; omega))), by rw [ht]; exact hP, hD⟩, hS.F ht⟩) hS.2.2 dX10_paste_39
        · skip
          exact absurd c_122 (by decide)
      · skip
        exact absurd c_119 (by decide)
    · have hl : lv_has ls 7 [(0, .ref ob), (1, .int 3), (2, .int a2), (3, .int 3), (4, .int a4), (5, .int a5)] := hl
      refine lv_iload_n hx hb dX10_paste_0 rfl (lv_at hl 1 rfl) ?_
      refine cSi (As := [.int 3]) (rest := []) ⟨hx, hb, hml, hown, hw0⟩ hA hK hP hD hS [] [0, 1] [] [(ob, .inr (10, [ob_0, .ref wo, .ref mi, .ref hm, .ref mt, .int 0, .ref fv, .int 0, .int 0, .int 0, .int 0, .int 0, .int 0, .int (-1), .ref fr, ob_15, ob_16, ob_17, ob_18, ob_19, ob_20, ob_21, ob_22, ob_23, ob_24, ob_25, ob_26, ob_27, ob_28, ob_29, ob_30, ob_31, ob_32, ob_33, ob_34, .ref cd, ob_36, .ref my, .ref wi, .ref nb, .ref mv])), (my, .inl (y 1, 4, .inl fy))] rfl rfl (by decide) (by decide) (by decide) (kX10_isSlot l G y _ 3 ) ⟨(callB_of 1 hw0 (gA m_169) rfl rfl rfl (hw0 _ m_166) (hw0 _ m_378) (by decide +kernel) ⟨Nat.le_of_ble_eq_true rfl, Nat.le_of_ble_eq_true rfl⟩), (hw0 _ m_379)⟩ rfl hl.1 (Nat.le_of_ble_eq_true rfl) dX10_paste_1 ⟨Nat.le_of_ble_eq_true rfl, Nat.le_of_ble_eq_true rfl⟩ (fun r_124 w_124 H locs hw_124 hP hD hS => ?_)
      rcases hw_124 with ⟨c_125, rfl, rfl⟩ | ⟨c_126, rfl, rfl⟩
      · skip
        have hP : va_P G vwCl [(ob, .inr (10, [ob_0, .ref wo, .ref mi, .ref hm, .ref mt, .int 0, .ref fv, .int 0, .int 0, .int 0, .int 0, .int 0, .int 0, .int (-1), .ref fr, ob_15, ob_16, ob_17, ob_18, ob_19, ob_20, ob_21, ob_22, ob_23, ob_24, ob_25, ob_26, ob_27, ob_28, ob_29, ob_30, ob_31, ob_32, ob_33, ob_34, .ref cd, ob_36, .ref my, .ref wi, .ref nb, .ref mv])), (my, .inl (y 1, 4, .inl fy))] H := hP
        have hD : va_D A [(ob, .inr (10, [ob_0, .ref wo, .ref mi, .ref hm, .ref mt, .int 0, .ref fv, .int 0, .int 0, .int 0, .int 0, .int 0, .int 0, .int (-1), .ref fr, ob_15, ob_16, ob_17, ob_18, ob_19, ob_20, ob_21, ob_22, ob_23, ob_24, ob_25, ob_26, ob_27, ob_28, ob_29, ob_30, ob_31, ob_32, ob_33, ob_34, .ref cd, ob_36, .ref my, .ref wi, .ref nb, .ref mv])), (my, .inl (y 1, 4, .inl fy))] := hD
        refine lv_if_eq (tgt := 14) hx hb dX10_paste_4 (by decide) (fun c9 => absurd c9 (by decide)) (fun _ => ?_)
        refine lv_iload_n hx hb dX10_paste_7 rfl (lv_at hl 3 rfl) ?_
        refine cSi (As := [.int 3]) (rest := []) ⟨hx, hb, hml, hown, hw0⟩ hA hK hP hD hS [] [0, 1] [] [(ob, .inr (10, [ob_0, .ref wo, .ref mi, .ref hm, .ref mt, .int 0, .ref fv, .int 0, .int 0, .int 0, .int 0, .int 0, .int 0, .int (-1), .ref fr, ob_15, ob_16, ob_17, ob_18, ob_19, ob_20, ob_21, ob_22, ob_23, ob_24, ob_25, ob_26, ob_27, ob_28, ob_29, ob_30, ob_31, ob_32, ob_33, ob_34, .ref cd, ob_36, .ref my, .ref wi, .ref nb, .ref mv])), (my, .inl (y 1, 4, .inl fy))] rfl rfl (by decide) (by decide) (by decide) (kX10_isSlot l G y _ 3 ) ⟨(callB_of 1 hw0 (gA m_169) rfl rfl rfl (hw0 _ m_166) (hw0 _ m_378) (by decide +kernel) ⟨Nat.le_of_ble_eq_true rfl, Nat.le_of_ble_eq_true rfl⟩), (hw0 _ m_379)⟩ rfl hl.1 (Nat.le_of_ble_eq_true rfl) dX10_paste_8 ⟨Nat.le_of_ble_eq_true rfl, Nat.le_of_ble_eq_true rfl⟩ (fun r_127 w_127 H locs hw_127 hP hD hS => ?_)
        rcases hw_127 with ⟨c_128, rfl, rfl⟩ | ⟨c_129, rfl, rfl⟩
        · skip
          have hP : va_P G vwCl [(ob, .inr (10, [ob_0, .ref wo, .ref mi, .ref hm, .ref mt, .int 0, .ref fv, .int 0, .int 0, .int 0, .int 0, .int 0, .int 0, .int (-1), .ref fr, ob_15, ob_16, ob_17, ob_18, ob_19, ob_20, ob_21, ob_22, ob_23, ob_24, ob_25, ob_26, ob_27, ob_28, ob_29, ob_30, ob_31, ob_32, ob_33, ob_34, .ref cd, ob_36, .ref my, .ref wi, .ref nb, .ref mv])), (my, .inl (y 1, 4, .inl fy))] H := hP
          have hD : va_D A [(ob, .inr (10, [ob_0, .ref wo, .ref mi, .ref hm, .ref mt, .int 0, .ref fv, .int 0, .int 0, .int 0, .int 0, .int 0, .int 0, .int (-1), .ref fr, ob_15, ob_16, ob_17, ob_18, ob_19, ob_20, ob_21, ob_22, ob_23, ob_24, ob_25, ob_26, ob_27, ob_28, ob_29, ob_30, ob_31, ob_32, ob_33, ob_34, .ref cd, ob_36, .ref my, .ref wi, .ref nb, .ref mv])), (my, .inl (y 1, 4, .inl fy))] := hD
          refine lv_if_ne (tgt := 17) hx hb dX10_paste_11 (by decide) (fun _ => ?_) (fun c9 => absurd c9 (by decide))
          refine lv_aload_n hx hb dX10_paste_17 rfl (lv_at hl 0 rfl) ?_
          refine va_get (D := G) (ci := 10) (v := .ref my) (C := RX10) (T := TX10) (N := 41) hx hb hw0 inA_wsX100 hown hK.1 hP 0 rfl rfl 37 (by decide) (hw0 _ m_157) (fun _ h9 => h9) rfl dX10_paste_18 ?_
          refine lv_iload_n hx hb dX10_paste_21 rfl (lv_at hl 1 rfl) ?_
          refine va_iald hx hb hK.1 hP 1 1 rfl rfl (vp_in_nI (n := 3) (N := 4) (by decide) (by decide)) dX10_paste_22 ?_
          refine lv_topi (fun v_130 ev_130 => ?_)
          obtain rfl : (-1) = v_130 := (ev_130.trans (y3)).symm
          refine lv_iconst (v := (-1)) hx hb dX10_paste_23 (by decide) ?_
          refine lv_icmp_eq (tgt := 37) hx hb dX10_paste_24 (by decide) (fun _ => ?_) (fun c9 => absurd (by decide) c9)
          refine lv_bipush (v := (-6)) hx hb dX10_paste_37 (by decide) ?_
          refine W.widen (k := 0) (n := 0) (Nat.le_of_ble_eq_true rfl) (Nat.le_of_ble_eq_true rfl) ?_
          exact W.iret (v := (-6)) hx hb hr (fun t ht hW => ⟨⟨(-6), _, rfl, (by first | rfl | decide | (simp only [sp_paste]; (repeat' split) <;> first | rfl | (exfalso; omega))), by rw [ht]; exact hP, hD⟩, hS.F ht⟩) hS.2.2 dX10_paste_39
        · skip
          exact absurd c_129 (by decide)
      · skip
        exact absurd c_126 (by decide)
    · have hl : lv_has ls 7 [(0, .ref ob), (1, .int 3), (2, .int a2), (3, .int a3), (4, .int a4), (5, .int a5)] := hl
      refine lv_iload_n hx hb dX10_paste_0 rfl (lv_at hl 1 rfl) ?_
      refine cSi (As := [.int 3]) (rest := []) ⟨hx, hb, hml, hown, hw0⟩ hA hK hP hD hS [] [0, 1] [] [(ob, .inr (10, [ob_0, .ref wo, .ref mi, .ref hm, .ref mt, .int 0, .ref fv, .int 0, .int 0, .int 0, .int 0, .int 0, .int 0, .int (-1), .ref fr, ob_15, ob_16, ob_17, ob_18, ob_19, ob_20, ob_21, ob_22, ob_23, ob_24, ob_25, ob_26, ob_27, ob_28, ob_29, ob_30, ob_31, ob_32, ob_33, ob_34, .ref cd, ob_36, .ref my, .ref wi, .ref nb, .ref mv])), (my, .inl (y 1, 4, .inl fy))] rfl rfl (by decide) (by decide) (by decide) (kX10_isSlot l G y _ 3 ) ⟨(callB_of 1 hw0 (gA m_169) rfl rfl rfl (hw0 _ m_166) (hw0 _ m_378) (by decide +kernel) ⟨Nat.le_of_ble_eq_true rfl, Nat.le_of_ble_eq_true rfl⟩), (hw0 _ m_379)⟩ rfl hl.1 (Nat.le_of_ble_eq_true rfl) dX10_paste_1 ⟨Nat.le_of_ble_eq_true rfl, Nat.le_of_ble_eq_true rfl⟩ (fun r_131 w_131 H locs hw_131 hP hD hS => ?_)
      rcases hw_131 with ⟨c_132, rfl, rfl⟩ | ⟨c_133, rfl, rfl⟩
      · skip
        have hP : va_P G vwCl [(ob, .inr (10, [ob_0, .ref wo, .ref mi, .ref hm, .ref mt, .int 0, .ref fv, .int 0, .int 0, .int 0, .int 0, .int 0, .int 0, .int (-1), .ref fr, ob_15, ob_16, ob_17, ob_18, ob_19, ob_20, ob_21, ob_22, ob_23, ob_24, ob_25, ob_26, ob_27, ob_28, ob_29, ob_30, ob_31, ob_32, ob_33, ob_34, .ref cd, ob_36, .ref my, .ref wi, .ref nb, .ref mv])), (my, .inl (y 1, 4, .inl fy))] H := hP
        have hD : va_D A [(ob, .inr (10, [ob_0, .ref wo, .ref mi, .ref hm, .ref mt, .int 0, .ref fv, .int 0, .int 0, .int 0, .int 0, .int 0, .int 0, .int (-1), .ref fr, ob_15, ob_16, ob_17, ob_18, ob_19, ob_20, ob_21, ob_22, ob_23, ob_24, ob_25, ob_26, ob_27, ob_28, ob_29, ob_30, ob_31, ob_32, ob_33, ob_34, .ref cd, ob_36, .ref my, .ref wi, .ref nb, .ref mv])), (my, .inl (y 1, 4, .inl fy))] := hD
        refine lv_if_eq (tgt := 14) hx hb dX10_paste_4 (by decide) (fun c9 => absurd c9 (by decide)) (fun _ => ?_)
        refine lv_iload_n hx hb dX10_paste_7 rfl (lv_at hl 3 rfl) ?_
        refine cSi (As := [.int a3]) (rest := []) ⟨hx, hb, hml, hown, hw0⟩ hA hK hP hD hS [] [0, 1] [] [(ob, .inr (10, [ob_0, .ref wo, .ref mi, .ref hm, .ref mt, .int 0, .ref fv, .int 0, .int 0, .int 0, .int 0, .int 0, .int 0, .int (-1), .ref fr, ob_15, ob_16, ob_17, ob_18, ob_19, ob_20, ob_21, ob_22, ob_23, ob_24, ob_25, ob_26, ob_27, ob_28, ob_29, ob_30, ob_31, ob_32, ob_33, ob_34, .ref cd, ob_36, .ref my, .ref wi, .ref nb, .ref mv])), (my, .inl (y 1, 4, .inl fy))] rfl rfl (by decide) (by decide) (by decide) (kX10_isSlot l G y _ a3 ) ⟨(callB_of 1 hw0 (gA m_169) rfl rfl rfl (hw0 _ m_166) (hw0 _ m_378) (by decide +kernel) ⟨Nat.le_of_ble_eq_true rfl, Nat.le_of_ble_eq_true rfl⟩), (hw0 _ m_379)⟩ rfl hl.1 (Nat.le_of_ble_eq_true rfl) dX10_paste_8 ⟨Nat.le_of_ble_eq_true rfl, Nat.le_of_ble_eq_true rfl⟩ (fun r_134 w_134 H locs hw_134 hP hD hS => ?_)
        rcases hw_134 with ⟨c_135, rfl, rfl⟩ | ⟨c_136, rfl, rfl⟩
        · skip
          exfalso; omega
        · skip
          have hP : va_P G vwCl [(ob, .inr (10, [ob_0, .ref wo, .ref mi, .ref hm, .ref mt, .int 0, .ref fv, .int 0, .int 0, .int 0, .int 0, .int 0, .int 0, .int (-1), .ref fr, ob_15, ob_16, ob_17, ob_18, ob_19, ob_20, ob_21, ob_22, ob_23, ob_24, ob_25, ob_26, ob_27, ob_28, ob_29, ob_30, ob_31, ob_32, ob_33, ob_34, .ref cd, ob_36, .ref my, .ref wi, .ref nb, .ref mv])), (my, .inl (y 1, 4, .inl fy))] H := hP
          have hD : va_D A [(ob, .inr (10, [ob_0, .ref wo, .ref mi, .ref hm, .ref mt, .int 0, .ref fv, .int 0, .int 0, .int 0, .int 0, .int 0, .int 0, .int (-1), .ref fr, ob_15, ob_16, ob_17, ob_18, ob_19, ob_20, ob_21, ob_22, ob_23, ob_24, ob_25, ob_26, ob_27, ob_28, ob_29, ob_30, ob_31, ob_32, ob_33, ob_34, .ref cd, ob_36, .ref my, .ref wi, .ref nb, .ref mv])), (my, .inl (y 1, 4, .inl fy))] := hD
          refine lv_if_ne (tgt := 17) hx hb dX10_paste_11 (by decide) (fun c9 => absurd (by decide) c9) (fun _ => ?_)
          refine lv_bipush (v := (-2)) hx hb dX10_paste_14 (by decide) ?_
          refine W.widen (k := 0) (n := 0) (Nat.le_of_ble_eq_true rfl) (Nat.le_of_ble_eq_true rfl) ?_
          exact W.iret (v := (-2)) hx hb hr (fun t ht hW => ⟨⟨(-2), _, rfl, (by first | rfl | decide | (simp only [sp_paste]; (repeat' split) <;> first | rfl | (exfalso; omega))), by rw [ht]; exact hP, hD⟩, hS.F ht⟩) hS.2.2 dX10_paste_16
      · skip
        exact absurd c_133 (by decide)
  · have hl : lv_has ls 7 [(0, .ref ob), (1, .int a1), (2, .int a2), (3, .int a3), (4, .int a4), (5, .int a5)] := hl
    rcases sl_cases a3 with rfl | rfl | rfl | rfl | t_a3
    · have hl : lv_has ls 7 [(0, .ref ob), (1, .int a1), (2, .int a2), (3, .int 0), (4, .int a4), (5, .int a5)] := hl
      refine lv_iload_n hx hb dX10_paste_0 rfl (lv_at hl 1 rfl) ?_
      refine cSi (As := [.int a1]) (rest := []) ⟨hx, hb, hml, hown, hw0⟩ hA hK hP hD hS [] [0, 1] [] [(ob, .inr (10, [ob_0, .ref wo, .ref mi, .ref hm, .ref mt, .int 0, .ref fv, .int 0, .int 0, .int 0, .int 0, .int 0, .int 0, .int (-1), .ref fr, ob_15, ob_16, ob_17, ob_18, ob_19, ob_20, ob_21, ob_22, ob_23, ob_24, ob_25, ob_26, ob_27, ob_28, ob_29, ob_30, ob_31, ob_32, ob_33, ob_34, .ref cd, ob_36, .ref my, .ref wi, .ref nb, .ref mv])), (my, .inl (y 1, 4, .inl fy))] rfl rfl (by decide) (by decide) (by decide) (kX10_isSlot l G y _ a1 ) ⟨(callB_of 1 hw0 (gA m_169) rfl rfl rfl (hw0 _ m_166) (hw0 _ m_378) (by decide +kernel) ⟨Nat.le_of_ble_eq_true rfl, Nat.le_of_ble_eq_true rfl⟩), (hw0 _ m_379)⟩ rfl hl.1 (Nat.le_of_ble_eq_true rfl) dX10_paste_1 ⟨Nat.le_of_ble_eq_true rfl, Nat.le_of_ble_eq_true rfl⟩ (fun r_137 w_137 H locs hw_137 hP hD hS => ?_)
      rcases hw_137 with ⟨c_138, rfl, rfl⟩ | ⟨c_139, rfl, rfl⟩
      · skip
        exfalso; omega
      · skip
        have hP : va_P G vwCl [(ob, .inr (10, [ob_0, .ref wo, .ref mi, .ref hm, .ref mt, .int 0, .ref fv, .int 0, .int 0, .int 0, .int 0, .int 0, .int 0, .int (-1), .ref fr, ob_15, ob_16, ob_17, ob_18, ob_19, ob_20, ob_21, ob_22, ob_23, ob_24, ob_25, ob_26, ob_27, ob_28, ob_29, ob_30, ob_31, ob_32, ob_33, ob_34, .ref cd, ob_36, .ref my, .ref wi, .ref nb, .ref mv])), (my, .inl (y 1, 4, .inl fy))] H := hP
        have hD : va_D A [(ob, .inr (10, [ob_0, .ref wo, .ref mi, .ref hm, .ref mt, .int 0, .ref fv, .int 0, .int 0, .int 0, .int 0, .int 0, .int 0, .int (-1), .ref fr, ob_15, ob_16, ob_17, ob_18, ob_19, ob_20, ob_21, ob_22, ob_23, ob_24, ob_25, ob_26, ob_27, ob_28, ob_29, ob_30, ob_31, ob_32, ob_33, ob_34, .ref cd, ob_36, .ref my, .ref wi, .ref nb, .ref mv])), (my, .inl (y 1, 4, .inl fy))] := hD
        refine lv_if_eq (tgt := 14) hx hb dX10_paste_4 (by decide) (fun _ => ?_) (fun c9 => absurd (by decide) c9)
        refine lv_bipush (v := (-2)) hx hb dX10_paste_14 (by decide) ?_
        refine W.widen (k := 0) (n := 0) (Nat.le_of_ble_eq_true rfl) (Nat.le_of_ble_eq_true rfl) ?_
        exact W.iret (v := (-2)) hx hb hr (fun t ht hW => ⟨⟨(-2), _, rfl, (by first | rfl | decide | (simp only [sp_paste]; (repeat' split) <;> first | rfl | (exfalso; omega))), by rw [ht]; exact hP, hD⟩, hS.F ht⟩) hS.2.2 dX10_paste_16
    · have hl : lv_has ls 7 [(0, .ref ob), (1, .int a1), (2, .int a2), (3, .int 1), (4, .int a4), (5, .int a5)] := hl
      refine lv_iload_n hx hb dX10_paste_0 rfl (lv_at hl 1 rfl) ?_
      refine cSi (As := [.int a1]) (rest := []) ⟨hx, hb, hml, hown, hw0⟩ hA hK hP hD hS [] [0, 1] [] [(ob, .inr (10, [ob_0, .ref wo, .ref mi, .ref hm, .ref mt, .int 0, .ref fv, .int 0, .int 0, .int 0, .int 0, .int 0, .int 0, .int (-1), .ref fr, ob_15, ob_16, ob_17, ob_18, ob_19, ob_20, ob_21, ob_22, ob_23, ob_24, ob_25, ob_26, ob_27, ob_28, ob_29, ob_30, ob_31, ob_32, ob_33, ob_34, .ref cd, ob_36, .ref my, .ref wi, .ref nb, .ref mv])), (my, .inl (y 1, 4, .inl fy))] rfl rfl (by decide) (by decide) (by decide) (kX10_isSlot l G y _ a1 ) ⟨(callB_of 1 hw0 (gA m_169) rfl rfl rfl (hw0 _ m_166) (hw0 _ m_378) (by decide +kernel) ⟨Nat.le_of_ble_eq_true rfl, Nat.le_of_ble_eq_true rfl⟩), (hw0 _ m_379)⟩ rfl hl.1 (Nat.le_of_ble_eq_true rfl) dX10_paste_1 ⟨Nat.le_of_ble_eq_true rfl, Nat.le_of_ble_eq_true rfl⟩ (fun r_140 w_140 H locs hw_140 hP hD hS => ?_)
      rcases hw_140 with ⟨c_141, rfl, rfl⟩ | ⟨c_142, rfl, rfl⟩
      · skip
        exfalso; omega
      · skip
        have hP : va_P G vwCl [(ob, .inr (10, [ob_0, .ref wo, .ref mi, .ref hm, .ref mt, .int 0, .ref fv, .int 0, .int 0, .int 0, .int 0, .int 0, .int 0, .int (-1), .ref fr, ob_15, ob_16, ob_17, ob_18, ob_19, ob_20, ob_21, ob_22, ob_23, ob_24, ob_25, ob_26, ob_27, ob_28, ob_29, ob_30, ob_31, ob_32, ob_33, ob_34, .ref cd, ob_36, .ref my, .ref wi, .ref nb, .ref mv])), (my, .inl (y 1, 4, .inl fy))] H := hP
        have hD : va_D A [(ob, .inr (10, [ob_0, .ref wo, .ref mi, .ref hm, .ref mt, .int 0, .ref fv, .int 0, .int 0, .int 0, .int 0, .int 0, .int 0, .int (-1), .ref fr, ob_15, ob_16, ob_17, ob_18, ob_19, ob_20, ob_21, ob_22, ob_23, ob_24, ob_25, ob_26, ob_27, ob_28, ob_29, ob_30, ob_31, ob_32, ob_33, ob_34, .ref cd, ob_36, .ref my, .ref wi, .ref nb, .ref mv])), (my, .inl (y 1, 4, .inl fy))] := hD
        refine lv_if_eq (tgt := 14) hx hb dX10_paste_4 (by decide) (fun _ => ?_) (fun c9 => absurd (by decide) c9)
        refine lv_bipush (v := (-2)) hx hb dX10_paste_14 (by decide) ?_
        refine W.widen (k := 0) (n := 0) (Nat.le_of_ble_eq_true rfl) (Nat.le_of_ble_eq_true rfl) ?_
        exact W.iret (v := (-2)) hx hb hr (fun t ht hW => ⟨⟨(-2), _, rfl, (by first | rfl | decide | (simp only [sp_paste]; (repeat' split) <;> first | rfl | (exfalso; omega))), by rw [ht]; exact hP, hD⟩, hS.F ht⟩) hS.2.2 dX10_paste_16
    · have hl : lv_has ls 7 [(0, .ref ob), (1, .int a1), (2, .int a2), (3, .int 2), (4, .int a4), (5, .int a5)] := hl
      refine lv_iload_n hx hb dX10_paste_0 rfl (lv_at hl 1 rfl) ?_
      refine cSi (As := [.int a1]) (rest := []) ⟨hx, hb, hml, hown, hw0⟩ hA hK hP hD hS [] [0, 1] [] [(ob, .inr (10, [ob_0, .ref wo, .ref mi, .ref hm, .ref mt, .int 0, .ref fv, .int 0, .int 0, .int 0, .int 0, .int 0, .int 0, .int (-1), .ref fr, ob_15, ob_16, ob_17, ob_18, ob_19, ob_20, ob_21, ob_22, ob_23, ob_24, ob_25, ob_26, ob_27, ob_28, ob_29, ob_30, ob_31, ob_32, ob_33, ob_34, .ref cd, ob_36, .ref my, .ref wi, .ref nb, .ref mv])), (my, .inl (y 1, 4, .inl fy))] rfl rfl (by decide) (by decide) (by decide) (kX10_isSlot l G y _ a1 ) ⟨(callB_of 1 hw0 (gA m_169) rfl rfl rfl (hw0 _ m_166) (hw0 _ m_378) (by decide +kernel) ⟨Nat.le_of_ble_eq_true rfl, Nat.le_of_ble_eq_true rfl⟩), (hw0 _ m_379)⟩ rfl hl.1 (Nat.le_of_ble_eq_true rfl) dX10_paste_1 ⟨Nat.le_of_ble_eq_true rfl, Nat.le_of_ble_eq_true rfl⟩ (fun r_143 w_143 H locs hw_143 hP hD hS => ?_)
      rcases hw_143 with ⟨c_144, rfl, rfl⟩ | ⟨c_145, rfl, rfl⟩
      · skip
        exfalso; omega
      · skip
        have hP : va_P G vwCl [(ob, .inr (10, [ob_0, .ref wo, .ref mi, .ref hm, .ref mt, .int 0, .ref fv, .int 0, .int 0, .int 0, .int 0, .int 0, .int 0, .int (-1), .ref fr, ob_15, ob_16, ob_17, ob_18, ob_19, ob_20, ob_21, ob_22, ob_23, ob_24, ob_25, ob_26, ob_27, ob_28, ob_29, ob_30, ob_31, ob_32, ob_33, ob_34, .ref cd, ob_36, .ref my, .ref wi, .ref nb, .ref mv])), (my, .inl (y 1, 4, .inl fy))] H := hP
        have hD : va_D A [(ob, .inr (10, [ob_0, .ref wo, .ref mi, .ref hm, .ref mt, .int 0, .ref fv, .int 0, .int 0, .int 0, .int 0, .int 0, .int 0, .int (-1), .ref fr, ob_15, ob_16, ob_17, ob_18, ob_19, ob_20, ob_21, ob_22, ob_23, ob_24, ob_25, ob_26, ob_27, ob_28, ob_29, ob_30, ob_31, ob_32, ob_33, ob_34, .ref cd, ob_36, .ref my, .ref wi, .ref nb, .ref mv])), (my, .inl (y 1, 4, .inl fy))] := hD
        refine lv_if_eq (tgt := 14) hx hb dX10_paste_4 (by decide) (fun _ => ?_) (fun c9 => absurd (by decide) c9)
        refine lv_bipush (v := (-2)) hx hb dX10_paste_14 (by decide) ?_
        refine W.widen (k := 0) (n := 0) (Nat.le_of_ble_eq_true rfl) (Nat.le_of_ble_eq_true rfl) ?_
        exact W.iret (v := (-2)) hx hb hr (fun t ht hW => ⟨⟨(-2), _, rfl, (by first | rfl | decide | (simp only [sp_paste]; (repeat' split) <;> first | rfl | (exfalso; omega))), by rw [ht]; exact hP, hD⟩, hS.F ht⟩) hS.2.2 dX10_paste_16
    · have hl : lv_has ls 7 [(0, .ref ob), (1, .int a1), (2, .int a2), (3, .int 3), (4, .int a4), (5, .int a5)] := hl
      refine lv_iload_n hx hb dX10_paste_0 rfl (lv_at hl 1 rfl) ?_
      refine cSi (As := [.int a1]) (rest := []) ⟨hx, hb, hml, hown, hw0⟩ hA hK hP hD hS [] [0, 1] [] [(ob, .inr (10, [ob_0, .ref wo, .ref mi, .ref hm, .ref mt, .int 0, .ref fv, .int 0, .int 0, .int 0, .int 0, .int 0, .int 0, .int (-1), .ref fr, ob_15, ob_16, ob_17, ob_18, ob_19, ob_20, ob_21, ob_22, ob_23, ob_24, ob_25, ob_26, ob_27, ob_28, ob_29, ob_30, ob_31, ob_32, ob_33, ob_34, .ref cd, ob_36, .ref my, .ref wi, .ref nb, .ref mv])), (my, .inl (y 1, 4, .inl fy))] rfl rfl (by decide) (by decide) (by decide) (kX10_isSlot l G y _ a1 ) ⟨(callB_of 1 hw0 (gA m_169) rfl rfl rfl (hw0 _ m_166) (hw0 _ m_378) (by decide +kernel) ⟨Nat.le_of_ble_eq_true rfl, Nat.le_of_ble_eq_true rfl⟩), (hw0 _ m_379)⟩ rfl hl.1 (Nat.le_of_ble_eq_true rfl) dX10_paste_1 ⟨Nat.le_of_ble_eq_true rfl, Nat.le_of_ble_eq_true rfl⟩ (fun r_146 w_146 H locs hw_146 hP hD hS => ?_)
      rcases hw_146 with ⟨c_147, rfl, rfl⟩ | ⟨c_148, rfl, rfl⟩
      · skip
        exfalso; omega
      · skip
        have hP : va_P G vwCl [(ob, .inr (10, [ob_0, .ref wo, .ref mi, .ref hm, .ref mt, .int 0, .ref fv, .int 0, .int 0, .int 0, .int 0, .int 0, .int 0, .int (-1), .ref fr, ob_15, ob_16, ob_17, ob_18, ob_19, ob_20, ob_21, ob_22, ob_23, ob_24, ob_25, ob_26, ob_27, ob_28, ob_29, ob_30, ob_31, ob_32, ob_33, ob_34, .ref cd, ob_36, .ref my, .ref wi, .ref nb, .ref mv])), (my, .inl (y 1, 4, .inl fy))] H := hP
        have hD : va_D A [(ob, .inr (10, [ob_0, .ref wo, .ref mi, .ref hm, .ref mt, .int 0, .ref fv, .int 0, .int 0, .int 0, .int 0, .int 0, .int 0, .int (-1), .ref fr, ob_15, ob_16, ob_17, ob_18, ob_19, ob_20, ob_21, ob_22, ob_23, ob_24, ob_25, ob_26, ob_27, ob_28, ob_29, ob_30, ob_31, ob_32, ob_33, ob_34, .ref cd, ob_36, .ref my, .ref wi, .ref nb, .ref mv])), (my, .inl (y 1, 4, .inl fy))] := hD
        refine lv_if_eq (tgt := 14) hx hb dX10_paste_4 (by decide) (fun _ => ?_) (fun c9 => absurd (by decide) c9)
        refine lv_bipush (v := (-2)) hx hb dX10_paste_14 (by decide) ?_
        refine W.widen (k := 0) (n := 0) (Nat.le_of_ble_eq_true rfl) (Nat.le_of_ble_eq_true rfl) ?_
        exact W.iret (v := (-2)) hx hb hr (fun t ht hW => ⟨⟨(-2), _, rfl, (by first | rfl | decide | (simp only [sp_paste]; (repeat' split) <;> first | rfl | (exfalso; omega))), by rw [ht]; exact hP, hD⟩, hS.F ht⟩) hS.2.2 dX10_paste_16
    · have hl : lv_has ls 7 [(0, .ref ob), (1, .int a1), (2, .int a2), (3, .int a3), (4, .int a4), (5, .int a5)] := hl
      refine lv_iload_n hx hb dX10_paste_0 rfl (lv_at hl 1 rfl) ?_
      refine cSi (As := [.int a1]) (rest := []) ⟨hx, hb, hml, hown, hw0⟩ hA hK hP hD hS [] [0, 1] [] [(ob, .inr (10, [ob_0, .ref wo, .ref mi, .ref hm, .ref mt, .int 0, .ref fv, .int 0, .int 0, .int 0, .int 0, .int 0, .int 0, .int (-1), .ref fr, ob_15, ob_16, ob_17, ob_18, ob_19, ob_20, ob_21, ob_22, ob_23, ob_24, ob_25, ob_26, ob_27, ob_28, ob_29, ob_30, ob_31, ob_32, ob_33, ob_34, .ref cd, ob_36, .ref my, .ref wi, .ref nb, .ref mv])), (my, .inl (y 1, 4, .inl fy))] rfl rfl (by decide) (by decide) (by decide) (kX10_isSlot l G y _ a1 ) ⟨(callB_of 1 hw0 (gA m_169) rfl rfl rfl (hw0 _ m_166) (hw0 _ m_378) (by decide +kernel) ⟨Nat.le_of_ble_eq_true rfl, Nat.le_of_ble_eq_true rfl⟩), (hw0 _ m_379)⟩ rfl hl.1 (Nat.le_of_ble_eq_true rfl) dX10_paste_1 ⟨Nat.le_of_ble_eq_true rfl, Nat.le_of_ble_eq_true rfl⟩ (fun r_149 w_149 H locs hw_149 hP hD hS => ?_)
      rcases hw_149 with ⟨c_150, rfl, rfl⟩ | ⟨c_151, rfl, rfl⟩
      · skip
        exfalso; omega
      · skip
        have hP : va_P G vwCl [(ob, .inr (10, [ob_0, .ref wo, .ref mi, .ref hm, .ref mt, .int 0, .ref fv, .int 0, .int 0, .int 0, .int 0, .int 0, .int 0, .int (-1), .ref fr, ob_15, ob_16, ob_17, ob_18, ob_19, ob_20, ob_21, ob_22, ob_23, ob_24, ob_25, ob_26, ob_27, ob_28, ob_29, ob_30, ob_31, ob_32, ob_33, ob_34, .ref cd, ob_36, .ref my, .ref wi, .ref nb, .ref mv])), (my, .inl (y 1, 4, .inl fy))] H := hP
        have hD : va_D A [(ob, .inr (10, [ob_0, .ref wo, .ref mi, .ref hm, .ref mt, .int 0, .ref fv, .int 0, .int 0, .int 0, .int 0, .int 0, .int 0, .int (-1), .ref fr, ob_15, ob_16, ob_17, ob_18, ob_19, ob_20, ob_21, ob_22, ob_23, ob_24, ob_25, ob_26, ob_27, ob_28, ob_29, ob_30, ob_31, ob_32, ob_33, ob_34, .ref cd, ob_36, .ref my, .ref wi, .ref nb, .ref mv])), (my, .inl (y 1, 4, .inl fy))] := hD
        refine lv_if_eq (tgt := 14) hx hb dX10_paste_4 (by decide) (fun _ => ?_) (fun c9 => absurd (by decide) c9)
        refine lv_bipush (v := (-2)) hx hb dX10_paste_14 (by decide) ?_
        refine W.widen (k := 0) (n := 0) (Nat.le_of_ble_eq_true rfl) (Nat.le_of_ble_eq_true rfl) ?_
        exact W.iret (v := (-2)) hx hb hr (fun t ht hW => ⟨⟨(-2), _, rfl, (by first | rfl | decide | (simp only [sp_paste]; (repeat' split) <;> first | rfl | (exfalso; omega))), by rw [ht]; exact hP, hD⟩, hS.F ht⟩) hS.2.2 dX10_paste_16

set_option maxHeartbeats 4000000 in
set_option maxRecDepth 100000 in
theorem kX10_count (l : Launch) (G : va_G) (y : Nat → ClassId) (sz : Nat) (ob : Nat) (a1 : Int32) (ob_0 : Value) (wo : Nat) (mi : Nat) (hm : Nat) (mt : Nat) (fv : Nat) (fr : Nat) (ob_15 : Value) (ob_16 : Value) (ob_17 : Value) (ob_18 : Value) (ob_19 : Value) (ob_20 : Value) (ob_21 : Value) (ob_22 : Value) (ob_23 : Value) (ob_24 : Value) (ob_25 : Value) (ob_26 : Value) (ob_27 : Value) (ob_28 : Value) (ob_29 : Value) (ob_30 : Value) (ob_31 : Value) (ob_32 : Value) (ob_33 : Value) (ob_34 : Value) (cd : Nat) (ob_36 : Value) (my : Nat) (wi : Nat) (nb : Nat) (mv : Nat) (fw : Nat → Int32) (fy : Nat → Int32) (z0 : fw 0 = 0) (z1 : fw 1 = 0) (z4 : fw 4 = 0) (z5 : fw 5 = 3) (z6 : fw 6 = 0) (z7 : fw 7 = 0) (z8 : fw 8 = 0) (z9 : fw 9 = 0) (y0 : fy 0 = (-1)) (y1 : fy 1 = (-1)) (y2 : fy 2 = (-1)) (y3 : fy 3 = (-1)) : Met l yX10_count (Cond.code yX10_count cX10_count 4 (some .int) :: wAll) ({ frames := 1, cells := 0, slots := 0, locals := 20 }) (va_Pc [.ref ob, .int a1] (kp G y sz [(ob, .inr (10, [ob_0, .ref wo, .ref mi, .ref hm, .ref mt, .int 0, .ref fv, .int 0, .int 0, .int 0, .int 0, .int 0, .int 0, .int (-1), .ref fr, ob_15, ob_16, ob_17, ob_18, ob_19, ob_20, ob_21, ob_22, ob_23, ob_24, ob_25, ob_26, ob_27, ob_28, ob_29, ob_30, ob_31, ob_32, ob_33, ob_34, .ref cd, ob_36, .ref my, .ref wi, .ref nb, .ref mv])), (wo, .inl (y 1, 9080, .inl fw)), (my, .inl (y 1, 4, .inl fy))])) (va_Qi (fun (r : Int32) (_ : va_W) => r = sp_count a1) (kq G (va_A [(ob, .inr (10, [ob_0, .ref wo, .ref mi, .ref hm, .ref mt, .int 0, .ref fv, .int 0, .int 0, .int 0, .int 0, .int 0, .int 0, .int (-1), .ref fr, ob_15, ob_16, ob_17, ob_18, ob_19, ob_20, ob_21, ob_22, ob_23, ob_24, ob_25, ob_26, ob_27, ob_28, ob_29, ob_30, ob_31, ob_32, ob_33, ob_34, .ref cd, ob_36, .ref my, .ref wi, .ref nb, .ref mv])), (wo, .inl (y 1, 9080, .inl fw)), (my, .inl (y 1, 4, .inl fy))] sz)) (va_A [(ob, .inr (10, [ob_0, .ref wo, .ref mi, .ref hm, .ref mt, .int 0, .ref fv, .int 0, .int 0, .int 0, .int 0, .int 0, .int 0, .int (-1), .ref fr, ob_15, ob_16, ob_17, ob_18, ob_19, ob_20, ob_21, ob_22, ob_23, ob_24, ob_25, ob_26, ob_27, ob_28, ob_29, ob_30, ob_31, ob_32, ob_33, ob_34, .ref cd, ob_36, .ref my, .ref wi, .ref nb, .ref mv])), (wo, .inl (y 1, 9080, .inl fw)), (my, .inl (y 1, 4, .inl fy))] sz)) 0 0 (va_A [(ob, .inr (10, [ob_0, .ref wo, .ref mi, .ref hm, .ref mt, .int 0, .ref fv, .int 0, .int 0, .int 0, .int 0, .int 0, .int 0, .int (-1), .ref fr, ob_15, ob_16, ob_17, ob_18, ob_19, ob_20, ob_21, ob_22, ob_23, ob_24, ob_25, ob_26, ob_27, ob_28, ob_29, ob_30, ob_31, ob_32, ob_33, ob_34, .ref cd, ob_36, .ref my, .ref wi, .ref nb, .ref mv])), (wo, .inl (y 1, 9080, .inl fw)), (my, .inl (y 1, 4, .inl fy))] sz) := by
  refine Met.ofW (cc := cX10_count) (maxL := 4) (ret := (some .int)) (by decide) rfl ?_
  intro p e s m args below meth c s₁ B hml hv
  obtain ⟨rfl, hsz, hP, hK, hD0⟩ := hv
  have hx := B.exec
  have hb := B.bytes
  have hr := B.returns
  have hw0 : ∀ w ∈ wAll, w.before _ s = true := fun w h => atoms_spec (ws := Cond.code yX10_count cX10_count 4 (some .int) :: wAll) B.pre w (List.mem_cons_of_mem _ h)
  have hown : s.vm.findClass RX10 = some m.cls := findClass_of_methodNamed B.named
  have hlocks := B.notSynchronized
  subst hsz
  have hD := hD0.self (sz := s.heap.size)
  generalize hAe : va_A [(ob, .inr (10, [ob_0, .ref wo, .ref mi, .ref hm, .ref mt, .int 0, .ref fv, .int 0, .int 0, .int 0, .int 0, .int 0, .int 0, .int (-1), .ref fr, ob_15, ob_16, ob_17, ob_18, ob_19, ob_20, ob_21, ob_22, ob_23, ob_24, ob_25, ob_26, ob_27, ob_28, ob_29, ob_30, ob_31, ob_32, ob_33, ob_34, .ref cd, ob_36, .ref my, .ref wi, .ref nb, .ref mv])), (wo, .inl (y 1, 9080, .inl fw)), (my, .inl (y 1, 4, .inl fy))] s.heap.size = A at hD ⊢
  have hA : ∀ q : Nat, s.heap.size ≤ q → A q := fun q h => by rw [← hAe]; exact Or.inr h
  have hS : va_S A s.heap s.heap [] := va_S.rf
  have hP : va_P G vwCl [(ob, .inr (10, [ob_0, .ref wo, .ref mi, .ref hm, .ref mt, .int 0, .ref fv, .int 0, .int 0, .int 0, .int 0, .int 0, .int 0, .int (-1), .ref fr, ob_15, ob_16, ob_17, ob_18, ob_19, ob_20, ob_21, ob_22, ob_23, ob_24, ob_25, ob_26, ob_27, ob_28, ob_29, ob_30, ob_31, ob_32, ob_33, ob_34, .ref cd, ob_36, .ref my, .ref wi, .ref nb, .ref mv])), (wo, .inl (y 1, 9080, .inl fw)), (my, .inl (y 1, 4, .inl fy))] s.heap := hP
  have hl := lv_entry ([.ref ob, .int a1]) (n := 4) (Nat.le_of_ble_eq_true rfl)
  rw [lg_entry_eq]
  generalize (lg_sl ([.ref ob, .int a1]) ++ List.replicate (4 - (lg_sl ([.ref ob, .int a1])).length) Slot.unset).toArray = ls at hl ⊢
  have hl : lv_has ls 4 [(0, .ref ob), (1, .int a1)] := hl
  rcases cn_cases a1 with rfl | rfl | rfl | rfl | rfl | rfl | rfl | rfl | rfl | rfl | rfl | t_a1
  · have hl : lv_has ls 4 [(0, .ref ob), (1, .int 0)] := hl
    refine lv_iconst (v := 0) hx hb dX10_count_0 (by decide) ?_
    refine lv_istore_n (lv' := [(2, .int 0), (0, .ref ob), (1, .int 0)]) hx hb dX10_count_1 rfl hl (by decide) rfl (fun ls hl => ?_)
    refine lv_iload_n hx hb dX10_count_2 rfl (lv_at hl 2 rfl) ?_
    refine lv_tableIn (tgt := 60) hx hb dX10_count_3 (by decide) (by decide) rfl (by decide) ?_
    refine lv_aload_n hx hb dX10_count_60 rfl (lv_at hl 1 rfl) ?_
    refine va_get (D := G) (ci := 10) (v := .ref wo) (C := RX10) (T := TX10) (N := 41) hx hb hw0 inA_wsX100 hown hK.1 hP 0 rfl rfl 1 (by decide) (hw0 _ m_132) (fun _ h9 => h9) rfl dX10_count_61 ?_
    refine lv_iconst (v := 0) hx hb dX10_count_64 (by decide) ?_
    refine va_iald hx hb hK.1 hP 1 1 rfl rfl (vp_in_nI (n := 0) (N := 9080) (by decide) (by decide)) dX10_count_65 ?_
    refine lv_topi (fun v_1 ev_1 => ?_)
    obtain rfl : 0 = v_1 := (ev_1.trans (z0)).symm
    refine W.widen (k := 0) (n := 0) (Nat.le_of_ble_eq_true rfl) (Nat.le_of_ble_eq_true rfl) ?_
    exact W.iret (v := 0) hx hb hr (fun t ht hW => ⟨⟨0, _, rfl, (by first | rfl | decide | (simp only [sp_count]; (repeat' split) <;> first | rfl | (exfalso; omega))), by rw [ht]; exact hP, hD⟩, hS.F ht⟩) hS.2.2 dX10_count_66
  · have hl : lv_has ls 4 [(0, .ref ob), (1, .int 1)] := hl
    refine lv_iconst (v := 0) hx hb dX10_count_0 (by decide) ?_
    refine lv_istore_n (lv' := [(2, .int 0), (0, .ref ob), (1, .int 1)]) hx hb dX10_count_1 rfl hl (by decide) rfl (fun ls hl => ?_)
    refine lv_iload_n hx hb dX10_count_2 rfl (lv_at hl 2 rfl) ?_
    refine lv_tableIn (tgt := 67) hx hb dX10_count_3 (by decide) (by decide) rfl (by decide) ?_
    refine lv_aload_n hx hb dX10_count_67 rfl (lv_at hl 1 rfl) ?_
    refine va_get (D := G) (ci := 10) (v := .ref wo) (C := RX10) (T := TX10) (N := 41) hx hb hw0 inA_wsX100 hown hK.1 hP 0 rfl rfl 1 (by decide) (hw0 _ m_132) (fun _ h9 => h9) rfl dX10_count_68 ?_
    refine lv_iconst (v := 1) hx hb dX10_count_71 (by decide) ?_
    refine va_iald hx hb hK.1 hP 1 1 rfl rfl (vp_in_nI (n := 1) (N := 9080) (by decide) (by decide)) dX10_count_72 ?_
    refine lv_topi (fun v_2 ev_2 => ?_)
    obtain rfl : 0 = v_2 := (ev_2.trans (z1)).symm
    refine W.widen (k := 0) (n := 0) (Nat.le_of_ble_eq_true rfl) (Nat.le_of_ble_eq_true rfl) ?_
    exact W.iret (v := 0) hx hb hr (fun t ht hW => ⟨⟨0, _, rfl, (by first | rfl | decide | (simp only [sp_count]; (repeat' split) <;> first | rfl | (exfalso; omega))), by rw [ht]; exact hP, hD⟩, hS.F ht⟩) hS.2.2 dX10_count_73
  · have hl : lv_has ls 4 [(0, .ref ob), (1, .int 2)] := hl
    refine lv_iconst (v := 0) hx hb dX10_count_0 (by decide) ?_
    refine lv_istore_n (lv' := [(2, .int 0), (0, .ref ob), (1, .int 2)]) hx hb dX10_count_1 rfl hl (by decide) rfl (fun ls hl => ?_)
    refine lv_iload_n hx hb dX10_count_2 rfl (lv_at hl 2 rfl) ?_
    refine lv_tableIn (tgt := 74) hx hb dX10_count_3 (by decide) (by decide) rfl (by decide) ?_
    refine lv_aload_n hx hb dX10_count_74 rfl (lv_at hl 1 rfl) ?_
    refine cVi (As := []) (rest := []) ⟨hx, hb, hml, hown, hw0⟩ hA hK hP hD hS [0, 1] [2] [(ob, .inr (10, [ob_0, .ref wo, .ref mi, .ref hm, .ref mt, .int 0, .ref fv, .int 0, .int 0, .int 0, .int 0, .int 0, .int 0, .int (-1), .ref fr, ob_15, ob_16, ob_17, ob_18, ob_19, ob_20, ob_21, ob_22, ob_23, ob_24, ob_25, ob_26, ob_27, ob_28, ob_29, ob_30, ob_31, ob_32, ob_33, ob_34, .ref cd, ob_36, .ref my, .ref wi, .ref nb, .ref mv])), (wo, .inl (y 1, 9080, .inl fw))] [(my, .inl (y 1, 4, .inl fy))] rfl rfl (by decide) (by decide) (by decide) (kX10_today l G y _ ob (ob_0) wo mi hm mt fv fr (ob_15) (ob_16) (ob_17) (ob_18) (ob_19) (ob_20) (ob_21) (ob_22) (ob_23) (ob_24) (ob_25) (ob_26) (ob_27) (ob_28) (ob_29) (ob_30) (ob_31) (ob_32) (ob_33) (ob_34) cd (ob_36) my wi nb mv fw 0 z6) ⟨(callB_of 0 hw0 (gA m_397) rfl rfl rfl (hw0 _ m_166) (hw0 _ m_399) (by decide +kernel) ⟨Nat.le_of_ble_eq_true rfl, Nat.le_of_ble_eq_true rfl⟩), (hw0 _ m_400), (hw0 _ m_401)⟩ (ci := 10) (q := (RX10, TX10, 41)) rfl rfl rfl hl.1 (Nat.le_of_ble_eq_true rfl) dX10_count_75 ⟨Nat.le_of_ble_eq_true rfl, Nat.le_of_ble_eq_true rfl⟩ (fun r_3 w_3 H locs hw_3 hP hD hS => ?_)
    obtain ⟨rfl, rfl⟩ := hw_3
    have hP : va_P G vwCl [(my, .inl (y 1, 4, .inl fy)), (ob, .inr (10, [ob_0, .ref wo, .ref mi, .ref hm, .ref mt, .int 0, .ref fv, .int 0, .int 0, .int 0, .int 0, .int 0, .int 0, .int (-1), .ref fr, ob_15, ob_16, ob_17, ob_18, ob_19, ob_20, ob_21, ob_22, ob_23, ob_24, ob_25, ob_26, ob_27, ob_28, ob_29, ob_30, ob_31, ob_32, ob_33, ob_34, .ref cd, ob_36, .ref my, .ref wi, .ref nb, .ref mv])), (wo, .inl (y 1, 9080, .inl fw))] H := hP
    have hD : va_D A [(my, .inl (y 1, 4, .inl fy)), (ob, .inr (10, [ob_0, .ref wo, .ref mi, .ref hm, .ref mt, .int 0, .ref fv, .int 0, .int 0, .int 0, .int 0, .int 0, .int 0, .int (-1), .ref fr, ob_15, ob_16, ob_17, ob_18, ob_19, ob_20, ob_21, ob_22, ob_23, ob_24, ob_25, ob_26, ob_27, ob_28, ob_29, ob_30, ob_31, ob_32, ob_33, ob_34, .ref cd, ob_36, .ref my, .ref wi, .ref nb, .ref mv])), (wo, .inl (y 1, 9080, .inl fw))] := hD
    refine W.widen (k := 0) (n := 0) (Nat.le_of_ble_eq_true rfl) (Nat.le_of_ble_eq_true rfl) ?_
    exact W.iret (v := 0) hx hb hr (fun t ht hW => ⟨⟨0, _, rfl, (by first | rfl | decide | (simp only [sp_count]; (repeat' split) <;> first | rfl | (exfalso; omega))), by rw [ht]; exact hP, hD⟩, hS.F ht⟩) hS.2.2 dX10_count_78
  · have hl : lv_has ls 4 [(0, .ref ob), (1, .int 3)] := hl
    refine lv_iconst (v := 0) hx hb dX10_count_0 (by decide) ?_
    refine lv_istore_n (lv' := [(2, .int 0), (0, .ref ob), (1, .int 3)]) hx hb dX10_count_1 rfl hl (by decide) rfl (fun ls hl => ?_)
    refine lv_iload_n hx hb dX10_count_2 rfl (lv_at hl 2 rfl) ?_
    refine lv_tableIn (tgt := 79) hx hb dX10_count_3 (by decide) (by decide) rfl (by decide) ?_
    refine lv_aload_n hx hb dX10_count_79 rfl (lv_at hl 1 rfl) ?_
    refine va_get (D := G) (ci := 10) (v := .ref wo) (C := RX10) (T := TX10) (N := 41) hx hb hw0 inA_wsX100 hown hK.1 hP 0 rfl rfl 1 (by decide) (hw0 _ m_132) (fun _ h9 => h9) rfl dX10_count_80 ?_
    refine lv_bipush (v := 7) hx hb dX10_count_83 (by decide) ?_
    refine va_iald hx hb hK.1 hP 1 1 rfl rfl (vp_in_nI (n := 7) (N := 9080) (by decide) (by decide)) dX10_count_85 ?_
    refine lv_topi (fun v_4 ev_4 => ?_)
    obtain rfl : 0 = v_4 := (ev_4.trans (z7)).symm
    refine W.widen (k := 0) (n := 0) (Nat.le_of_ble_eq_true rfl) (Nat.le_of_ble_eq_true rfl) ?_
    exact W.iret (v := 0) hx hb hr (fun t ht hW => ⟨⟨0, _, rfl, (by first | rfl | decide | (simp only [sp_count]; (repeat' split) <;> first | rfl | (exfalso; omega))), by rw [ht]; exact hP, hD⟩, hS.F ht⟩) hS.2.2 dX10_count_86
  · have hl : lv_has ls 4 [(0, .ref ob), (1, .int 4)] := hl
    refine lv_iconst (v := 0) hx hb dX10_count_0 (by decide) ?_
    refine lv_istore_n (lv' := [(2, .int 0), (0, .ref ob), (1, .int 4)]) hx hb dX10_count_1 rfl hl (by decide) rfl (fun ls hl => ?_)
    refine lv_iload_n hx hb dX10_count_2 rfl (lv_at hl 2 rfl) ?_
    refine lv_tableIn (tgt := 87) hx hb dX10_count_3 (by decide) (by decide) rfl (by decide) ?_
    refine lv_iconst (v := 0) hx hb dX10_count_87 (by decide) ?_
    refine lv_istore_n (lv' := [(3, .int 0), (2, .int 0), (0, .ref ob), (1, .int 4)]) hx hb dX10_count_88 rfl hl (by decide) rfl (fun ls hl => ?_)
    refine lv_iload_n hx hb dX10_count_89 rfl (lv_at hl 0 rfl) ?_
    refine lv_aload_n hx hb dX10_count_90 rfl (lv_at hl 2 rfl) ?_
    refine va_get (D := G) (ci := 10) (v := .ref wo) (C := RX10) (T := TX10) (N := 41) hx hb hw0 inA_wsX100 hown hK.1 hP 0 rfl rfl 1 (by decide) (hw0 _ m_132) (fun _ h9 => h9) rfl dX10_count_91 ?_
    refine lv_bipush (v := 7) hx hb dX10_count_94 (by decide) ?_
    refine va_iald hx hb hK.1 hP 1 1 rfl rfl (vp_in_nI (n := 7) (N := 9080) (by decide) (by decide)) dX10_count_96 ?_
    refine lv_topi (fun v_5 ev_5 => ?_)
    obtain rfl : 0 = v_5 := (ev_5.trans (z7)).symm
    refine lv_icmp_ge (tgt := 127) hx hb dX10_count_97 (by decide) (fun _ => ?_) (fun c9 => absurd (by decide) c9)
    refine lv_iload_n hx hb dX10_count_127 rfl (lv_at hl 1 rfl) ?_
    refine W.widen (k := 0) (n := 0) (Nat.le_of_ble_eq_true rfl) (Nat.le_of_ble_eq_true rfl) ?_
    exact W.iret (v := 0) hx hb hr (fun t ht hW => ⟨⟨0, _, rfl, (by first | rfl | decide | (simp only [sp_count]; (repeat' split) <;> first | rfl | (exfalso; omega))), by rw [ht]; exact hP, hD⟩, hS.F ht⟩) hS.2.2 dX10_count_128
  · have hl : lv_has ls 4 [(0, .ref ob), (1, .int 5)] := hl
    refine lv_iconst (v := 0) hx hb dX10_count_0 (by decide) ?_
    refine lv_istore_n (lv' := [(2, .int 0), (0, .ref ob), (1, .int 5)]) hx hb dX10_count_1 rfl hl (by decide) rfl (fun ls hl => ?_)
    refine lv_iload_n hx hb dX10_count_2 rfl (lv_at hl 2 rfl) ?_
    refine lv_tableIn (tgt := 129) hx hb dX10_count_3 (by decide) (by decide) rfl (by decide) ?_
    refine lv_aload_n hx hb dX10_count_129 rfl (lv_at hl 1 rfl) ?_
    refine va_get (D := G) (ci := 10) (v := .ref wo) (C := RX10) (T := TX10) (N := 41) hx hb hw0 inA_wsX100 hown hK.1 hP 0 rfl rfl 1 (by decide) (hw0 _ m_132) (fun _ h9 => h9) rfl dX10_count_130 ?_
    refine lv_bipush (v := 8) hx hb dX10_count_133 (by decide) ?_
    refine va_iald hx hb hK.1 hP 1 1 rfl rfl (vp_in_nI (n := 8) (N := 9080) (by decide) (by decide)) dX10_count_135 ?_
    refine lv_topi (fun v_6 ev_6 => ?_)
    obtain rfl : 0 = v_6 := (ev_6.trans (z8)).symm
    refine W.widen (k := 0) (n := 0) (Nat.le_of_ble_eq_true rfl) (Nat.le_of_ble_eq_true rfl) ?_
    exact W.iret (v := 0) hx hb hr (fun t ht hW => ⟨⟨0, _, rfl, (by first | rfl | decide | (simp only [sp_count]; (repeat' split) <;> first | rfl | (exfalso; omega))), by rw [ht]; exact hP, hD⟩, hS.F ht⟩) hS.2.2 dX10_count_136
  · have hl : lv_has ls 4 [(0, .ref ob), (1, .int 6)] := hl
    refine lv_iconst (v := 0) hx hb dX10_count_0 (by decide) ?_
    refine lv_istore_n (lv' := [(2, .int 0), (0, .ref ob), (1, .int 6)]) hx hb dX10_count_1 rfl hl (by decide) rfl (fun ls hl => ?_)
    refine lv_iload_n hx hb dX10_count_2 rfl (lv_at hl 2 rfl) ?_
    refine lv_tableIn (tgt := 137) hx hb dX10_count_3 (by decide) (by decide) rfl (by decide) ?_
    refine lv_aload_n hx hb dX10_count_137 rfl (lv_at hl 1 rfl) ?_
    refine va_get (D := G) (ci := 10) (v := .ref wo) (C := RX10) (T := TX10) (N := 41) hx hb hw0 inA_wsX100 hown hK.1 hP 0 rfl rfl 1 (by decide) (hw0 _ m_132) (fun _ h9 => h9) rfl dX10_count_138 ?_
    refine lv_bipush (v := 9) hx hb dX10_count_141 (by decide) ?_
    refine va_iald hx hb hK.1 hP 1 1 rfl rfl (vp_in_nI (n := 9) (N := 9080) (by decide) (by decide)) dX10_count_143 ?_
    refine lv_topi (fun v_7 ev_7 => ?_)
    obtain rfl : 0 = v_7 := (ev_7.trans (z9)).symm
    refine W.widen (k := 0) (n := 0) (Nat.le_of_ble_eq_true rfl) (Nat.le_of_ble_eq_true rfl) ?_
    exact W.iret (v := 0) hx hb hr (fun t ht hW => ⟨⟨0, _, rfl, (by first | rfl | decide | (simp only [sp_count]; (repeat' split) <;> first | rfl | (exfalso; omega))), by rw [ht]; exact hP, hD⟩, hS.F ht⟩) hS.2.2 dX10_count_144
  · have hl : lv_has ls 4 [(0, .ref ob), (1, .int 7)] := hl
    refine lv_iconst (v := 0) hx hb dX10_count_0 (by decide) ?_
    refine lv_istore_n (lv' := [(2, .int 0), (0, .ref ob), (1, .int 7)]) hx hb dX10_count_1 rfl hl (by decide) rfl (fun ls hl => ?_)
    refine lv_iload_n hx hb dX10_count_2 rfl (lv_at hl 2 rfl) ?_
    refine lv_tableIn (tgt := 145) hx hb dX10_count_3 (by decide) (by decide) rfl (by decide) ?_
    refine lv_aload_n hx hb dX10_count_145 rfl (lv_at hl 1 rfl) ?_
    refine va_get (D := G) (ci := 10) (v := .int 0) (C := RX10) (T := TX10) (N := 41) hx hb hw0 inA_wsX100 hown hK.1 hP 0 rfl rfl 5 (by decide) (hw0 _ m_393) (fun _ h9 => h9) rfl dX10_count_146 ?_
    refine W.widen (k := 0) (n := 0) (Nat.le_of_ble_eq_true rfl) (Nat.le_of_ble_eq_true rfl) ?_
    exact W.iret (v := 0) hx hb hr (fun t ht hW => ⟨⟨0, _, rfl, (by first | rfl | decide | (simp only [sp_count]; (repeat' split) <;> first | rfl | (exfalso; omega))), by rw [ht]; exact hP, hD⟩, hS.F ht⟩) hS.2.2 dX10_count_149
  · have hl : lv_has ls 4 [(0, .ref ob), (1, .int 8)] := hl
    refine lv_iconst (v := 0) hx hb dX10_count_0 (by decide) ?_
    refine lv_istore_n (lv' := [(2, .int 0), (0, .ref ob), (1, .int 8)]) hx hb dX10_count_1 rfl hl (by decide) rfl (fun ls hl => ?_)
    refine lv_iload_n hx hb dX10_count_2 rfl (lv_at hl 2 rfl) ?_
    refine lv_tableIn (tgt := 150) hx hb dX10_count_3 (by decide) (by decide) rfl (by decide) ?_
    refine lv_aload_n hx hb dX10_count_150 rfl (lv_at hl 1 rfl) ?_
    refine va_get (D := G) (ci := 10) (v := .ref wo) (C := RX10) (T := TX10) (N := 41) hx hb hw0 inA_wsX100 hown hK.1 hP 0 rfl rfl 1 (by decide) (hw0 _ m_132) (fun _ h9 => h9) rfl dX10_count_151 ?_
    refine lv_iconst (v := 5) hx hb dX10_count_154 (by decide) ?_
    refine va_iald hx hb hK.1 hP 1 1 rfl rfl (vp_in_nI (n := 5) (N := 9080) (by decide) (by decide)) dX10_count_155 ?_
    refine lv_topi (fun v_8 ev_8 => ?_)
    obtain rfl : 3 = v_8 := (ev_8.trans (z5)).symm
    refine W.widen (k := 0) (n := 0) (Nat.le_of_ble_eq_true rfl) (Nat.le_of_ble_eq_true rfl) ?_
    exact W.iret (v := 3) hx hb hr (fun t ht hW => ⟨⟨3, _, rfl, (by first | rfl | decide | (simp only [sp_count]; (repeat' split) <;> first | rfl | (exfalso; omega))), by rw [ht]; exact hP, hD⟩, hS.F ht⟩) hS.2.2 dX10_count_156
  · have hl : lv_has ls 4 [(0, .ref ob), (1, .int 9)] := hl
    refine lv_iconst (v := 0) hx hb dX10_count_0 (by decide) ?_
    refine lv_istore_n (lv' := [(2, .int 0), (0, .ref ob), (1, .int 9)]) hx hb dX10_count_1 rfl hl (by decide) rfl (fun ls hl => ?_)
    refine lv_iload_n hx hb dX10_count_2 rfl (lv_at hl 2 rfl) ?_
    refine lv_tableIn (tgt := 157) hx hb dX10_count_3 (by decide) (by decide) rfl (by decide) ?_
    refine lv_aload_n hx hb dX10_count_157 rfl (lv_at hl 1 rfl) ?_
    refine va_get (D := G) (ci := 10) (v := .ref wo) (C := RX10) (T := TX10) (N := 41) hx hb hw0 inA_wsX100 hown hK.1 hP 0 rfl rfl 1 (by decide) (hw0 _ m_132) (fun _ h9 => h9) rfl dX10_count_158 ?_
    refine lv_iconst (v := 4) hx hb dX10_count_161 (by decide) ?_
    refine va_iald hx hb hK.1 hP 1 1 rfl rfl (vp_in_nI (n := 4) (N := 9080) (by decide) (by decide)) dX10_count_162 ?_
    refine lv_topi (fun v_9 ev_9 => ?_)
    obtain rfl : 0 = v_9 := (ev_9.trans (z4)).symm
    refine W.widen (k := 0) (n := 0) (Nat.le_of_ble_eq_true rfl) (Nat.le_of_ble_eq_true rfl) ?_
    exact W.iret (v := 0) hx hb hr (fun t ht hW => ⟨⟨0, _, rfl, (by first | rfl | decide | (simp only [sp_count]; (repeat' split) <;> first | rfl | (exfalso; omega))), by rw [ht]; exact hP, hD⟩, hS.F ht⟩) hS.2.2 dX10_count_163
  · have hl : lv_has ls 4 [(0, .ref ob), (1, .int 10)] := hl
    refine lv_iconst (v := 0) hx hb dX10_count_0 (by decide) ?_
    refine lv_istore_n (lv' := [(2, .int 0), (0, .ref ob), (1, .int 10)]) hx hb dX10_count_1 rfl hl (by decide) rfl (fun ls hl => ?_)
    refine lv_iload_n hx hb dX10_count_2 rfl (lv_at hl 2 rfl) ?_
    refine lv_tableIn (tgt := 164) hx hb dX10_count_3 (by decide) (by decide) rfl (by decide) ?_
    refine lv_iconst (v := 0) hx hb dX10_count_164 (by decide) ?_
    refine lv_istore_n (lv' := [(3, .int 0), (2, .int 0), (0, .ref ob), (1, .int 10)]) hx hb dX10_count_165 rfl hl (by decide) rfl (fun ls hl => ?_)
    refine lv_iload_n hx hb dX10_count_166 rfl (lv_at hl 0 rfl) ?_
    refine lv_iconst (v := 4) hx hb dX10_count_167 (by decide) ?_
    refine lv_icmp_ge (tgt := 195) hx hb dX10_count_168 (by decide) (fun c9 => absurd c9 (by decide)) (fun _ => ?_)
    refine lv_iload_n hx hb dX10_count_171 rfl (lv_at hl 1 rfl) ?_
    refine lv_aload_n hx hb dX10_count_172 rfl (lv_at hl 2 rfl) ?_
    refine va_get (D := G) (ci := 10) (v := .ref my) (C := RX10) (T := TX10) (N := 41) hx hb hw0 inA_wsX100 hown hK.1 hP 0 rfl rfl 37 (by decide) (hw0 _ m_157) (fun _ h9 => h9) rfl dX10_count_173 ?_
    refine lv_iload_n hx hb dX10_count_176 rfl (lv_at hl 0 rfl) ?_
    refine va_iald hx hb hK.1 hP 2 1 rfl rfl (vp_in_nI (n := 0) (N := 4) (by decide) (by decide)) dX10_count_177 ?_
    refine lv_topi (fun v_10 ev_10 => ?_)
    obtain rfl : (-1) = v_10 := (ev_10.trans (y0)).symm
    refine lv_iconst (v := (-1)) hx hb dX10_count_178 (by decide) ?_
    refine lv_icmp_ne (tgt := 186) hx hb dX10_count_179 (by decide) (fun c9 => absurd (by decide) c9) (fun _ => ?_)
    refine lv_iconst (v := 0) hx hb dX10_count_182 (by decide) ?_
    refine lv_goto (tgt := 187) hx hb dX10_count_183 (by decide) ?_
    refine lv_iadd hx hb dX10_count_187 ?_
    refine lv_topi (fun v_11 ev_11 => ?_)
    obtain rfl : 0 = v_11 := (ev_11.trans (by decide)).symm
    refine lv_istore_n (lv' := [(2, .int 0), (3, .int 0), (0, .ref ob), (1, .int 10)]) hx hb dX10_count_188 rfl hl (by decide) rfl (fun ls hl => ?_)
    refine lv_iinc (v := 1) (lv' := [(3, .int 1), (2, .int 0), (0, .ref ob), (1, .int 10)]) hx hb dX10_count_189 hl (k := 1) rfl (by decide) (by decide) rfl (fun ls hl => ?_)
    refine lv_goto (tgt := 166) hx hb dX10_count_192 (by decide) ?_
    refine lv_iload_n hx hb dX10_count_166 rfl (lv_at hl 0 rfl) ?_
    refine lv_iconst (v := 4) hx hb dX10_count_167 (by decide) ?_
    refine lv_icmp_ge (tgt := 195) hx hb dX10_count_168 (by decide) (fun c9 => absurd c9 (by decide)) (fun _ => ?_)
    refine lv_iload_n hx hb dX10_count_171 rfl (lv_at hl 1 rfl) ?_
    refine lv_aload_n hx hb dX10_count_172 rfl (lv_at hl 2 rfl) ?_
    refine va_get (D := G) (ci := 10) (v := .ref my) (C := RX10) (T := TX10) (N := 41) hx hb hw0 inA_wsX100 hown hK.1 hP 0 rfl rfl 37 (by decide) (hw0 _ m_157) (fun _ h9 => h9) rfl dX10_count_173 ?_
    refine lv_iload_n hx hb dX10_count_176 rfl (lv_at hl 0 rfl) ?_
    refine va_iald hx hb hK.1 hP 2 1 rfl rfl (vp_in_nI (n := 1) (N := 4) (by decide) (by decide)) dX10_count_177 ?_
    refine lv_topi (fun v_12 ev_12 => ?_)
    obtain rfl : (-1) = v_12 := (ev_12.trans (y1)).symm
    refine lv_iconst (v := (-1)) hx hb dX10_count_178 (by decide) ?_
    refine lv_icmp_ne (tgt := 186) hx hb dX10_count_179 (by decide) (fun c9 => absurd (by decide) c9) (fun _ => ?_)
    refine lv_iconst (v := 0) hx hb dX10_count_182 (by decide) ?_
    refine lv_goto (tgt := 187) hx hb dX10_count_183 (by decide) ?_
    refine lv_iadd hx hb dX10_count_187 ?_
    refine lv_topi (fun v_13 ev_13 => ?_)
    obtain rfl : 0 = v_13 := (ev_13.trans (by decide)).symm
    refine lv_istore_n (lv' := [(2, .int 0), (3, .int 1), (0, .ref ob), (1, .int 10)]) hx hb dX10_count_188 rfl hl (by decide) rfl (fun ls hl => ?_)
    refine lv_iinc (v := 2) (lv' := [(3, .int 2), (2, .int 0), (0, .ref ob), (1, .int 10)]) hx hb dX10_count_189 hl (k := 1) rfl (by decide) (by decide) rfl (fun ls hl => ?_)
    refine lv_goto (tgt := 166) hx hb dX10_count_192 (by decide) ?_
    refine lv_iload_n hx hb dX10_count_166 rfl (lv_at hl 0 rfl) ?_
    refine lv_iconst (v := 4) hx hb dX10_count_167 (by decide) ?_
    refine lv_icmp_ge (tgt := 195) hx hb dX10_count_168 (by decide) (fun c9 => absurd c9 (by decide)) (fun _ => ?_)
    refine lv_iload_n hx hb dX10_count_171 rfl (lv_at hl 1 rfl) ?_
    refine lv_aload_n hx hb dX10_count_172 rfl (lv_at hl 2 rfl) ?_
    refine va_get (D := G) (ci := 10) (v := .ref my) (C := RX10) (T := TX10) (N := 41) hx hb hw0 inA_wsX100 hown hK.1 hP 0 rfl rfl 37 (by decide) (hw0 _ m_157) (fun _ h9 => h9) rfl dX10_count_173 ?_
    refine lv_iload_n hx hb dX10_count_176 rfl (lv_at hl 0 rfl) ?_
    refine va_iald hx hb hK.1 hP 2 1 rfl rfl (vp_in_nI (n := 2) (N := 4) (by decide) (by decide)) dX10_count_177 ?_
    refine lv_topi (fun v_14 ev_14 => ?_)
    obtain rfl : (-1) = v_14 := (ev_14.trans (y2)).symm
    refine lv_iconst (v := (-1)) hx hb dX10_count_178 (by decide) ?_
    refine lv_icmp_ne (tgt := 186) hx hb dX10_count_179 (by decide) (fun c9 => absurd (by decide) c9) (fun _ => ?_)
    refine lv_iconst (v := 0) hx hb dX10_count_182 (by decide) ?_
    refine lv_goto (tgt := 187) hx hb dX10_count_183 (by decide) ?_
    refine lv_iadd hx hb dX10_count_187 ?_
    refine lv_topi (fun v_15 ev_15 => ?_)
    obtain rfl : 0 = v_15 := (ev_15.trans (by decide)).symm
    refine lv_istore_n (lv' := [(2, .int 0), (3, .int 2), (0, .ref ob), (1, .int 10)]) hx hb dX10_count_188 rfl hl (by decide) rfl (fun ls hl => ?_)
    refine lv_iinc (v := 3) (lv' := [(3, .int 3), (2, .int 0), (0, .ref ob), (1, .int 10)]) hx hb dX10_count_189 hl (k := 1) rfl (by decide) (by decide) rfl (fun ls hl => ?_)
    refine lv_goto (tgt := 166) hx hb dX10_count_192 (by decide) ?_
    refine lv_iload_n hx hb dX10_count_166 rfl (lv_at hl 0 rfl) ?_
    refine lv_iconst (v := 4) hx hb dX10_count_167 (by decide) ?_
    refine lv_icmp_ge (tgt := 195) hx hb dX10_count_168 (by decide) (fun c9 => absurd c9 (by decide)) (fun _ => ?_)
    refine lv_iload_n hx hb dX10_count_171 rfl (lv_at hl 1 rfl) ?_
    refine lv_aload_n hx hb dX10_count_172 rfl (lv_at hl 2 rfl) ?_
    refine va_get (D := G) (ci := 10) (v := .ref my) (C := RX10) (T := TX10) (N := 41) hx hb hw0 inA_wsX100 hown hK.1 hP 0 rfl rfl 37 (by decide) (hw0 _ m_157) (fun _ h9 => h9) rfl dX10_count_173 ?_
    refine lv_iload_n hx hb dX10_count_176 rfl (lv_at hl 0 rfl) ?_
    refine va_iald hx hb hK.1 hP 2 1 rfl rfl (vp_in_nI (n := 3) (N := 4) (by decide) (by decide)) dX10_count_177 ?_
    refine lv_topi (fun v_16 ev_16 => ?_)
    obtain rfl : (-1) = v_16 := (ev_16.trans (y3)).symm
    refine lv_iconst (v := (-1)) hx hb dX10_count_178 (by decide) ?_
    refine lv_icmp_ne (tgt := 186) hx hb dX10_count_179 (by decide) (fun c9 => absurd (by decide) c9) (fun _ => ?_)
    refine lv_iconst (v := 0) hx hb dX10_count_182 (by decide) ?_
    refine lv_goto (tgt := 187) hx hb dX10_count_183 (by decide) ?_
    refine lv_iadd hx hb dX10_count_187 ?_
    refine lv_topi (fun v_17 ev_17 => ?_)
    obtain rfl : 0 = v_17 := (ev_17.trans (by decide)).symm
    refine lv_istore_n (lv' := [(2, .int 0), (3, .int 3), (0, .ref ob), (1, .int 10)]) hx hb dX10_count_188 rfl hl (by decide) rfl (fun ls hl => ?_)
    refine lv_iinc (v := 4) (lv' := [(3, .int 4), (2, .int 0), (0, .ref ob), (1, .int 10)]) hx hb dX10_count_189 hl (k := 1) rfl (by decide) (by decide) rfl (fun ls hl => ?_)
    refine lv_goto (tgt := 166) hx hb dX10_count_192 (by decide) ?_
    refine lv_iload_n hx hb dX10_count_166 rfl (lv_at hl 0 rfl) ?_
    refine lv_iconst (v := 4) hx hb dX10_count_167 (by decide) ?_
    refine lv_icmp_ge (tgt := 195) hx hb dX10_count_168 (by decide) (fun _ => ?_) (fun c9 => absurd (by decide) c9)
    refine lv_iload_n hx hb dX10_count_195 rfl (lv_at hl 1 rfl) ?_
    refine W.widen (k := 0) (n := 0) (Nat.le_of_ble_eq_true rfl) (Nat.le_of_ble_eq_true rfl) ?_
    exact W.iret (v := 0) hx hb hr (fun t ht hW => ⟨⟨0, _, rfl, (by first | rfl | decide | (simp only [sp_count]; (repeat' split) <;> first | rfl | (exfalso; omega))), by rw [ht]; exact hP, hD⟩, hS.F ht⟩) hS.2.2 dX10_count_196
  · have hl : lv_has ls 4 [(0, .ref ob), (1, .int a1)] := hl
    refine lv_iconst (v := 0) hx hb dX10_count_0 (by decide) ?_
    refine lv_istore_n (lv' := [(2, .int 0), (0, .ref ob), (1, .int a1)]) hx hb dX10_count_1 rfl hl (by decide) rfl (fun ls hl => ?_)
    refine lv_iload_n hx hb dX10_count_2 rfl (lv_at hl 2 rfl) ?_
    refine lv_tableOut (tgt := 197) hx hb dX10_count_3 (by omega) (by decide) ?_
    refine lv_iconst (v := (-1)) hx hb dX10_count_197 (by decide) ?_
    refine W.widen (k := 0) (n := 0) (Nat.le_of_ble_eq_true rfl) (Nat.le_of_ble_eq_true rfl) ?_
    exact W.iret (v := (-1)) hx hb hr (fun t ht hW => ⟨⟨(-1), _, rfl, (by first | rfl | decide | (simp only [sp_count]; (repeat' split) <;> first | rfl | (exfalso; omega))), by rw [ht]; exact hP, hD⟩, hS.F ht⟩) hS.2.2 dX10_count_198
