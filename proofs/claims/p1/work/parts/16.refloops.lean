set_option maxHeartbeats 4000000 in
set_option maxRecDepth 100000 in
theorem kX10_feed (l : Launch) (G : va_G) (y : Nat → ClassId) (sz : Nat) (ob : Nat) (a1 : Int32) (a2 : Int32) (a3 : Int32) (a4 : Int32) (a5 : Int32) (ob_0 : Value) (wo : Nat) (mi : Nat) (hm : Nat) (mt : Nat) (fv : Nat) (fr : Nat) (ob_15 : Value) (ob_16 : Value) (ob_17 : Value) (ob_18 : Value) (ob_19 : Value) (ob_20 : Value) (ob_21 : Value) (ob_22 : Value) (ob_23 : Value) (ob_24 : Value) (ob_25 : Value) (ob_26 : Value) (ob_27 : Value) (ob_28 : Value) (ob_29 : Value) (ob_30 : Value) (ob_31 : Value) (ob_32 : Value) (ob_33 : Value) (ob_34 : Value) (cd : Nat) (ob_36 : Value) (my : Nat) (wi : Nat) (nb : Nat) (mv : Nat) (f5 : Nat → Int32) (ft : Nat → Int32)  : Met l yX10_feed (Cond.code yX10_feed cX10_feed 7 (some .int) :: wAll) ({ frames := 0, cells := 0, slots := 0, locals := 0 }) (va_Pc [.ref ob, .int a1, .int a2, .int a3, .int a4, .int a5] (kp G y sz [(ob, .inr (10, [ob_0, .ref wo, .ref mi, .ref hm, .ref mt, .int 0, .ref fv, .int 0, .int 0, .int 0, .int 0, .int 0, .int 0, .int (-1), .ref fr, ob_15, ob_16, ob_17, ob_18, ob_19, ob_20, ob_21, ob_22, ob_23, ob_24, ob_25, ob_26, ob_27, ob_28, ob_29, ob_30, ob_31, ob_32, ob_33, ob_34, .ref cd, ob_36, .ref my, .ref wi, .ref nb, .ref mv])), (fv, .inl (y 1, 5, .inl f5)), (mt, .inl (y 0, 1400, .inl ft))])) (va_Qi (fun (r : Int32) (_ : va_W) => r = 20) (kq G (va_A [(ob, .inr (10, [ob_0, .ref wo, .ref mi, .ref hm, .ref mt, .int 0, .ref fv, .int 0, .int 0, .int 0, .int 0, .int 0, .int 0, .int (-1), .ref fr, ob_15, ob_16, ob_17, ob_18, ob_19, ob_20, ob_21, ob_22, ob_23, ob_24, ob_25, ob_26, ob_27, ob_28, ob_29, ob_30, ob_31, ob_32, ob_33, ob_34, .ref cd, ob_36, .ref my, .ref wi, .ref nb, .ref mv])), (fv, .inl (y 1, 5, .inl f5)), (mt, .inl (y 0, 1400, .inl ft))] sz)) (va_A [(ob, .inr (10, [ob_0, .ref wo, .ref mi, .ref hm, .ref mt, .int 0, .ref fv, .int 0, .int 0, .int 0, .int 0, .int 0, .int 0, .int (-1), .ref fr, ob_15, ob_16, ob_17, ob_18, ob_19, ob_20, ob_21, ob_22, ob_23, ob_24, ob_25, ob_26, ob_27, ob_28, ob_29, ob_30, ob_31, ob_32, ob_33, ob_34, .ref cd, ob_36, .ref my, .ref wi, .ref nb, .ref mv])), (fv, .inl (y 1, 5, .inl f5)), (mt, .inl (y 0, 1400, .inl ft))] sz)) 0 0 (va_A [(ob, .inr (10, [ob_0, .ref wo, .ref mi, .ref hm, .ref mt, .int 0, .ref fv, .int 0, .int 0, .int 0, .int 0, .int 0, .int 0, .int (-1), .ref fr, ob_15, ob_16, ob_17, ob_18, ob_19, ob_20, ob_21, ob_22, ob_23, ob_24, ob_25, ob_26, ob_27, ob_28, ob_29, ob_30, ob_31, ob_32, ob_33, ob_34, .ref cd, ob_36, .ref my, .ref wi, .ref nb, .ref mv])), (fv, .inl (y 1, 5, .inl f5)), (mt, .inl (y 0, 1400, .inl ft))] sz) := by
  refine Met.ofW (cc := cX10_feed) (maxL := 7) (ret := (some .int)) (by decide) rfl ?_
  intro p e s m args below meth c s₁ B hml hv
  obtain ⟨rfl, hsz, hP, hK, hD0⟩ := hv
  have hx := B.exec
  have hb := B.bytes
  have hr := B.returns
  have hw0 : ∀ w ∈ wAll, w.before _ s = true := fun w h => atoms_spec (ws := Cond.code yX10_feed cX10_feed 7 (some .int) :: wAll) B.pre w (List.mem_cons_of_mem _ h)
  have hown : s.vm.findClass RX10 = some m.cls := findClass_of_methodNamed B.named
  have hlocks := B.notSynchronized
  subst hsz
  have hD := hD0.self (sz := s.heap.size)
  generalize hAe : va_A [(ob, .inr (10, [ob_0, .ref wo, .ref mi, .ref hm, .ref mt, .int 0, .ref fv, .int 0, .int 0, .int 0, .int 0, .int 0, .int 0, .int (-1), .ref fr, ob_15, ob_16, ob_17, ob_18, ob_19, ob_20, ob_21, ob_22, ob_23, ob_24, ob_25, ob_26, ob_27, ob_28, ob_29, ob_30, ob_31, ob_32, ob_33, ob_34, .ref cd, ob_36, .ref my, .ref wi, .ref nb, .ref mv])), (fv, .inl (y 1, 5, .inl f5)), (mt, .inl (y 0, 1400, .inl ft))] s.heap.size = A at hD ⊢
  have hA : ∀ q : Nat, s.heap.size ≤ q → A q := fun q h => by rw [← hAe]; exact Or.inr h
  have hS : va_S A s.heap s.heap [] := va_S.rf
  have hP : va_P G vwCl [(ob, .inr (10, [ob_0, .ref wo, .ref mi, .ref hm, .ref mt, .int 0, .ref fv, .int 0, .int 0, .int 0, .int 0, .int 0, .int 0, .int (-1), .ref fr, ob_15, ob_16, ob_17, ob_18, ob_19, ob_20, ob_21, ob_22, ob_23, ob_24, ob_25, ob_26, ob_27, ob_28, ob_29, ob_30, ob_31, ob_32, ob_33, ob_34, .ref cd, ob_36, .ref my, .ref wi, .ref nb, .ref mv])), (fv, .inl (y 1, 5, .inl f5)), (mt, .inl (y 0, 1400, .inl ft))] s.heap := hP
  have hl := lv_entry ([.ref ob, .int a1, .int a2, .int a3, .int a4, .int a5]) (n := 7) (Nat.le_of_ble_eq_true rfl)
  rw [lg_entry_eq]
  generalize (lg_sl ([.ref ob, .int a1, .int a2, .int a3, .int a4, .int a5]) ++ List.replicate (7 - (lg_sl ([.ref ob, .int a1, .int a2, .int a3, .int a4, .int a5])).length) Slot.unset).toArray = ls at hl ⊢
  have hl : lv_has ls 7 [(0, .ref ob), (1, .int a1), (2, .int a2), (3, .int a3), (4, .int a4), (5, .int a5)] := hl
  refine lv_aload_n hx hb dX10_feed_0 rfl (lv_at hl 0 rfl) ?_
  refine va_get (D := G) (ci := 10) (v := .int 0) (C := RX10) (T := TX10) (N := 41) hx hb hw0 inA_wsX100 hown hK.1 hP 0 rfl rfl 5 (by decide) (hw0 _ m_393) (fun _ h9 => h9) rfl dX10_feed_1 ?_
  refine lv_bipush (v := 20) hx hb dX10_feed_4 (by decide) ?_
  refine lv_iadd hx hb dX10_feed_6 ?_
  refine lv_topi (fun v_1 ev_1 => ?_)
  obtain rfl : 20 = v_1 := (ev_1.trans (by decide)).symm
  refine lv_sipush (v := 1400) hx hb dX10_feed_7 (by decide) ?_
  refine lv_icmp_le (tgt := 15) hx hb dX10_feed_10 (by decide) (fun _ => ?_) (fun c9 => absurd (by decide) c9)
  refine lv_aload_n hx hb dX10_feed_15 rfl (lv_at hl 0 rfl) ?_
  refine va_get (D := G) (ci := 10) (v := .ref fv) (C := RX10) (T := TX10) (N := 41) hx hb hw0 inA_wsX100 hown hK.1 hP 0 rfl rfl 6 (by decide) (hw0 _ m_137) (fun _ h9 => h9) rfl dX10_feed_16 ?_
  refine lv_iconst (v := 0) hx hb dX10_feed_19 (by decide) ?_
  refine lv_iload_n hx hb dX10_feed_20 rfl (lv_at hl 1 rfl) ?_
  refine va_iast hx hb hK.1 hP hD hS 1 1 rfl rfl (vp_in_nI (n := 0) (N := 5) (by decide) (by decide)) dX10_feed_21 (fun H locs hP hD hS => ?_)
  generalize (upd f5 (0 : Int32).toNatClampNeg a1) = f_2 at hP hD
  have hP : va_P G vwCl [(ob, .inr (10, [ob_0, .ref wo, .ref mi, .ref hm, .ref mt, .int 0, .ref fv, .int 0, .int 0, .int 0, .int 0, .int 0, .int 0, .int (-1), .ref fr, ob_15, ob_16, ob_17, ob_18, ob_19, ob_20, ob_21, ob_22, ob_23, ob_24, ob_25, ob_26, ob_27, ob_28, ob_29, ob_30, ob_31, ob_32, ob_33, ob_34, .ref cd, ob_36, .ref my, .ref wi, .ref nb, .ref mv])), (fv, .inl (y 1, 5, .inl f_2)), (mt, .inl (y 0, 1400, .inl ft))] H := hP
  have hD : va_D A [(ob, .inr (10, [ob_0, .ref wo, .ref mi, .ref hm, .ref mt, .int 0, .ref fv, .int 0, .int 0, .int 0, .int 0, .int 0, .int 0, .int (-1), .ref fr, ob_15, ob_16, ob_17, ob_18, ob_19, ob_20, ob_21, ob_22, ob_23, ob_24, ob_25, ob_26, ob_27, ob_28, ob_29, ob_30, ob_31, ob_32, ob_33, ob_34, .ref cd, ob_36, .ref my, .ref wi, .ref nb, .ref mv])), (fv, .inl (y 1, 5, .inl f_2)), (mt, .inl (y 0, 1400, .inl ft))] := hD
  refine lv_aload_n hx hb dX10_feed_22 rfl (lv_at hl 0 rfl) ?_
  refine va_get (D := G) (ci := 10) (v := .ref fv) (C := RX10) (T := TX10) (N := 41) hx hb hw0 inA_wsX100 hown hK.1 hP 0 rfl rfl 6 (by decide) (hw0 _ m_137) (fun _ h9 => h9) rfl dX10_feed_23 ?_
  refine lv_iconst (v := 1) hx hb dX10_feed_26 (by decide) ?_
  refine lv_iload_n hx hb dX10_feed_27 rfl (lv_at hl 2 rfl) ?_
  refine va_iast hx hb hK.1 hP hD hS 1 1 rfl rfl (vp_in_nI (n := 1) (N := 5) (by decide) (by decide)) dX10_feed_28 (fun H locs hP hD hS => ?_)
  generalize (upd f_2 (1 : Int32).toNatClampNeg a2) = f_3 at hP hD
  have hP : va_P G vwCl [(ob, .inr (10, [ob_0, .ref wo, .ref mi, .ref hm, .ref mt, .int 0, .ref fv, .int 0, .int 0, .int 0, .int 0, .int 0, .int 0, .int (-1), .ref fr, ob_15, ob_16, ob_17, ob_18, ob_19, ob_20, ob_21, ob_22, ob_23, ob_24, ob_25, ob_26, ob_27, ob_28, ob_29, ob_30, ob_31, ob_32, ob_33, ob_34, .ref cd, ob_36, .ref my, .ref wi, .ref nb, .ref mv])), (fv, .inl (y 1, 5, .inl f_3)), (mt, .inl (y 0, 1400, .inl ft))] H := hP
  have hD : va_D A [(ob, .inr (10, [ob_0, .ref wo, .ref mi, .ref hm, .ref mt, .int 0, .ref fv, .int 0, .int 0, .int 0, .int 0, .int 0, .int 0, .int (-1), .ref fr, ob_15, ob_16, ob_17, ob_18, ob_19, ob_20, ob_21, ob_22, ob_23, ob_24, ob_25, ob_26, ob_27, ob_28, ob_29, ob_30, ob_31, ob_32, ob_33, ob_34, .ref cd, ob_36, .ref my, .ref wi, .ref nb, .ref mv])), (fv, .inl (y 1, 5, .inl f_3)), (mt, .inl (y 0, 1400, .inl ft))] := hD
  refine lv_aload_n hx hb dX10_feed_29 rfl (lv_at hl 0 rfl) ?_
  refine va_get (D := G) (ci := 10) (v := .ref fv) (C := RX10) (T := TX10) (N := 41) hx hb hw0 inA_wsX100 hown hK.1 hP 0 rfl rfl 6 (by decide) (hw0 _ m_137) (fun _ h9 => h9) rfl dX10_feed_30 ?_
  refine lv_iconst (v := 2) hx hb dX10_feed_33 (by decide) ?_
  refine lv_iload_n hx hb dX10_feed_34 rfl (lv_at hl 3 rfl) ?_
  refine va_iast hx hb hK.1 hP hD hS 1 1 rfl rfl (vp_in_nI (n := 2) (N := 5) (by decide) (by decide)) dX10_feed_35 (fun H locs hP hD hS => ?_)
  generalize (upd f_3 (2 : Int32).toNatClampNeg a3) = f_4 at hP hD
  have hP : va_P G vwCl [(ob, .inr (10, [ob_0, .ref wo, .ref mi, .ref hm, .ref mt, .int 0, .ref fv, .int 0, .int 0, .int 0, .int 0, .int 0, .int 0, .int (-1), .ref fr, ob_15, ob_16, ob_17, ob_18, ob_19, ob_20, ob_21, ob_22, ob_23, ob_24, ob_25, ob_26, ob_27, ob_28, ob_29, ob_30, ob_31, ob_32, ob_33, ob_34, .ref cd, ob_36, .ref my, .ref wi, .ref nb, .ref mv])), (fv, .inl (y 1, 5, .inl f_4)), (mt, .inl (y 0, 1400, .inl ft))] H := hP
  have hD : va_D A [(ob, .inr (10, [ob_0, .ref wo, .ref mi, .ref hm, .ref mt, .int 0, .ref fv, .int 0, .int 0, .int 0, .int 0, .int 0, .int 0, .int (-1), .ref fr, ob_15, ob_16, ob_17, ob_18, ob_19, ob_20, ob_21, ob_22, ob_23, ob_24, ob_25, ob_26, ob_27, ob_28, ob_29, ob_30, ob_31, ob_32, ob_33, ob_34, .ref cd, ob_36, .ref my, .ref wi, .ref nb, .ref mv])), (fv, .inl (y 1, 5, .inl f_4)), (mt, .inl (y 0, 1400, .inl ft))] := hD
  refine lv_aload_n hx hb dX10_feed_36 rfl (lv_at hl 0 rfl) ?_
  refine va_get (D := G) (ci := 10) (v := .ref fv) (C := RX10) (T := TX10) (N := 41) hx hb hw0 inA_wsX100 hown hK.1 hP 0 rfl rfl 6 (by decide) (hw0 _ m_137) (fun _ h9 => h9) rfl dX10_feed_37 ?_
  refine lv_iconst (v := 3) hx hb dX10_feed_40 (by decide) ?_
  refine lv_iload hx hb dX10_feed_41 (lv_at hl 4 rfl) ?_
  refine va_iast hx hb hK.1 hP hD hS 1 1 rfl rfl (vp_in_nI (n := 3) (N := 5) (by decide) (by decide)) dX10_feed_43 (fun H locs hP hD hS => ?_)
  generalize (upd f_4 (3 : Int32).toNatClampNeg a4) = f_5 at hP hD
  have hP : va_P G vwCl [(ob, .inr (10, [ob_0, .ref wo, .ref mi, .ref hm, .ref mt, .int 0, .ref fv, .int 0, .int 0, .int 0, .int 0, .int 0, .int 0, .int (-1), .ref fr, ob_15, ob_16, ob_17, ob_18, ob_19, ob_20, ob_21, ob_22, ob_23, ob_24, ob_25, ob_26, ob_27, ob_28, ob_29, ob_30, ob_31, ob_32, ob_33, ob_34, .ref cd, ob_36, .ref my, .ref wi, .ref nb, .ref mv])), (fv, .inl (y 1, 5, .inl f_5)), (mt, .inl (y 0, 1400, .inl ft))] H := hP
  have hD : va_D A [(ob, .inr (10, [ob_0, .ref wo, .ref mi, .ref hm, .ref mt, .int 0, .ref fv, .int 0, .int 0, .int 0, .int 0, .int 0, .int 0, .int (-1), .ref fr, ob_15, ob_16, ob_17, ob_18, ob_19, ob_20, ob_21, ob_22, ob_23, ob_24, ob_25, ob_26, ob_27, ob_28, ob_29, ob_30, ob_31, ob_32, ob_33, ob_34, .ref cd, ob_36, .ref my, .ref wi, .ref nb, .ref mv])), (fv, .inl (y 1, 5, .inl f_5)), (mt, .inl (y 0, 1400, .inl ft))] := hD
  refine lv_aload_n hx hb dX10_feed_44 rfl (lv_at hl 0 rfl) ?_
  refine va_get (D := G) (ci := 10) (v := .ref fv) (C := RX10) (T := TX10) (N := 41) hx hb hw0 inA_wsX100 hown hK.1 hP 0 rfl rfl 6 (by decide) (hw0 _ m_137) (fun _ h9 => h9) rfl dX10_feed_45 ?_
  refine lv_iconst (v := 4) hx hb dX10_feed_48 (by decide) ?_
  refine lv_iload hx hb dX10_feed_49 (lv_at hl 5 rfl) ?_
  refine va_iast hx hb hK.1 hP hD hS 1 1 rfl rfl (vp_in_nI (n := 4) (N := 5) (by decide) (by decide)) dX10_feed_51 (fun H locs hP hD hS => ?_)
  generalize (upd f_5 (4 : Int32).toNatClampNeg a5) = f_6 at hP hD
  have hP : va_P G vwCl [(ob, .inr (10, [ob_0, .ref wo, .ref mi, .ref hm, .ref mt, .int 0, .ref fv, .int 0, .int 0, .int 0, .int 0, .int 0, .int 0, .int (-1), .ref fr, ob_15, ob_16, ob_17, ob_18, ob_19, ob_20, ob_21, ob_22, ob_23, ob_24, ob_25, ob_26, ob_27, ob_28, ob_29, ob_30, ob_31, ob_32, ob_33, ob_34, .ref cd, ob_36, .ref my, .ref wi, .ref nb, .ref mv])), (fv, .inl (y 1, 5, .inl f_6)), (mt, .inl (y 0, 1400, .inl ft))] H := hP
  have hD : va_D A [(ob, .inr (10, [ob_0, .ref wo, .ref mi, .ref hm, .ref mt, .int 0, .ref fv, .int 0, .int 0, .int 0, .int 0, .int 0, .int 0, .int (-1), .ref fr, ob_15, ob_16, ob_17, ob_18, ob_19, ob_20, ob_21, ob_22, ob_23, ob_24, ob_25, ob_26, ob_27, ob_28, ob_29, ob_30, ob_31, ob_32, ob_33, ob_34, .ref cd, ob_36, .ref my, .ref wi, .ref nb, .ref mv])), (fv, .inl (y 1, 5, .inl f_6)), (mt, .inl (y 0, 1400, .inl ft))] := hD
  refine lv_iconst (v := 0) hx hb dX10_feed_52 (by decide) ?_
  refine lv_istore (lv' := [(6, .int 0), (0, .ref ob), (1, .int a1), (2, .int a2), (3, .int a3), (4, .int a4), (5, .int a5)]) hx hb dX10_feed_53 hl (by decide) rfl (fun ls hl => ?_)
  refine loopW (σ := (Nat → Int32)) (fun n x H locs ls => ∃ i_8 : Nat, i_8 + n = 20 ∧ va_P G vwCl [(ob, .inr (10, [ob_0, .ref wo, .ref mi, .ref hm, .ref mt, .int 0, .ref fv, .int 0, .int 0, .int 0, .int 0, .int 0, .int 0, .int (-1), .ref fr, ob_15, ob_16, ob_17, ob_18, ob_19, ob_20, ob_21, ob_22, ob_23, ob_24, ob_25, ob_26, ob_27, ob_28, ob_29, ob_30, ob_31, ob_32, ob_33, ob_34, .ref cd, ob_36, .ref my, .ref wi, .ref nb, .ref mv])), (fv, .inl (y 1, 5, .inl f_6)), (mt, .inl (y 0, 1400, .inl (x)))] H ∧ va_D A [(ob, .inr (10, [ob_0, .ref wo, .ref mi, .ref hm, .ref mt, .int 0, .ref fv, .int 0, .int 0, .int 0, .int 0, .int 0, .int 0, .int (-1), .ref fr, ob_15, ob_16, ob_17, ob_18, ob_19, ob_20, ob_21, ob_22, ob_23, ob_24, ob_25, ob_26, ob_27, ob_28, ob_29, ob_30, ob_31, ob_32, ob_33, ob_34, .ref cd, ob_36, .ref my, .ref wi, .ref nb, .ref mv])), (fv, .inl (y 1, 5, .inl f_6)), (mt, .inl (y 0, 1400, .inl (x)))] ∧ va_S A s.heap H locs ∧ lv_has ls 7 [(6, .int (nI (i_8))), (0, .ref ob), (1, .int a1), (2, .int a2), (3, .int a3), (4, .int a4), (5, .int a5)]) ?_ ?_ 20 (ft) ⟨0, by omega, hP, hD, hS, lv_sub hl [0, 1, 2, 3, 4, 5, 6] rfl⟩
  · rintro f_9 H locs ls ⟨i_11, hi9, hP, hD, hS, hl⟩
    obtain rfl : i_11 = 20 := by omega
    have hP : va_P G vwCl [(ob, .inr (10, [ob_0, .ref wo, .ref mi, .ref hm, .ref mt, .int 0, .ref fv, .int 0, .int 0, .int 0, .int 0, .int 0, .int 0, .int (-1), .ref fr, ob_15, ob_16, ob_17, ob_18, ob_19, ob_20, ob_21, ob_22, ob_23, ob_24, ob_25, ob_26, ob_27, ob_28, ob_29, ob_30, ob_31, ob_32, ob_33, ob_34, .ref cd, ob_36, .ref my, .ref wi, .ref nb, .ref mv])), (fv, .inl (y 1, 5, .inl f_6)), (mt, .inl (y 0, 1400, .inl f_9))] H := hP
    have hD : va_D A [(ob, .inr (10, [ob_0, .ref wo, .ref mi, .ref hm, .ref mt, .int 0, .ref fv, .int 0, .int 0, .int 0, .int 0, .int 0, .int 0, .int (-1), .ref fr, ob_15, ob_16, ob_17, ob_18, ob_19, ob_20, ob_21, ob_22, ob_23, ob_24, ob_25, ob_26, ob_27, ob_28, ob_29, ob_30, ob_31, ob_32, ob_33, ob_34, .ref cd, ob_36, .ref my, .ref wi, .ref nb, .ref mv])), (fv, .inl (y 1, 5, .inl f_6)), (mt, .inl (y 0, 1400, .inl f_9))] := hD
    have hl : lv_has ls 7 [(6, .int 20), (0, .ref ob), (1, .int a1), (2, .int a2), (3, .int a3), (4, .int a4), (5, .int a5)] := hl
    refine lv_iload hx hb dX10_feed_55 (lv_at hl 0 rfl) ?_
    refine lv_bipush (v := 20) hx hb dX10_feed_57 (by decide) ?_
    refine lv_icmp_ge (tgt := 101) hx hb dX10_feed_59 (by decide) (fun _ => ?_) (fun c9 => absurd (by decide) c9)
    refine lv_aload_n hx hb dX10_feed_101 rfl (lv_at hl 1 rfl) ?_
    refine lv_dup hx hb dX10_feed_102 rfl ?_
    refine va_get (D := G) (ci := 10) (v := .int 0) (C := RX10) (T := TX10) (N := 41) hx hb hw0 inA_wsX100 hown hK.1 hP 0 rfl rfl 5 (by decide) (hw0 _ m_393) (fun _ h9 => h9) rfl dX10_feed_103 ?_
    refine lv_bipush (v := 20) hx hb dX10_feed_106 (by decide) ?_
    refine lv_iadd hx hb dX10_feed_108 ?_
    refine lv_topi (fun v_13 ev_13 => ?_)
    obtain rfl : 20 = v_13 := (ev_13.trans (by decide)).symm
    refine va_put (D := G) (ci := 10) (v := .int 20) (ty := .int) (C := RX10) (T := TX10) (N := 41) hx hb hw0 inA_wsX100 tyX10 tyX10_ok nmX10 hown hK.1 hP hD hS 0 rfl rfl 5 (by decide) (hw0 _ m_393) (fun _ h9 => h9) rfl (by decide +kernel) rfl rfl (Nat.le_of_ble_eq_true rfl) dX10_feed_109 (fun H locs hP hD hS => ?_)
    have hP : va_P G vwCl [(ob, .inr (10, [ob_0, .ref wo, .ref mi, .ref hm, .ref mt, .int 20, .ref fv, .int 0, .int 0, .int 0, .int 0, .int 0, .int 0, .int (-1), .ref fr, ob_15, ob_16, ob_17, ob_18, ob_19, ob_20, ob_21, ob_22, ob_23, ob_24, ob_25, ob_26, ob_27, ob_28, ob_29, ob_30, ob_31, ob_32, ob_33, ob_34, .ref cd, ob_36, .ref my, .ref wi, .ref nb, .ref mv])), (fv, .inl (y 1, 5, .inl f_6)), (mt, .inl (y 0, 1400, .inl f_9))] H := hP
    have hD : va_D A [(ob, .inr (10, [ob_0, .ref wo, .ref mi, .ref hm, .ref mt, .int 20, .ref fv, .int 0, .int 0, .int 0, .int 0, .int 0, .int 0, .int (-1), .ref fr, ob_15, ob_16, ob_17, ob_18, ob_19, ob_20, ob_21, ob_22, ob_23, ob_24, ob_25, ob_26, ob_27, ob_28, ob_29, ob_30, ob_31, ob_32, ob_33, ob_34, .ref cd, ob_36, .ref my, .ref wi, .ref nb, .ref mv])), (fv, .inl (y 1, 5, .inl f_6)), (mt, .inl (y 0, 1400, .inl f_9))] := hD
    refine lv_aload_n hx hb dX10_feed_112 rfl (lv_at hl 1 rfl) ?_
    refine va_get (D := G) (ci := 10) (v := .int 20) (C := RX10) (T := TX10) (N := 41) hx hb hw0 inA_wsX100 hown hK.1 hP 0 rfl rfl 5 (by decide) (hw0 _ m_393) (fun _ h9 => h9) rfl dX10_feed_113 ?_
    refine W.widen (k := 0) (n := 0) (Nat.le_of_ble_eq_true rfl) (Nat.le_of_ble_eq_true rfl) ?_
    exact W.iret (v := 20) hx hb hr (fun t ht hW => ⟨⟨20, _, rfl, rfl, by rw [ht]; exact hP, hD⟩, hS.F ht⟩) hS.2.2 dX10_feed_116
  · rintro n_15 ih_17 f_14 H locs ls ⟨i_16, hi_i_16, hP, hD, hS, hl⟩
    have hb_i_16 : i_16 < 20 := by omega
    have hP : va_P G vwCl [(ob, .inr (10, [ob_0, .ref wo, .ref mi, .ref hm, .ref mt, .int 0, .ref fv, .int 0, .int 0, .int 0, .int 0, .int 0, .int 0, .int (-1), .ref fr, ob_15, ob_16, ob_17, ob_18, ob_19, ob_20, ob_21, ob_22, ob_23, ob_24, ob_25, ob_26, ob_27, ob_28, ob_29, ob_30, ob_31, ob_32, ob_33, ob_34, .ref cd, ob_36, .ref my, .ref wi, .ref nb, .ref mv])), (fv, .inl (y 1, 5, .inl f_6)), (mt, .inl (y 0, 1400, .inl f_14))] H := hP
    have hD : va_D A [(ob, .inr (10, [ob_0, .ref wo, .ref mi, .ref hm, .ref mt, .int 0, .ref fv, .int 0, .int 0, .int 0, .int 0, .int 0, .int 0, .int (-1), .ref fr, ob_15, ob_16, ob_17, ob_18, ob_19, ob_20, ob_21, ob_22, ob_23, ob_24, ob_25, ob_26, ob_27, ob_28, ob_29, ob_30, ob_31, ob_32, ob_33, ob_34, .ref cd, ob_36, .ref my, .ref wi, .ref nb, .ref mv])), (fv, .inl (y 1, 5, .inl f_6)), (mt, .inl (y 0, 1400, .inl f_14))] := hD
    have hl : lv_has ls 7 [(6, .int (nI (i_16))), (0, .ref ob), (1, .int a1), (2, .int a2), (3, .int a3), (4, .int a4), (5, .int a5)] := hl
    refine lv_iload hx hb dX10_feed_55 (lv_at hl 0 rfl) ?_
    refine lv_bipush (v := 20) hx hb dX10_feed_57 (by decide) ?_
    refine lv_icmp_ge (tgt := 101) hx hb dX10_feed_59 (by decide) (fun c9 => absurd c9 (nI_ge (a := i_16) (b := 20) (by omega) (by omega))) (fun _ => ?_)
    refine lv_aload_n hx hb dX10_feed_62 rfl (lv_at hl 1 rfl) ?_
    refine va_get (D := G) (ci := 10) (v := .ref mt) (C := RX10) (T := TX10) (N := 41) hx hb hw0 inA_wsX100 hown hK.1 hP 0 rfl rfl 4 (by decide) (hw0 _ m_136) (fun _ h9 => h9) rfl dX10_feed_63 ?_
    refine lv_aload_n hx hb dX10_feed_66 rfl (lv_at hl 1 rfl) ?_
    refine va_get (D := G) (ci := 10) (v := .int 0) (C := RX10) (T := TX10) (N := 41) hx hb hw0 inA_wsX100 hown hK.1 hP 0 rfl rfl 5 (by decide) (hw0 _ m_393) (fun _ h9 => h9) rfl dX10_feed_67 ?_
    refine lv_iload hx hb dX10_feed_70 (lv_at hl 0 rfl) ?_
    refine lv_iadd hx hb dX10_feed_72 ?_
    refine lv_topi (fun v_18 ev_18 => ?_)
    obtain rfl : (nI (0 + i_16)) = v_18 := (ev_18.trans (nI_add (0) (i_16))).symm
    refine lv_aload_n hx hb dX10_feed_73 rfl (lv_at hl 1 rfl) ?_
    refine va_get (D := G) (ci := 10) (v := .ref fv) (C := RX10) (T := TX10) (N := 41) hx hb hw0 inA_wsX100 hown hK.1 hP 0 rfl rfl 6 (by decide) (hw0 _ m_137) (fun _ h9 => h9) rfl dX10_feed_74 ?_
    refine lv_iload hx hb dX10_feed_77 (lv_at hl 0 rfl) ?_
    refine lv_iconst (v := 4) hx hb dX10_feed_79 (by decide) ?_
    refine lv_idiv hx hb dX10_feed_80 (by decide) ?_
    refine lv_topi (fun v_19 ev_19 => ?_)
    obtain rfl : (nI ((i_16) / 4)) = v_19 := (ev_19.trans (pk_div (a := i_16) (d := 4) (by omega) (by decide) (by decide))).symm
    refine va_iald hx hb hK.1 hP 1 1 rfl rfl (vp_in_nI (n := (i_16) / 4) (N := 5) (by omega) (by decide)) dX10_feed_81 ?_
    refine lv_topi (fun v_20 ev_20 => ?_)
    refine lv_bipush (v := 24) hx hb dX10_feed_82 (by decide) ?_
    refine lv_bipush (v := 8) hx hb dX10_feed_84 (by decide) ?_
    refine lv_iload hx hb dX10_feed_86 (lv_at hl 0 rfl) ?_
    refine lv_iconst (v := 4) hx hb dX10_feed_88 (by decide) ?_
    refine lv_irem hx hb dX10_feed_89 (by decide) ?_
    refine lv_topi (fun v_21 ev_21 => ?_)
    obtain rfl : (nI ((i_16) % 4)) = v_21 := (ev_21.trans (pk_rem (a := i_16) (d := 4) (by omega) (by decide) (by decide))).symm
    refine lv_imul hx hb dX10_feed_90 ?_
    refine lv_topi (fun v_22 ev_22 => ?_)
    obtain rfl : (nI ((8) * ((i_16) % 4))) = v_22 := (ev_22.trans (pk_mul (8) ((i_16) % 4))).symm
    refine lv_isub hx hb dX10_feed_91 ?_
    refine lv_topi (fun v_23 ev_23 => ?_)
    refine lv_ishr hx hb dX10_feed_92 ?_
    refine lv_topi (fun v_24 ev_24 => ?_)
    refine lv_i2b hx hb dX10_feed_93 rfl ?_
    refine lv_topi (fun v_25 ev_25 => ?_)
    refine va_bast hx hb hK.1 hP hD hS 2 0 rfl rfl (vp_in_nI (n := 0 + i_16) (N := 1400) (by omega) (by decide)) dX10_feed_94 (fun H locs hP hD hS => ?_)
    generalize (upd f_14 ((nI (0 + i_16)) : Int32).toNatClampNeg (vp_nar .byte v_25)) = f_26 at hP hD
    have hP : va_P G vwCl [(ob, .inr (10, [ob_0, .ref wo, .ref mi, .ref hm, .ref mt, .int 0, .ref fv, .int 0, .int 0, .int 0, .int 0, .int 0, .int 0, .int (-1), .ref fr, ob_15, ob_16, ob_17, ob_18, ob_19, ob_20, ob_21, ob_22, ob_23, ob_24, ob_25, ob_26, ob_27, ob_28, ob_29, ob_30, ob_31, ob_32, ob_33, ob_34, .ref cd, ob_36, .ref my, .ref wi, .ref nb, .ref mv])), (fv, .inl (y 1, 5, .inl f_6)), (mt, .inl (y 0, 1400, .inl f_26))] H := hP
    have hD : va_D A [(ob, .inr (10, [ob_0, .ref wo, .ref mi, .ref hm, .ref mt, .int 0, .ref fv, .int 0, .int 0, .int 0, .int 0, .int 0, .int 0, .int (-1), .ref fr, ob_15, ob_16, ob_17, ob_18, ob_19, ob_20, ob_21, ob_22, ob_23, ob_24, ob_25, ob_26, ob_27, ob_28, ob_29, ob_30, ob_31, ob_32, ob_33, ob_34, .ref cd, ob_36, .ref my, .ref wi, .ref nb, .ref mv])), (fv, .inl (y 1, 5, .inl f_6)), (mt, .inl (y 0, 1400, .inl f_26))] := hD
    refine lv_iinc (v := (nI (i_16 + 1))) (lv' := [(6, .int (nI (i_16 + 1))), (0, .ref ob), (1, .int a1), (2, .int a2), (3, .int a3), (4, .int a4), (5, .int a5)]) hx hb dX10_feed_95 hl (k := 0) rfl (by exact nI_1 _) (by decide) rfl (fun ls hl => ?_)
    refine lv_goto (tgt := 55) hx hb dX10_feed_98 (by decide) ?_
    exact ih_17 _ H locs ls ⟨i_16 + 1, by omega, hP, hD, hS, lv_sub hl [0, 1, 2, 3, 4, 5, 6] rfl⟩

set_option maxHeartbeats 4000000 in
set_option maxRecDepth 100000 in
theorem kX10_row (l : Launch) (G : va_G) (y : Nat → ClassId) (sz : Nat) (ob : Nat) (a1 : Int32) (a2 : Int32) (a3 : Int32) (ob_0 : Value) (wo : Nat) (mi : Nat) (hm : Nat) (mt : Nat) (fv : Nat) (fr : Nat) (ob_15 : Value) (ob_16 : Value) (ob_17 : Value) (ob_18 : Value) (ob_19 : Value) (ob_20 : Value) (ob_21 : Value) (ob_22 : Value) (ob_23 : Value) (ob_24 : Value) (ob_25 : Value) (ob_26 : Value) (ob_27 : Value) (ob_28 : Value) (ob_29 : Value) (ob_30 : Value) (ob_31 : Value) (ob_32 : Value) (ob_33 : Value) (ob_34 : Value) (cd : Nat) (ob_36 : Value) (my : Nat) (wi : Nat) (nb : Nat) (mv : Nat) (fy : Nat → Int32) (fi : Nat → Int32) (fn : Nat → Int64)  : Met l yX10_row (Cond.code yX10_row cX10_row 5 (some .int) :: wAll) ({ frames := 2, cells := 0, slots := 0, locals := 45 }) (va_Pc [.ref ob, .int a1, .int a2, .int a3] (kp G y sz [(ob, .inr (10, [ob_0, .ref wo, .ref mi, .ref hm, .ref mt, .int 0, .ref fv, .int 0, .int 0, .int 0, .int 0, .int 0, .int 0, .int (-1), .ref fr, ob_15, ob_16, ob_17, ob_18, ob_19, ob_20, ob_21, ob_22, ob_23, ob_24, ob_25, ob_26, ob_27, ob_28, ob_29, ob_30, ob_31, ob_32, ob_33, ob_34, .ref cd, ob_36, .ref my, .ref wi, .ref nb, .ref mv])), (my, .inl (y 1, 4, .inl fy)), (wi, .inl (y 1, 4, .inl fi)), (nb, .inl (y 2, 240, .inr (.inl fn)))])) (va_Qi (fun (r : Int32) (_ : va_W) => r = sp_row a1 a2 a3) (kq G (va_A [(ob, .inr (10, [ob_0, .ref wo, .ref mi, .ref hm, .ref mt, .int 0, .ref fv, .int 0, .int 0, .int 0, .int 0, .int 0, .int 0, .int (-1), .ref fr, ob_15, ob_16, ob_17, ob_18, ob_19, ob_20, ob_21, ob_22, ob_23, ob_24, ob_25, ob_26, ob_27, ob_28, ob_29, ob_30, ob_31, ob_32, ob_33, ob_34, .ref cd, ob_36, .ref my, .ref wi, .ref nb, .ref mv])), (my, .inl (y 1, 4, .inl fy)), (wi, .inl (y 1, 4, .inl fi)), (nb, .inl (y 2, 240, .inr (.inl fn)))] sz)) (va_A [(ob, .inr (10, [ob_0, .ref wo, .ref mi, .ref hm, .ref mt, .int 0, .ref fv, .int 0, .int 0, .int 0, .int 0, .int 0, .int 0, .int (-1), .ref fr, ob_15, ob_16, ob_17, ob_18, ob_19, ob_20, ob_21, ob_22, ob_23, ob_24, ob_25, ob_26, ob_27, ob_28, ob_29, ob_30, ob_31, ob_32, ob_33, ob_34, .ref cd, ob_36, .ref my, .ref wi, .ref nb, .ref mv])), (my, .inl (y 1, 4, .inl fy)), (wi, .inl (y 1, 4, .inl fi)), (nb, .inl (y 2, 240, .inr (.inl fn)))] sz)) 0 0 (va_A [(ob, .inr (10, [ob_0, .ref wo, .ref mi, .ref hm, .ref mt, .int 0, .ref fv, .int 0, .int 0, .int 0, .int 0, .int 0, .int 0, .int (-1), .ref fr, ob_15, ob_16, ob_17, ob_18, ob_19, ob_20, ob_21, ob_22, ob_23, ob_24, ob_25, ob_26, ob_27, ob_28, ob_29, ob_30, ob_31, ob_32, ob_33, ob_34, .ref cd, ob_36, .ref my, .ref wi, .ref nb, .ref mv])), (my, .inl (y 1, 4, .inl fy)), (wi, .inl (y 1, 4, .inl fi)), (nb, .inl (y 2, 240, .inr (.inl fn)))] sz) := by
  refine Met.ofW (cc := cX10_row) (maxL := 5) (ret := (some .int)) (by decide) rfl ?_
  intro p e s m args below meth c s₁ B hml hv
  obtain ⟨rfl, hsz, hP, hK, hD0⟩ := hv
  have hx := B.exec
  have hb := B.bytes
  have hr := B.returns
  have hw0 : ∀ w ∈ wAll, w.before _ s = true := fun w h => atoms_spec (ws := Cond.code yX10_row cX10_row 5 (some .int) :: wAll) B.pre w (List.mem_cons_of_mem _ h)
  have hown : s.vm.findClass RX10 = some m.cls := findClass_of_methodNamed B.named
  have hlocks := B.notSynchronized
  subst hsz
  have hD := hD0.self (sz := s.heap.size)
  generalize hAe : va_A [(ob, .inr (10, [ob_0, .ref wo, .ref mi, .ref hm, .ref mt, .int 0, .ref fv, .int 0, .int 0, .int 0, .int 0, .int 0, .int 0, .int (-1), .ref fr, ob_15, ob_16, ob_17, ob_18, ob_19, ob_20, ob_21, ob_22, ob_23, ob_24, ob_25, ob_26, ob_27, ob_28, ob_29, ob_30, ob_31, ob_32, ob_33, ob_34, .ref cd, ob_36, .ref my, .ref wi, .ref nb, .ref mv])), (my, .inl (y 1, 4, .inl fy)), (wi, .inl (y 1, 4, .inl fi)), (nb, .inl (y 2, 240, .inr (.inl fn)))] s.heap.size = A at hD ⊢
  have hA : ∀ q : Nat, s.heap.size ≤ q → A q := fun q h => by rw [← hAe]; exact Or.inr h
  have hS : va_S A s.heap s.heap [] := va_S.rf
  have hP : va_P G vwCl [(ob, .inr (10, [ob_0, .ref wo, .ref mi, .ref hm, .ref mt, .int 0, .ref fv, .int 0, .int 0, .int 0, .int 0, .int 0, .int 0, .int (-1), .ref fr, ob_15, ob_16, ob_17, ob_18, ob_19, ob_20, ob_21, ob_22, ob_23, ob_24, ob_25, ob_26, ob_27, ob_28, ob_29, ob_30, ob_31, ob_32, ob_33, ob_34, .ref cd, ob_36, .ref my, .ref wi, .ref nb, .ref mv])), (my, .inl (y 1, 4, .inl fy)), (wi, .inl (y 1, 4, .inl fi)), (nb, .inl (y 2, 240, .inr (.inl fn)))] s.heap := hP
  have hl := lv_entry ([.ref ob, .int a1, .int a2, .int a3]) (n := 5) (Nat.le_of_ble_eq_true rfl)
  rw [lg_entry_eq]
  generalize (lg_sl ([.ref ob, .int a1, .int a2, .int a3]) ++ List.replicate (5 - (lg_sl ([.ref ob, .int a1, .int a2, .int a3])).length) Slot.unset).toArray = ls at hl ⊢
  have hl : lv_has ls 5 [(0, .ref ob), (1, .int a1), (2, .int a2), (3, .int a3)] := hl
  rcases sl_cases a1 with rfl | rfl | rfl | rfl | t_a1
  · have hl : lv_has ls 5 [(0, .ref ob), (1, .int 0), (2, .int a2), (3, .int a3)] := hl
    refine lv_iload_n hx hb dX10_row_0 rfl (lv_at hl 1 rfl) ?_
    refine cSi (As := [.int 0]) (rest := []) ⟨hx, hb, hml, hown, hw0⟩ hA hK hP hD hS [] [0, 1, 2, 3] [] [(ob, .inr (10, [ob_0, .ref wo, .ref mi, .ref hm, .ref mt, .int 0, .ref fv, .int 0, .int 0, .int 0, .int 0, .int 0, .int 0, .int (-1), .ref fr, ob_15, ob_16, ob_17, ob_18, ob_19, ob_20, ob_21, ob_22, ob_23, ob_24, ob_25, ob_26, ob_27, ob_28, ob_29, ob_30, ob_31, ob_32, ob_33, ob_34, .ref cd, ob_36, .ref my, .ref wi, .ref nb, .ref mv])), (my, .inl (y 1, 4, .inl fy)), (wi, .inl (y 1, 4, .inl fi)), (nb, .inl (y 2, 240, .inr (.inl fn)))] rfl rfl (by decide) (by decide) (by decide) (kX10_isSlot l G y _ 0 ) ⟨(callB_of 1 hw0 (gA m_169) rfl rfl rfl (hw0 _ m_166) (hw0 _ m_378) (by decide +kernel) ⟨Nat.le_of_ble_eq_true rfl, Nat.le_of_ble_eq_true rfl⟩), (hw0 _ m_379)⟩ rfl hl.1 (Nat.le_of_ble_eq_true rfl) dX10_row_1 ⟨Nat.le_of_ble_eq_true rfl, Nat.le_of_ble_eq_true rfl⟩ (fun r_1 w_1 H locs hw_1 hP hD hS => ?_)
    rcases hw_1 with ⟨c_2, rfl, rfl⟩ | ⟨c_3, rfl, rfl⟩
    · skip
      have hP : va_P G vwCl [(ob, .inr (10, [ob_0, .ref wo, .ref mi, .ref hm, .ref mt, .int 0, .ref fv, .int 0, .int 0, .int 0, .int 0, .int 0, .int 0, .int (-1), .ref fr, ob_15, ob_16, ob_17, ob_18, ob_19, ob_20, ob_21, ob_22, ob_23, ob_24, ob_25, ob_26, ob_27, ob_28, ob_29, ob_30, ob_31, ob_32, ob_33, ob_34, .ref cd, ob_36, .ref my, .ref wi, .ref nb, .ref mv])), (my, .inl (y 1, 4, .inl fy)), (wi, .inl (y 1, 4, .inl fi)), (nb, .inl (y 2, 240, .inr (.inl fn)))] H := hP
      have hD : va_D A [(ob, .inr (10, [ob_0, .ref wo, .ref mi, .ref hm, .ref mt, .int 0, .ref fv, .int 0, .int 0, .int 0, .int 0, .int 0, .int 0, .int (-1), .ref fr, ob_15, ob_16, ob_17, ob_18, ob_19, ob_20, ob_21, ob_22, ob_23, ob_24, ob_25, ob_26, ob_27, ob_28, ob_29, ob_30, ob_31, ob_32, ob_33, ob_34, .ref cd, ob_36, .ref my, .ref wi, .ref nb, .ref mv])), (my, .inl (y 1, 4, .inl fy)), (wi, .inl (y 1, 4, .inl fi)), (nb, .inl (y 2, 240, .inr (.inl fn)))] := hD
      refine lv_if_eq (tgt := 25) hx hb dX10_row_4 (by decide) (fun c9 => absurd c9 (by decide)) (fun _ => ?_)
      refine lv_iload_n hx hb dX10_row_7 rfl (lv_at hl 2 rfl) ?_
      refine lv_i2l hx hb dX10_row_8 rfl ?_
      refine lv_lconst (v := 0) hx hb dX10_row_9 (by decide) ?_
      refine lv_ldc2 (own := RX10) (v := 3) hx hb hown (hw0 _ m_165) dX10_row_10 ?_
      refine cSi (As := [.long (a2).toInt64, .long 0, .long 3]) (rest := []) ⟨hx, hb, hml, hown, hw0⟩ hA hK hP hD hS [] [0, 1, 2, 3] [] [(ob, .inr (10, [ob_0, .ref wo, .ref mi, .ref hm, .ref mt, .int 0, .ref fv, .int 0, .int 0, .int 0, .int 0, .int 0, .int 0, .int (-1), .ref fr, ob_15, ob_16, ob_17, ob_18, ob_19, ob_20, ob_21, ob_22, ob_23, ob_24, ob_25, ob_26, ob_27, ob_28, ob_29, ob_30, ob_31, ob_32, ob_33, ob_34, .ref cd, ob_36, .ref my, .ref wi, .ref nb, .ref mv])), (my, .inl (y 1, 4, .inl fy)), (wi, .inl (y 1, 4, .inl fi)), (nb, .inl (y 2, 240, .inr (.inl fn)))] rfl rfl (by decide) (by decide) (by decide) (kX10_in l G y _ ((a2).toInt64) 0 3 ) ⟨(callB_of 3 hw0 (gA m_164) rfl rfl rfl (hw0 _ m_166) (hw0 _ m_167) (by decide +kernel) ⟨Nat.le_of_ble_eq_true rfl, Nat.le_of_ble_eq_true rfl⟩), (hw0 _ m_168)⟩ rfl hl.1 (Nat.le_of_ble_eq_true rfl) dX10_row_13 ⟨Nat.le_of_ble_eq_true rfl, Nat.le_of_ble_eq_true rfl⟩ (fun r_4 w_4 H locs hw_4 hP hD hS => ?_)
      rcases hw_4 with ⟨c_5, rfl, rfl⟩ | ⟨c_6, rfl, rfl⟩
      · skip
        have tc_5 := in_1 (x := a2) (a := 0) (b := 3) c_5 (by decide) (by decide)
        have hP : va_P G vwCl [(ob, .inr (10, [ob_0, .ref wo, .ref mi, .ref hm, .ref mt, .int 0, .ref fv, .int 0, .int 0, .int 0, .int 0, .int 0, .int 0, .int (-1), .ref fr, ob_15, ob_16, ob_17, ob_18, ob_19, ob_20, ob_21, ob_22, ob_23, ob_24, ob_25, ob_26, ob_27, ob_28, ob_29, ob_30, ob_31, ob_32, ob_33, ob_34, .ref cd, ob_36, .ref my, .ref wi, .ref nb, .ref mv])), (my, .inl (y 1, 4, .inl fy)), (wi, .inl (y 1, 4, .inl fi)), (nb, .inl (y 2, 240, .inr (.inl fn)))] H := hP
        have hD : va_D A [(ob, .inr (10, [ob_0, .ref wo, .ref mi, .ref hm, .ref mt, .int 0, .ref fv, .int 0, .int 0, .int 0, .int 0, .int 0, .int 0, .int (-1), .ref fr, ob_15, ob_16, ob_17, ob_18, ob_19, ob_20, ob_21, ob_22, ob_23, ob_24, ob_25, ob_26, ob_27, ob_28, ob_29, ob_30, ob_31, ob_32, ob_33, ob_34, .ref cd, ob_36, .ref my, .ref wi, .ref nb, .ref mv])), (my, .inl (y 1, 4, .inl fy)), (wi, .inl (y 1, 4, .inl fi)), (nb, .inl (y 2, 240, .inr (.inl fn)))] := hD
        refine lv_if_eq (tgt := 25) hx hb dX10_row_16 (by decide) (fun c9 => absurd c9 (by decide)) (fun _ => ?_)
        refine lv_iload_n hx hb dX10_row_19 rfl (lv_at hl 3 rfl) ?_
        refine lv_bipush (v := 60) hx hb dX10_row_20 (by decide) ?_
        refine lv_icmp_le (tgt := 28) hx hb dX10_row_22 (by decide) (fun c_7 => ?_) (fun c_7 => ?_)
        · skip
          have tc_7 : (a3.toInt : Int) ≤ 60 := il_le c_7 rfl (by decide)
          refine lv_iload_n hx hb dX10_row_28 rfl (lv_at hl 3 rfl) ?_
          refine lv_if_ge (tgt := 35) hx hb dX10_row_29 (by decide) (fun c_8 => ?_) (fun c_8 => ?_)
          · skip
            have tc_8 : (0 : Int) ≤ a3.toInt := il_le c_8 (by decide) rfl
            refine lv_aload_n hx hb dX10_row_35 rfl (lv_at hl 0 rfl) ?_
            refine va_get (D := G) (ci := 10) (v := .ref my) (C := RX10) (T := TX10) (N := 41) hx hb hw0 inA_wsX100 hown hK.1 hP 0 rfl rfl 37 (by decide) (hw0 _ m_157) (fun _ h9 => h9) rfl dX10_row_36 ?_
            refine lv_iload_n hx hb dX10_row_39 rfl (lv_at hl 1 rfl) ?_
            refine lv_iload_n hx hb dX10_row_40 rfl (lv_at hl 3 rfl) ?_
            refine va_iast hx hb hK.1 hP hD hS 1 1 rfl rfl (vp_in_nI (n := 0) (N := 4) (by decide) (by decide)) dX10_row_41 (fun H locs hP hD hS => ?_)
            generalize (upd fy (0 : Int32).toNatClampNeg a3) = f_9 at hP hD
            have hP : va_P G vwCl [(ob, .inr (10, [ob_0, .ref wo, .ref mi, .ref hm, .ref mt, .int 0, .ref fv, .int 0, .int 0, .int 0, .int 0, .int 0, .int 0, .int (-1), .ref fr, ob_15, ob_16, ob_17, ob_18, ob_19, ob_20, ob_21, ob_22, ob_23, ob_24, ob_25, ob_26, ob_27, ob_28, ob_29, ob_30, ob_31, ob_32, ob_33, ob_34, .ref cd, ob_36, .ref my, .ref wi, .ref nb, .ref mv])), (my, .inl (y 1, 4, .inl f_9)), (wi, .inl (y 1, 4, .inl fi)), (nb, .inl (y 2, 240, .inr (.inl fn)))] H := hP
            have hD : va_D A [(ob, .inr (10, [ob_0, .ref wo, .ref mi, .ref hm, .ref mt, .int 0, .ref fv, .int 0, .int 0, .int 0, .int 0, .int 0, .int 0, .int (-1), .ref fr, ob_15, ob_16, ob_17, ob_18, ob_19, ob_20, ob_21, ob_22, ob_23, ob_24, ob_25, ob_26, ob_27, ob_28, ob_29, ob_30, ob_31, ob_32, ob_33, ob_34, .ref cd, ob_36, .ref my, .ref wi, .ref nb, .ref mv])), (my, .inl (y 1, 4, .inl f_9)), (wi, .inl (y 1, 4, .inl fi)), (nb, .inl (y 2, 240, .inr (.inl fn)))] := hD
            refine lv_aload_n hx hb dX10_row_42 rfl (lv_at hl 0 rfl) ?_
            refine va_get (D := G) (ci := 10) (v := .ref wi) (C := RX10) (T := TX10) (N := 41) hx hb hw0 inA_wsX100 hown hK.1 hP 0 rfl rfl 38 (by decide) (hw0 _ m_158) (fun _ h9 => h9) rfl dX10_row_43 ?_
            refine lv_iload_n hx hb dX10_row_46 rfl (lv_at hl 1 rfl) ?_
            refine lv_iload_n hx hb dX10_row_47 rfl (lv_at hl 2 rfl) ?_
            refine va_iast hx hb hK.1 hP hD hS 2 1 rfl rfl (vp_in_nI (n := 0) (N := 4) (by decide) (by decide)) dX10_row_48 (fun H locs hP hD hS => ?_)
            generalize (upd fi (0 : Int32).toNatClampNeg a2) = f_10 at hP hD
            have hP : va_P G vwCl [(ob, .inr (10, [ob_0, .ref wo, .ref mi, .ref hm, .ref mt, .int 0, .ref fv, .int 0, .int 0, .int 0, .int 0, .int 0, .int 0, .int (-1), .ref fr, ob_15, ob_16, ob_17, ob_18, ob_19, ob_20, ob_21, ob_22, ob_23, ob_24, ob_25, ob_26, ob_27, ob_28, ob_29, ob_30, ob_31, ob_32, ob_33, ob_34, .ref cd, ob_36, .ref my, .ref wi, .ref nb, .ref mv])), (my, .inl (y 1, 4, .inl f_9)), (wi, .inl (y 1, 4, .inl f_10)), (nb, .inl (y 2, 240, .inr (.inl fn)))] H := hP
            have hD : va_D A [(ob, .inr (10, [ob_0, .ref wo, .ref mi, .ref hm, .ref mt, .int 0, .ref fv, .int 0, .int 0, .int 0, .int 0, .int 0, .int 0, .int (-1), .ref fr, ob_15, ob_16, ob_17, ob_18, ob_19, ob_20, ob_21, ob_22, ob_23, ob_24, ob_25, ob_26, ob_27, ob_28, ob_29, ob_30, ob_31, ob_32, ob_33, ob_34, .ref cd, ob_36, .ref my, .ref wi, .ref nb, .ref mv])), (my, .inl (y 1, 4, .inl f_9)), (wi, .inl (y 1, 4, .inl f_10)), (nb, .inl (y 2, 240, .inr (.inl fn)))] := hD
            refine lv_iconst (v := 0) hx hb dX10_row_49 (by decide) ?_
            refine lv_istore (lv' := [(4, .int 0), (0, .ref ob), (1, .int 0), (2, .int a2), (3, .int a3)]) hx hb dX10_row_50 hl (by decide) rfl (fun ls hl => ?_)
            refine loopW (σ := (Nat → Int64)) (fun n x H locs ls => ∃ i_12 : Nat, i_12 + n = 60 ∧ va_P G vwCl [(ob, .inr (10, [ob_0, .ref wo, .ref mi, .ref hm, .ref mt, .int 0, .ref fv, .int 0, .int 0, .int 0, .int 0, .int 0, .int 0, .int (-1), .ref fr, ob_15, ob_16, ob_17, ob_18, ob_19, ob_20, ob_21, ob_22, ob_23, ob_24, ob_25, ob_26, ob_27, ob_28, ob_29, ob_30, ob_31, ob_32, ob_33, ob_34, .ref cd, ob_36, .ref my, .ref wi, .ref nb, .ref mv])), (my, .inl (y 1, 4, .inl f_9)), (wi, .inl (y 1, 4, .inl f_10)), (nb, .inl (y 2, 240, .inr (.inl (x))))] H ∧ va_D A [(ob, .inr (10, [ob_0, .ref wo, .ref mi, .ref hm, .ref mt, .int 0, .ref fv, .int 0, .int 0, .int 0, .int 0, .int 0, .int 0, .int (-1), .ref fr, ob_15, ob_16, ob_17, ob_18, ob_19, ob_20, ob_21, ob_22, ob_23, ob_24, ob_25, ob_26, ob_27, ob_28, ob_29, ob_30, ob_31, ob_32, ob_33, ob_34, .ref cd, ob_36, .ref my, .ref wi, .ref nb, .ref mv])), (my, .inl (y 1, 4, .inl f_9)), (wi, .inl (y 1, 4, .inl f_10)), (nb, .inl (y 2, 240, .inr (.inl (x))))] ∧ va_S A s.heap H locs ∧ lv_has ls 5 [(4, .int (nI (i_12))), (0, .ref ob), (1, .int 0), (2, .int a2), (3, .int a3)]) ?_ ?_ 60 (fn) ⟨0, by omega, hP, hD, hS, lv_sub hl [0, 1, 2, 3, 4] rfl⟩
            · rintro f_13 H locs ls ⟨i_15, hi9, hP, hD, hS, hl⟩
              obtain rfl : i_15 = 60 := by omega
              have hP : va_P G vwCl [(ob, .inr (10, [ob_0, .ref wo, .ref mi, .ref hm, .ref mt, .int 0, .ref fv, .int 0, .int 0, .int 0, .int 0, .int 0, .int 0, .int (-1), .ref fr, ob_15, ob_16, ob_17, ob_18, ob_19, ob_20, ob_21, ob_22, ob_23, ob_24, ob_25, ob_26, ob_27, ob_28, ob_29, ob_30, ob_31, ob_32, ob_33, ob_34, .ref cd, ob_36, .ref my, .ref wi, .ref nb, .ref mv])), (my, .inl (y 1, 4, .inl f_9)), (wi, .inl (y 1, 4, .inl f_10)), (nb, .inl (y 2, 240, .inr (.inl f_13)))] H := hP
              have hD : va_D A [(ob, .inr (10, [ob_0, .ref wo, .ref mi, .ref hm, .ref mt, .int 0, .ref fv, .int 0, .int 0, .int 0, .int 0, .int 0, .int 0, .int (-1), .ref fr, ob_15, ob_16, ob_17, ob_18, ob_19, ob_20, ob_21, ob_22, ob_23, ob_24, ob_25, ob_26, ob_27, ob_28, ob_29, ob_30, ob_31, ob_32, ob_33, ob_34, .ref cd, ob_36, .ref my, .ref wi, .ref nb, .ref mv])), (my, .inl (y 1, 4, .inl f_9)), (wi, .inl (y 1, 4, .inl f_10)), (nb, .inl (y 2, 240, .inr (.inl f_13)))] := hD
              have hl : lv_has ls 5 [(4, .int 60), (0, .ref ob), (1, .int 0), (2, .int a2), (3, .int a3)] := hl
              refine lv_iload hx hb dX10_row_52 (lv_at hl 0 rfl) ?_
              refine lv_bipush (v := 60) hx hb dX10_row_54 (by decide) ?_
              refine lv_icmp_ge (tgt := 78) hx hb dX10_row_56 (by decide) (fun _ => ?_) (fun c9 => absurd (by decide) c9)
              refine lv_iconst (v := 0) hx hb dX10_row_78 (by decide) ?_
              refine W.widen (k := 0) (n := 0) (Nat.le_of_ble_eq_true rfl) (Nat.le_of_ble_eq_true rfl) ?_
              exact W.iret (v := 0) hx hb hr (fun t ht hW => ⟨⟨0, _, rfl, (by first | rfl | decide | (simp only [sp_row]; (repeat' split) <;> first | rfl | (exfalso; omega))), by rw [ht]; exact hP, hD⟩, hS.F ht⟩) hS.2.2 dX10_row_79
            · rintro n_18 ih_20 f_17 H locs ls ⟨i_19, hi_i_19, hP, hD, hS, hl⟩
              have hb_i_19 : i_19 < 60 := by omega
              have hP : va_P G vwCl [(ob, .inr (10, [ob_0, .ref wo, .ref mi, .ref hm, .ref mt, .int 0, .ref fv, .int 0, .int 0, .int 0, .int 0, .int 0, .int 0, .int (-1), .ref fr, ob_15, ob_16, ob_17, ob_18, ob_19, ob_20, ob_21, ob_22, ob_23, ob_24, ob_25, ob_26, ob_27, ob_28, ob_29, ob_30, ob_31, ob_32, ob_33, ob_34, .ref cd, ob_36, .ref my, .ref wi, .ref nb, .ref mv])), (my, .inl (y 1, 4, .inl f_9)), (wi, .inl (y 1, 4, .inl f_10)), (nb, .inl (y 2, 240, .inr (.inl f_17)))] H := hP
              have hD : va_D A [(ob, .inr (10, [ob_0, .ref wo, .ref mi, .ref hm, .ref mt, .int 0, .ref fv, .int 0, .int 0, .int 0, .int 0, .int 0, .int 0, .int (-1), .ref fr, ob_15, ob_16, ob_17, ob_18, ob_19, ob_20, ob_21, ob_22, ob_23, ob_24, ob_25, ob_26, ob_27, ob_28, ob_29, ob_30, ob_31, ob_32, ob_33, ob_34, .ref cd, ob_36, .ref my, .ref wi, .ref nb, .ref mv])), (my, .inl (y 1, 4, .inl f_9)), (wi, .inl (y 1, 4, .inl f_10)), (nb, .inl (y 2, 240, .inr (.inl f_17)))] := hD
              have hl : lv_has ls 5 [(4, .int (nI (i_19))), (0, .ref ob), (1, .int 0), (2, .int a2), (3, .int a3)] := hl
              refine lv_iload hx hb dX10_row_52 (lv_at hl 0 rfl) ?_
              refine lv_bipush (v := 60) hx hb dX10_row_54 (by decide) ?_
              refine lv_icmp_ge (tgt := 78) hx hb dX10_row_56 (by decide) (fun c9 => absurd c9 (nI_ge (a := i_19) (b := 60) (by omega) (by omega))) (fun _ => ?_)
              refine lv_aload_n hx hb dX10_row_59 rfl (lv_at hl 1 rfl) ?_
              refine va_get (D := G) (ci := 10) (v := .ref nb) (C := RX10) (T := TX10) (N := 41) hx hb hw0 inA_wsX100 hown hK.1 hP 0 rfl rfl 39 (by decide) (hw0 _ m_159) (fun _ h9 => h9) rfl dX10_row_60 ?_
              refine lv_bipush (v := 60) hx hb dX10_row_63 (by decide) ?_
              refine lv_iload_n hx hb dX10_row_65 rfl (lv_at hl 2 rfl) ?_
              refine lv_imul hx hb dX10_row_66 ?_
              refine lv_topi (fun v_21 ev_21 => ?_)
              obtain rfl : 0 = v_21 := (ev_21.trans (by decide)).symm
              refine lv_iload hx hb dX10_row_67 (lv_at hl 0 rfl) ?_
              refine lv_iadd hx hb dX10_row_69 ?_
              refine lv_topi (fun v_22 ev_22 => ?_)
              obtain rfl : (nI (0 + i_19)) = v_22 := (ev_22.trans (nI_add (0) (i_19))).symm
              refine lv_lconst (v := 0) hx hb dX10_row_70 (by decide) ?_
              refine va_last hx hb hK.1 hP hD hS 3 2 rfl rfl (vp_in_nI (n := 0 + i_19) (N := 240) (by omega) (by decide)) dX10_row_71 (fun H locs hP hD hS => ?_)
              generalize (vp_updL f_17 ((nI (0 + i_19)) : Int32).toNatClampNeg 0) = f_23 at hP hD
              have hP : va_P G vwCl [(ob, .inr (10, [ob_0, .ref wo, .ref mi, .ref hm, .ref mt, .int 0, .ref fv, .int 0, .int 0, .int 0, .int 0, .int 0, .int 0, .int (-1), .ref fr, ob_15, ob_16, ob_17, ob_18, ob_19, ob_20, ob_21, ob_22, ob_23, ob_24, ob_25, ob_26, ob_27, ob_28, ob_29, ob_30, ob_31, ob_32, ob_33, ob_34, .ref cd, ob_36, .ref my, .ref wi, .ref nb, .ref mv])), (my, .inl (y 1, 4, .inl f_9)), (wi, .inl (y 1, 4, .inl f_10)), (nb, .inl (y 2, 240, .inr (.inl f_23)))] H := hP
              have hD : va_D A [(ob, .inr (10, [ob_0, .ref wo, .ref mi, .ref hm, .ref mt, .int 0, .ref fv, .int 0, .int 0, .int 0, .int 0, .int 0, .int 0, .int (-1), .ref fr, ob_15, ob_16, ob_17, ob_18, ob_19, ob_20, ob_21, ob_22, ob_23, ob_24, ob_25, ob_26, ob_27, ob_28, ob_29, ob_30, ob_31, ob_32, ob_33, ob_34, .ref cd, ob_36, .ref my, .ref wi, .ref nb, .ref mv])), (my, .inl (y 1, 4, .inl f_9)), (wi, .inl (y 1, 4, .inl f_10)), (nb, .inl (y 2, 240, .inr (.inl f_23)))] := hD
              refine lv_iinc (v := (nI (i_19 + 1))) (lv' := [(4, .int (nI (i_19 + 1))), (0, .ref ob), (1, .int 0), (2, .int a2), (3, .int a3)]) hx hb dX10_row_72 hl (k := 0) rfl (by exact nI_1 _) (by decide) rfl (fun ls hl => ?_)
              refine lv_goto (tgt := 52) hx hb dX10_row_75 (by decide) ?_
              exact ih_20 _ H locs ls ⟨i_19 + 1, by omega, hP, hD, hS, lv_sub hl [0, 1, 2, 3, 4] rfl⟩
          · skip
            have tc_8 : (0 : Int) > a3.toInt := il_nle c_8 (by decide) rfl
            refine lv_bipush (v := (-3)) hx hb dX10_row_32 (by decide) ?_
            refine W.widen (k := 0) (n := 0) (Nat.le_of_ble_eq_true rfl) (Nat.le_of_ble_eq_true rfl) ?_
            exact W.iret (v := (-3)) hx hb hr (fun t ht hW => ⟨⟨(-3), _, rfl, (by first | rfl | decide | (simp only [sp_row]; (repeat' split) <;> first | rfl | (exfalso; omega))), by rw [ht]; exact hP, hD⟩, hS.F ht⟩) hS.2.2 dX10_row_34
        · skip
          have tc_7 : (a3.toInt : Int) > 60 := il_nle c_7 rfl (by decide)
          refine lv_bipush (v := (-2)) hx hb dX10_row_25 (by decide) ?_
          refine W.widen (k := 0) (n := 0) (Nat.le_of_ble_eq_true rfl) (Nat.le_of_ble_eq_true rfl) ?_
          exact W.iret (v := (-2)) hx hb hr (fun t ht hW => ⟨⟨(-2), _, rfl, (by first | rfl | decide | (simp only [sp_row]; (repeat' split) <;> first | rfl | (exfalso; omega))), by rw [ht]; exact hP, hD⟩, hS.F ht⟩) hS.2.2 dX10_row_27
      · skip
        have tc_6 := in_0 (x := a2) (a := 0) (b := 3) c_6 (by decide) (by decide)
        have hP : va_P G vwCl [(ob, .inr (10, [ob_0, .ref wo, .ref mi, .ref hm, .ref mt, .int 0, .ref fv, .int 0, .int 0, .int 0, .int 0, .int 0, .int 0, .int (-1), .ref fr, ob_15, ob_16, ob_17, ob_18, ob_19, ob_20, ob_21, ob_22, ob_23, ob_24, ob_25, ob_26, ob_27, ob_28, ob_29, ob_30, ob_31, ob_32, ob_33, ob_34, .ref cd, ob_36, .ref my, .ref wi, .ref nb, .ref mv])), (my, .inl (y 1, 4, .inl fy)), (wi, .inl (y 1, 4, .inl fi)), (nb, .inl (y 2, 240, .inr (.inl fn)))] H := hP
        have hD : va_D A [(ob, .inr (10, [ob_0, .ref wo, .ref mi, .ref hm, .ref mt, .int 0, .ref fv, .int 0, .int 0, .int 0, .int 0, .int 0, .int 0, .int (-1), .ref fr, ob_15, ob_16, ob_17, ob_18, ob_19, ob_20, ob_21, ob_22, ob_23, ob_24, ob_25, ob_26, ob_27, ob_28, ob_29, ob_30, ob_31, ob_32, ob_33, ob_34, .ref cd, ob_36, .ref my, .ref wi, .ref nb, .ref mv])), (my, .inl (y 1, 4, .inl fy)), (wi, .inl (y 1, 4, .inl fi)), (nb, .inl (y 2, 240, .inr (.inl fn)))] := hD
        refine lv_if_eq (tgt := 25) hx hb dX10_row_16 (by decide) (fun _ => ?_) (fun c9 => absurd (by decide) c9)
        refine lv_bipush (v := (-2)) hx hb dX10_row_25 (by decide) ?_
        refine W.widen (k := 0) (n := 0) (Nat.le_of_ble_eq_true rfl) (Nat.le_of_ble_eq_true rfl) ?_
        exact W.iret (v := (-2)) hx hb hr (fun t ht hW => ⟨⟨(-2), _, rfl, (by first | rfl | decide | (simp only [sp_row]; (repeat' split) <;> first | rfl | (exfalso; omega))), by rw [ht]; exact hP, hD⟩, hS.F ht⟩) hS.2.2 dX10_row_27
    · skip
      exact absurd c_3 (by decide)
  · have hl : lv_has ls 5 [(0, .ref ob), (1, .int 1), (2, .int a2), (3, .int a3)] := hl
    refine lv_iload_n hx hb dX10_row_0 rfl (lv_at hl 1 rfl) ?_
    refine cSi (As := [.int 1]) (rest := []) ⟨hx, hb, hml, hown, hw0⟩ hA hK hP hD hS [] [0, 1, 2, 3] [] [(ob, .inr (10, [ob_0, .ref wo, .ref mi, .ref hm, .ref mt, .int 0, .ref fv, .int 0, .int 0, .int 0, .int 0, .int 0, .int 0, .int (-1), .ref fr, ob_15, ob_16, ob_17, ob_18, ob_19, ob_20, ob_21, ob_22, ob_23, ob_24, ob_25, ob_26, ob_27, ob_28, ob_29, ob_30, ob_31, ob_32, ob_33, ob_34, .ref cd, ob_36, .ref my, .ref wi, .ref nb, .ref mv])), (my, .inl (y 1, 4, .inl fy)), (wi, .inl (y 1, 4, .inl fi)), (nb, .inl (y 2, 240, .inr (.inl fn)))] rfl rfl (by decide) (by decide) (by decide) (kX10_isSlot l G y _ 1 ) ⟨(callB_of 1 hw0 (gA m_169) rfl rfl rfl (hw0 _ m_166) (hw0 _ m_378) (by decide +kernel) ⟨Nat.le_of_ble_eq_true rfl, Nat.le_of_ble_eq_true rfl⟩), (hw0 _ m_379)⟩ rfl hl.1 (Nat.le_of_ble_eq_true rfl) dX10_row_1 ⟨Nat.le_of_ble_eq_true rfl, Nat.le_of_ble_eq_true rfl⟩ (fun r_24 w_24 H locs hw_24 hP hD hS => ?_)
    rcases hw_24 with ⟨c_25, rfl, rfl⟩ | ⟨c_26, rfl, rfl⟩
    · skip
      have hP : va_P G vwCl [(ob, .inr (10, [ob_0, .ref wo, .ref mi, .ref hm, .ref mt, .int 0, .ref fv, .int 0, .int 0, .int 0, .int 0, .int 0, .int 0, .int (-1), .ref fr, ob_15, ob_16, ob_17, ob_18, ob_19, ob_20, ob_21, ob_22, ob_23, ob_24, ob_25, ob_26, ob_27, ob_28, ob_29, ob_30, ob_31, ob_32, ob_33, ob_34, .ref cd, ob_36, .ref my, .ref wi, .ref nb, .ref mv])), (my, .inl (y 1, 4, .inl fy)), (wi, .inl (y 1, 4, .inl fi)), (nb, .inl (y 2, 240, .inr (.inl fn)))] H := hP
      have hD : va_D A [(ob, .inr (10, [ob_0, .ref wo, .ref mi, .ref hm, .ref mt, .int 0, .ref fv, .int 0, .int 0, .int 0, .int 0, .int 0, .int 0, .int (-1), .ref fr, ob_15, ob_16, ob_17, ob_18, ob_19, ob_20, ob_21, ob_22, ob_23, ob_24, ob_25, ob_26, ob_27, ob_28, ob_29, ob_30, ob_31, ob_32, ob_33, ob_34, .ref cd, ob_36, .ref my, .ref wi, .ref nb, .ref mv])), (my, .inl (y 1, 4, .inl fy)), (wi, .inl (y 1, 4, .inl fi)), (nb, .inl (y 2, 240, .inr (.inl fn)))] := hD
      refine lv_if_eq (tgt := 25) hx hb dX10_row_4 (by decide) (fun c9 => absurd c9 (by decide)) (fun _ => ?_)
      refine lv_iload_n hx hb dX10_row_7 rfl (lv_at hl 2 rfl) ?_
      refine lv_i2l hx hb dX10_row_8 rfl ?_
      refine lv_lconst (v := 0) hx hb dX10_row_9 (by decide) ?_
      refine lv_ldc2 (own := RX10) (v := 3) hx hb hown (hw0 _ m_165) dX10_row_10 ?_
      refine cSi (As := [.long (a2).toInt64, .long 0, .long 3]) (rest := []) ⟨hx, hb, hml, hown, hw0⟩ hA hK hP hD hS [] [0, 1, 2, 3] [] [(ob, .inr (10, [ob_0, .ref wo, .ref mi, .ref hm, .ref mt, .int 0, .ref fv, .int 0, .int 0, .int 0, .int 0, .int 0, .int 0, .int (-1), .ref fr, ob_15, ob_16, ob_17, ob_18, ob_19, ob_20, ob_21, ob_22, ob_23, ob_24, ob_25, ob_26, ob_27, ob_28, ob_29, ob_30, ob_31, ob_32, ob_33, ob_34, .ref cd, ob_36, .ref my, .ref wi, .ref nb, .ref mv])), (my, .inl (y 1, 4, .inl fy)), (wi, .inl (y 1, 4, .inl fi)), (nb, .inl (y 2, 240, .inr (.inl fn)))] rfl rfl (by decide) (by decide) (by decide) (kX10_in l G y _ ((a2).toInt64) 0 3 ) ⟨(callB_of 3 hw0 (gA m_164) rfl rfl rfl (hw0 _ m_166) (hw0 _ m_167) (by decide +kernel) ⟨Nat.le_of_ble_eq_true rfl, Nat.le_of_ble_eq_true rfl⟩), (hw0 _ m_168)⟩ rfl hl.1 (Nat.le_of_ble_eq_true rfl) dX10_row_13 ⟨Nat.le_of_ble_eq_true rfl, Nat.le_of_ble_eq_true rfl⟩ (fun r_27 w_27 H locs hw_27 hP hD hS => ?_)
      rcases hw_27 with ⟨c_28, rfl, rfl⟩ | ⟨c_29, rfl, rfl⟩
      · skip
        have tc_28 := in_1 (x := a2) (a := 0) (b := 3) c_28 (by decide) (by decide)
        have hP : va_P G vwCl [(ob, .inr (10, [ob_0, .ref wo, .ref mi, .ref hm, .ref mt, .int 0, .ref fv, .int 0, .int 0, .int 0, .int 0, .int 0, .int 0, .int (-1), .ref fr, ob_15, ob_16, ob_17, ob_18, ob_19, ob_20, ob_21, ob_22, ob_23, ob_24, ob_25, ob_26, ob_27, ob_28, ob_29, ob_30, ob_31, ob_32, ob_33, ob_34, .ref cd, ob_36, .ref my, .ref wi, .ref nb, .ref mv])), (my, .inl (y 1, 4, .inl fy)), (wi, .inl (y 1, 4, .inl fi)), (nb, .inl (y 2, 240, .inr (.inl fn)))] H := hP
        have hD : va_D A [(ob, .inr (10, [ob_0, .ref wo, .ref mi, .ref hm, .ref mt, .int 0, .ref fv, .int 0, .int 0, .int 0, .int 0, .int 0, .int 0, .int (-1), .ref fr, ob_15, ob_16, ob_17, ob_18, ob_19, ob_20, ob_21, ob_22, ob_23, ob_24, ob_25, ob_26, ob_27, ob_28, ob_29, ob_30, ob_31, ob_32, ob_33, ob_34, .ref cd, ob_36, .ref my, .ref wi, .ref nb, .ref mv])), (my, .inl (y 1, 4, .inl fy)), (wi, .inl (y 1, 4, .inl fi)), (nb, .inl (y 2, 240, .inr (.inl fn)))] := hD
        refine lv_if_eq (tgt := 25) hx hb dX10_row_16 (by decide) (fun c9 => absurd c9 (by decide)) (fun _ => ?_)
        refine lv_iload_n hx hb dX10_row_19 rfl (lv_at hl 3 rfl) ?_
        refine lv_bipush (v := 60) hx hb dX10_row_20 (by decide) ?_
        refine lv_icmp_le (tgt := 28) hx hb dX10_row_22 (by decide) (fun c_30 => ?_) (fun c_30 => ?_)
        · skip
          have tc_30 : (a3.toInt : Int) ≤ 60 := il_le c_30 rfl (by decide)
          refine lv_iload_n hx hb dX10_row_28 rfl (lv_at hl 3 rfl) ?_
          refine lv_if_ge (tgt := 35) hx hb dX10_row_29 (by decide) (fun c_31 => ?_) (fun c_31 => ?_)
          · skip
            have tc_31 : (0 : Int) ≤ a3.toInt := il_le c_31 (by decide) rfl
            refine lv_aload_n hx hb dX10_row_35 rfl (lv_at hl 0 rfl) ?_
            refine va_get (D := G) (ci := 10) (v := .ref my) (C := RX10) (T := TX10) (N := 41) hx hb hw0 inA_wsX100 hown hK.1 hP 0 rfl rfl 37 (by decide) (hw0 _ m_157) (fun _ h9 => h9) rfl dX10_row_36 ?_
            refine lv_iload_n hx hb dX10_row_39 rfl (lv_at hl 1 rfl) ?_
            refine lv_iload_n hx hb dX10_row_40 rfl (lv_at hl 3 rfl) ?_
            refine va_iast hx hb hK.1 hP hD hS 1 1 rfl rfl (vp_in_nI (n := 1) (N := 4) (by decide) (by decide)) dX10_row_41 (fun H locs hP hD hS => ?_)
            generalize (upd fy (1 : Int32).toNatClampNeg a3) = f_32 at hP hD
            have hP : va_P G vwCl [(ob, .inr (10, [ob_0, .ref wo, .ref mi, .ref hm, .ref mt, .int 0, .ref fv, .int 0, .int 0, .int 0, .int 0, .int 0, .int 0, .int (-1), .ref fr, ob_15, ob_16, ob_17, ob_18, ob_19, ob_20, ob_21, ob_22, ob_23, ob_24, ob_25, ob_26, ob_27, ob_28, ob_29, ob_30, ob_31, ob_32, ob_33, ob_34, .ref cd, ob_36, .ref my, .ref wi, .ref nb, .ref mv])), (my, .inl (y 1, 4, .inl f_32)), (wi, .inl (y 1, 4, .inl fi)), (nb, .inl (y 2, 240, .inr (.inl fn)))] H := hP
            have hD : va_D A [(ob, .inr (10, [ob_0, .ref wo, .ref mi, .ref hm, .ref mt, .int 0, .ref fv, .int 0, .int 0, .int 0, .int 0, .int 0, .int 0, .int (-1), .ref fr, ob_15, ob_16, ob_17, ob_18, ob_19, ob_20, ob_21, ob_22, ob_23, ob_24, ob_25, ob_26, ob_27, ob_28, ob_29, ob_30, ob_31, ob_32, ob_33, ob_34, .ref cd, ob_36, .ref my, .ref wi, .ref nb, .ref mv])), (my, .inl (y 1, 4, .inl f_32)), (wi, .inl (y 1, 4, .inl fi)), (nb, .inl (y 2, 240, .inr (.inl fn)))] := hD
            refine lv_aload_n hx hb dX10_row_42 rfl (lv_at hl 0 rfl) ?_
            refine va_get (D := G) (ci := 10) (v := .ref wi) (C := RX10) (T := TX10) (N := 41) hx hb hw0 inA_wsX100 hown hK.1 hP 0 rfl rfl 38 (by decide) (hw0 _ m_158) (fun _ h9 => h9) rfl dX10_row_43 ?_
            refine lv_iload_n hx hb dX10_row_46 rfl (lv_at hl 1 rfl) ?_
            refine lv_iload_n hx hb dX10_row_47 rfl (lv_at hl 2 rfl) ?_
            refine va_iast hx hb hK.1 hP hD hS 2 1 rfl rfl (vp_in_nI (n := 1) (N := 4) (by decide) (by decide)) dX10_row_48 (fun H locs hP hD hS => ?_)
            generalize (upd fi (1 : Int32).toNatClampNeg a2) = f_33 at hP hD
            have hP : va_P G vwCl [(ob, .inr (10, [ob_0, .ref wo, .ref mi, .ref hm, .ref mt, .int 0, .ref fv, .int 0, .int 0, .int 0, .int 0, .int 0, .int 0, .int (-1), .ref fr, ob_15, ob_16, ob_17, ob_18, ob_19, ob_20, ob_21, ob_22, ob_23, ob_24, ob_25, ob_26, ob_27, ob_28, ob_29, ob_30, ob_31, ob_32, ob_33, ob_34, .ref cd, ob_36, .ref my, .ref wi, .ref nb, .ref mv])), (my, .inl (y 1, 4, .inl f_32)), (wi, .inl (y 1, 4, .inl f_33)), (nb, .inl (y 2, 240, .inr (.inl fn)))] H := hP
            have hD : va_D A [(ob, .inr (10, [ob_0, .ref wo, .ref mi, .ref hm, .ref mt, .int 0, .ref fv, .int 0, .int 0, .int 0, .int 0, .int 0, .int 0, .int (-1), .ref fr, ob_15, ob_16, ob_17, ob_18, ob_19, ob_20, ob_21, ob_22, ob_23, ob_24, ob_25, ob_26, ob_27, ob_28, ob_29, ob_30, ob_31, ob_32, ob_33, ob_34, .ref cd, ob_36, .ref my, .ref wi, .ref nb, .ref mv])), (my, .inl (y 1, 4, .inl f_32)), (wi, .inl (y 1, 4, .inl f_33)), (nb, .inl (y 2, 240, .inr (.inl fn)))] := hD
            refine lv_iconst (v := 0) hx hb dX10_row_49 (by decide) ?_
            refine lv_istore (lv' := [(4, .int 0), (0, .ref ob), (1, .int 1), (2, .int a2), (3, .int a3)]) hx hb dX10_row_50 hl (by decide) rfl (fun ls hl => ?_)
            refine loopW (σ := (Nat → Int64)) (fun n x H locs ls => ∃ i_35 : Nat, i_35 + n = 60 ∧ va_P G vwCl [(ob, .inr (10, [ob_0, .ref wo, .ref mi, .ref hm, .ref mt, .int 0, .ref fv, .int 0, .int 0, .int 0, .int 0, .int 0, .int 0, .int (-1), .ref fr, ob_15, ob_16, ob_17, ob_18, ob_19, ob_20, ob_21, ob_22, ob_23, ob_24, ob_25, ob_26, ob_27, ob_28, ob_29, ob_30, ob_31, ob_32, ob_33, ob_34, .ref cd, ob_36, .ref my, .ref wi, .ref nb, .ref mv])), (my, .inl (y 1, 4, .inl f_32)), (wi, .inl (y 1, 4, .inl f_33)), (nb, .inl (y 2, 240, .inr (.inl (x))))] H ∧ va_D A [(ob, .inr (10, [ob_0, .ref wo, .ref mi, .ref hm, .ref mt, .int 0, .ref fv, .int 0, .int 0, .int 0, .int 0, .int 0, .int 0, .int (-1), .ref fr, ob_15, ob_16, ob_17, ob_18, ob_19, ob_20, ob_21, ob_22, ob_23, ob_24, ob_25, ob_26, ob_27, ob_28, ob_29, ob_30, ob_31, ob_32, ob_33, ob_34, .ref cd, ob_36, .ref my, .ref wi, .ref nb, .ref mv])), (my, .inl (y 1, 4, .inl f_32)), (wi, .inl (y 1, 4, .inl f_33)), (nb, .inl (y 2, 240, .inr (.inl (x))))] ∧ va_S A s.heap H locs ∧ lv_has ls 5 [(4, .int (nI (i_35))), (0, .ref ob), (1, .int 1), (2, .int a2), (3, .int a3)]) ?_ ?_ 60 (fn) ⟨0, by omega, hP, hD, hS, lv_sub hl [0, 1, 2, 3, 4] rfl⟩
            · rintro f_36 H locs ls ⟨i_38, hi9, hP, hD, hS, hl⟩
              obtain rfl : i_38 = 60 := by omega
              have hP : va_P G vwCl [(ob, .inr (10, [ob_0, .ref wo, .ref mi, .ref hm, .ref mt, .int 0, .ref fv, .int 0, .int 0, .int 0, .int 0, .int 0, .int 0, .int (-1), .ref fr, ob_15, ob_16, ob_17, ob_18, ob_19, ob_20, ob_21, ob_22, ob_23, ob_24, ob_25, ob_26, ob_27, ob_28, ob_29, ob_30, ob_31, ob_32, ob_33, ob_34, .ref cd, ob_36, .ref my, .ref wi, .ref nb, .ref mv])), (my, .inl (y 1, 4, .inl f_32)), (wi, .inl (y 1, 4, .inl f_33)), (nb, .inl (y 2, 240, .inr (.inl f_36)))] H := hP
              have hD : va_D A [(ob, .inr (10, [ob_0, .ref wo, .ref mi, .ref hm, .ref mt, .int 0, .ref fv, .int 0, .int 0, .int 0, .int 0, .int 0, .int 0, .int (-1), .ref fr, ob_15, ob_16, ob_17, ob_18, ob_19, ob_20, ob_21, ob_22, ob_23, ob_24, ob_25, ob_26, ob_27, ob_28, ob_29, ob_30, ob_31, ob_32, ob_33, ob_34, .ref cd, ob_36, .ref my, .ref wi, .ref nb, .ref mv])), (my, .inl (y 1, 4, .inl f_32)), (wi, .inl (y 1, 4, .inl f_33)), (nb, .inl (y 2, 240, .inr (.inl f_36)))] := hD
              have hl : lv_has ls 5 [(4, .int 60), (0, .ref ob), (1, .int 1), (2, .int a2), (3, .int a3)] := hl
              refine lv_iload hx hb dX10_row_52 (lv_at hl 0 rfl) ?_
              refine lv_bipush (v := 60) hx hb dX10_row_54 (by decide) ?_
              refine lv_icmp_ge (tgt := 78) hx hb dX10_row_56 (by decide) (fun _ => ?_) (fun c9 => absurd (by decide) c9)
              refine lv_iconst (v := 0) hx hb dX10_row_78 (by decide) ?_
              refine W.widen (k := 0) (n := 0) (Nat.le_of_ble_eq_true rfl) (Nat.le_of_ble_eq_true rfl) ?_
              exact W.iret (v := 0) hx hb hr (fun t ht hW => ⟨⟨0, _, rfl, (by first | rfl | decide | (simp only [sp_row]; (repeat' split) <;> first | rfl | (exfalso; omega))), by rw [ht]; exact hP, hD⟩, hS.F ht⟩) hS.2.2 dX10_row_79
            · rintro n_41 ih_43 f_40 H locs ls ⟨i_42, hi_i_42, hP, hD, hS, hl⟩
              have hb_i_42 : i_42 < 60 := by omega
              have hP : va_P G vwCl [(ob, .inr (10, [ob_0, .ref wo, .ref mi, .ref hm, .ref mt, .int 0, .ref fv, .int 0, .int 0, .int 0, .int 0, .int 0, .int 0, .int (-1), .ref fr, ob_15, ob_16, ob_17, ob_18, ob_19, ob_20, ob_21, ob_22, ob_23, ob_24, ob_25, ob_26, ob_27, ob_28, ob_29, ob_30, ob_31, ob_32, ob_33, ob_34, .ref cd, ob_36, .ref my, .ref wi, .ref nb, .ref mv])), (my, .inl (y 1, 4, .inl f_32)), (wi, .inl (y 1, 4, .inl f_33)), (nb, .inl (y 2, 240, .inr (.inl f_40)))] H := hP
              have hD : va_D A [(ob, .inr (10, [ob_0, .ref wo, .ref mi, .ref hm, .ref mt, .int 0, .ref fv, .int 0, .int 0, .int 0, .int 0, .int 0, .int 0, .int (-1), .ref fr, ob_15, ob_16, ob_17, ob_18, ob_19, ob_20, ob_21, ob_22, ob_23, ob_24, ob_25, ob_26, ob_27, ob_28, ob_29, ob_30, ob_31, ob_32, ob_33, ob_34, .ref cd, ob_36, .ref my, .ref wi, .ref nb, .ref mv])), (my, .inl (y 1, 4, .inl f_32)), (wi, .inl (y 1, 4, .inl f_33)), (nb, .inl (y 2, 240, .inr (.inl f_40)))] := hD
              have hl : lv_has ls 5 [(4, .int (nI (i_42))), (0, .ref ob), (1, .int 1), (2, .int a2), (3, .int a3)] := hl
              refine lv_iload hx hb dX10_row_52 (lv_at hl 0 rfl) ?_
              refine lv_bipush (v := 60) hx hb dX10_row_54 (by decide) ?_
              refine lv_icmp_ge (tgt := 78) hx hb dX10_row_56 (by decide) (fun c9 => absurd c9 (nI_ge (a := i_42) (b := 60) (by omega) (by omega))) (fun _ => ?_)
              refine lv_aload_n hx hb dX10_row_59 rfl (lv_at hl 1 rfl) ?_
              refine va_get (D := G) (ci := 10) (v := .ref nb) (C := RX10) (T := TX10) (N := 41) hx hb hw0 inA_wsX100 hown hK.1 hP 0 rfl rfl 39 (by decide) (hw0 _ m_159) (fun _ h9 => h9) rfl dX10_row_60 ?_
              refine lv_bipush (v := 60) hx hb dX10_row_63 (by decide) ?_
              refine lv_iload_n hx hb dX10_row_65 rfl (lv_at hl 2 rfl) ?_
              refine lv_imul hx hb dX10_row_66 ?_
              refine lv_topi (fun v_44 ev_44 => ?_)
              obtain rfl : 60 = v_44 := (ev_44.trans (by decide)).symm
              refine lv_iload hx hb dX10_row_67 (lv_at hl 0 rfl) ?_
              refine lv_iadd hx hb dX10_row_69 ?_
              refine lv_topi (fun v_45 ev_45 => ?_)
              obtain rfl : (nI (60 + i_42)) = v_45 := (ev_45.trans (nI_add (60) (i_42))).symm
              refine lv_lconst (v := 0) hx hb dX10_row_70 (by decide) ?_
              refine va_last hx hb hK.1 hP hD hS 3 2 rfl rfl (vp_in_nI (n := 60 + i_42) (N := 240) (by omega) (by decide)) dX10_row_71 (fun H locs hP hD hS => ?_)
              generalize (vp_updL f_40 ((nI (60 + i_42)) : Int32).toNatClampNeg 0) = f_46 at hP hD
              have hP : va_P G vwCl [(ob, .inr (10, [ob_0, .ref wo, .ref mi, .ref hm, .ref mt, .int 0, .ref fv, .int 0, .int 0, .int 0, .int 0, .int 0, .int 0, .int (-1), .ref fr, ob_15, ob_16, ob_17, ob_18, ob_19, ob_20, ob_21, ob_22, ob_23, ob_24, ob_25, ob_26, ob_27, ob_28, ob_29, ob_30, ob_31, ob_32, ob_33, ob_34, .ref cd, ob_36, .ref my, .ref wi, .ref nb, .ref mv])), (my, .inl (y 1, 4, .inl f_32)), (wi, .inl (y 1, 4, .inl f_33)), (nb, .inl (y 2, 240, .inr (.inl f_46)))] H := hP
              have hD : va_D A [(ob, .inr (10, [ob_0, .ref wo, .ref mi, .ref hm, .ref mt, .int 0, .ref fv, .int 0, .int 0, .int 0, .int 0, .int 0, .int 0, .int (-1), .ref fr, ob_15, ob_16, ob_17, ob_18, ob_19, ob_20, ob_21, ob_22, ob_23, ob_24, ob_25, ob_26, ob_27, ob_28, ob_29, ob_30, ob_31, ob_32, ob_33, ob_34, .ref cd, ob_36, .ref my, .ref wi, .ref nb, .ref mv])), (my, .inl (y 1, 4, .inl f_32)), (wi, .inl (y 1, 4, .inl f_33)), (nb, .inl (y 2, 240, .inr (.inl f_46)))] := hD
              refine lv_iinc (v := (nI (i_42 + 1))) (lv' := [(4, .int (nI (i_42 + 1))), (0, .ref ob), (1, .int 1), (2, .int a2), (3, .int a3)]) hx hb dX10_row_72 hl (k := 0) rfl (by exact nI_1 _) (by decide) rfl (fun ls hl => ?_)
              refine lv_goto (tgt := 52) hx hb dX10_row_75 (by decide) ?_
              exact ih_43 _ H locs ls ⟨i_42 + 1, by omega, hP, hD, hS, lv_sub hl [0, 1, 2, 3, 4] rfl⟩
          · skip
            have tc_31 : (0 : Int) > a3.toInt := il_nle c_31 (by decide) rfl
            refine lv_bipush (v := (-3)) hx hb dX10_row_32 (by decide) ?_
            refine W.widen (k := 0) (n := 0) (Nat.le_of_ble_eq_true rfl) (Nat.le_of_ble_eq_true rfl) ?_
            exact W.iret (v := (-3)) hx hb hr (fun t ht hW => ⟨⟨(-3), _, rfl, (by first | rfl | decide | (simp only [sp_row]; (repeat' split) <;> first | rfl | (exfalso; omega))), by rw [ht]; exact hP, hD⟩, hS.F ht⟩) hS.2.2 dX10_row_34
        · skip
          have tc_30 : (a3.toInt : Int) > 60 := il_nle c_30 rfl (by decide)
          refine lv_bipush (v := (-2)) hx hb dX10_row_25 (by decide) ?_
          refine W.widen (k := 0) (n := 0) (Nat.le_of_ble_eq_true rfl) (Nat.le_of_ble_eq_true rfl) ?_
          exact W.iret (v := (-2)) hx hb hr (fun t ht hW => ⟨⟨(-2), _, rfl, (by first | rfl | decide | (simp only [sp_row]; (repeat' split) <;> first | rfl | (exfalso; omega))), by rw [ht]; exact hP, hD⟩, hS.F ht⟩) hS.2.2 dX10_row_27
      · skip
        have tc_29 := in_0 (x := a2) (a := 0) (b := 3) c_29 (by decide) (by decide)
        have hP : va_P G vwCl [(ob, .inr (10, [ob_0, .ref wo, .ref mi, .ref hm, .ref mt, .int 0, .ref fv, .int 0, .int 0, .int 0, .int 0, .int 0, .int 0, .int (-1), .ref fr, ob_15, ob_16, ob_17, ob_18, ob_19, ob_20, ob_21, ob_22, ob_23, ob_24, ob_25, ob_26, ob_27, ob_28, ob_29, ob_30, ob_31, ob_32, ob_33, ob_34, .ref cd, ob_36, .ref my, .ref wi, .ref nb, .ref mv])), (my, .inl (y 1, 4, .inl fy)), (wi, .inl (y 1, 4, .inl fi)), (nb, .inl (y 2, 240, .inr (.inl fn)))] H := hP
        have hD : va_D A [(ob, .inr (10, [ob_0, .ref wo, .ref mi, .ref hm, .ref mt, .int 0, .ref fv, .int 0, .int 0, .int 0, .int 0, .int 0, .int 0, .int (-1), .ref fr, ob_15, ob_16, ob_17, ob_18, ob_19, ob_20, ob_21, ob_22, ob_23, ob_24, ob_25, ob_26, ob_27, ob_28, ob_29, ob_30, ob_31, ob_32, ob_33, ob_34, .ref cd, ob_36, .ref my, .ref wi, .ref nb, .ref mv])), (my, .inl (y 1, 4, .inl fy)), (wi, .inl (y 1, 4, .inl fi)), (nb, .inl (y 2, 240, .inr (.inl fn)))] := hD
        refine lv_if_eq (tgt := 25) hx hb dX10_row_16 (by decide) (fun _ => ?_) (fun c9 => absurd (by decide) c9)
        refine lv_bipush (v := (-2)) hx hb dX10_row_25 (by decide) ?_
        refine W.widen (k := 0) (n := 0) (Nat.le_of_ble_eq_true rfl) (Nat.le_of_ble_eq_true rfl) ?_
        exact W.iret (v := (-2)) hx hb hr (fun t ht hW => ⟨⟨(-2), _, rfl, (by first | rfl | decide | (simp only [sp_row]; (repeat' split) <;> first | rfl | (exfalso; omega))), by rw [ht]; exact hP, hD⟩, hS.F ht⟩) hS.2.2 dX10_row_27
    · skip
      exact absurd c_26 (by decide)
  · have hl : lv_has ls 5 [(0, .ref ob), (1, .int 2), (2, .int a2), (3, .int a3)] := hl
    refine lv_iload_n hx hb dX10_row_0 rfl (lv_at hl 1 rfl) ?_
    refine cSi (As := [.int 2]) (rest := []) ⟨hx, hb, hml, hown, hw0⟩ hA hK hP hD hS [] [0, 1, 2, 3] [] [(ob, .inr (10, [ob_0, .ref wo, .ref mi, .ref hm, .ref mt, .int 0, .ref fv, .int 0, .int 0, .int 0, .int 0, .int 0, .int 0, .int (-1), .ref fr, ob_15, ob_16, ob_17, ob_18, ob_19, ob_20, ob_21, ob_22, ob_23, ob_24, ob_25, ob_26, ob_27, ob_28, ob_29, ob_30, ob_31, ob_32, ob_33, ob_34, .ref cd, ob_36, .ref my, .ref wi, .ref nb, .ref mv])), (my, .inl (y 1, 4, .inl fy)), (wi, .inl (y 1, 4, .inl fi)), (nb, .inl (y 2, 240, .inr (.inl fn)))] rfl rfl (by decide) (by decide) (by decide) (kX10_isSlot l G y _ 2 ) ⟨(callB_of 1 hw0 (gA m_169) rfl rfl rfl (hw0 _ m_166) (hw0 _ m_378) (by decide +kernel) ⟨Nat.le_of_ble_eq_true rfl, Nat.le_of_ble_eq_true rfl⟩), (hw0 _ m_379)⟩ rfl hl.1 (Nat.le_of_ble_eq_true rfl) dX10_row_1 ⟨Nat.le_of_ble_eq_true rfl, Nat.le_of_ble_eq_true rfl⟩ (fun r_47 w_47 H locs hw_47 hP hD hS => ?_)
    rcases hw_47 with ⟨c_48, rfl, rfl⟩ | ⟨c_49, rfl, rfl⟩
    · skip
      have hP : va_P G vwCl [(ob, .inr (10, [ob_0, .ref wo, .ref mi, .ref hm, .ref mt, .int 0, .ref fv, .int 0, .int 0, .int 0, .int 0, .int 0, .int 0, .int (-1), .ref fr, ob_15, ob_16, ob_17, ob_18, ob_19, ob_20, ob_21, ob_22, ob_23, ob_24, ob_25, ob_26, ob_27, ob_28, ob_29, ob_30, ob_31, ob_32, ob_33, ob_34, .ref cd, ob_36, .ref my, .ref wi, .ref nb, .ref mv])), (my, .inl (y 1, 4, .inl fy)), (wi, .inl (y 1, 4, .inl fi)), (nb, .inl (y 2, 240, .inr (.inl fn)))] H := hP
      have hD : va_D A [(ob, .inr (10, [ob_0, .ref wo, .ref mi, .ref hm, .ref mt, .int 0, .ref fv, .int 0, .int 0, .int 0, .int 0, .int 0, .int 0, .int (-1), .ref fr, ob_15, ob_16, ob_17, ob_18, ob_19, ob_20, ob_21, ob_22, ob_23, ob_24, ob_25, ob_26, ob_27, ob_28, ob_29, ob_30, ob_31, ob_32, ob_33, ob_34, .ref cd, ob_36, .ref my, .ref wi, .ref nb, .ref mv])), (my, .inl (y 1, 4, .inl fy)), (wi, .inl (y 1, 4, .inl fi)), (nb, .inl (y 2, 240, .inr (.inl fn)))] := hD
      refine lv_if_eq (tgt := 25) hx hb dX10_row_4 (by decide) (fun c9 => absurd c9 (by decide)) (fun _ => ?_)
      refine lv_iload_n hx hb dX10_row_7 rfl (lv_at hl 2 rfl) ?_
      refine lv_i2l hx hb dX10_row_8 rfl ?_
      refine lv_lconst (v := 0) hx hb dX10_row_9 (by decide) ?_
      refine lv_ldc2 (own := RX10) (v := 3) hx hb hown (hw0 _ m_165) dX10_row_10 ?_
      refine cSi (As := [.long (a2).toInt64, .long 0, .long 3]) (rest := []) ⟨hx, hb, hml, hown, hw0⟩ hA hK hP hD hS [] [0, 1, 2, 3] [] [(ob, .inr (10, [ob_0, .ref wo, .ref mi, .ref hm, .ref mt, .int 0, .ref fv, .int 0, .int 0, .int 0, .int 0, .int 0, .int 0, .int (-1), .ref fr, ob_15, ob_16, ob_17, ob_18, ob_19, ob_20, ob_21, ob_22, ob_23, ob_24, ob_25, ob_26, ob_27, ob_28, ob_29, ob_30, ob_31, ob_32, ob_33, ob_34, .ref cd, ob_36, .ref my, .ref wi, .ref nb, .ref mv])), (my, .inl (y 1, 4, .inl fy)), (wi, .inl (y 1, 4, .inl fi)), (nb, .inl (y 2, 240, .inr (.inl fn)))] rfl rfl (by decide) (by decide) (by decide) (kX10_in l G y _ ((a2).toInt64) 0 3 ) ⟨(callB_of 3 hw0 (gA m_164) rfl rfl rfl (hw0 _ m_166) (hw0 _ m_167) (by decide +kernel) ⟨Nat.le_of_ble_eq_true rfl, Nat.le_of_ble_eq_true rfl⟩), (hw0 _ m_168)⟩ rfl hl.1 (Nat.le_of_ble_eq_true rfl) dX10_row_13 ⟨Nat.le_of_ble_eq_true rfl, Nat.le_of_ble_eq_true rfl⟩ (fun r_50 w_50 H locs hw_50 hP hD hS => ?_)
      rcases hw_50 with ⟨c_51, rfl, rfl⟩ | ⟨c_52, rfl, rfl⟩
      · skip
        have tc_51 := in_1 (x := a2) (a := 0) (b := 3) c_51 (by decide) (by decide)
        have hP : va_P G vwCl [(ob, .inr (10, [ob_0, .ref wo, .ref mi, .ref hm, .ref mt, .int 0, .ref fv, .int 0, .int 0, .int 0, .int 0, .int 0, .int 0, .int (-1), .ref fr, ob_15, ob_16, ob_17, ob_18, ob_19, ob_20, ob_21, ob_22, ob_23, ob_24, ob_25, ob_26, ob_27, ob_28, ob_29, ob_30, ob_31, ob_32, ob_33, ob_34, .ref cd, ob_36, .ref my, .ref wi, .ref nb, .ref mv])), (my, .inl (y 1, 4, .inl fy)), (wi, .inl (y 1, 4, .inl fi)), (nb, .inl (y 2, 240, .inr (.inl fn)))] H := hP
        have hD : va_D A [(ob, .inr (10, [ob_0, .ref wo, .ref mi, .ref hm, .ref mt, .int 0, .ref fv, .int 0, .int 0, .int 0, .int 0, .int 0, .int 0, .int (-1), .ref fr, ob_15, ob_16, ob_17, ob_18, ob_19, ob_20, ob_21, ob_22, ob_23, ob_24, ob_25, ob_26, ob_27, ob_28, ob_29, ob_30, ob_31, ob_32, ob_33, ob_34, .ref cd, ob_36, .ref my, .ref wi, .ref nb, .ref mv])), (my, .inl (y 1, 4, .inl fy)), (wi, .inl (y 1, 4, .inl fi)), (nb, .inl (y 2, 240, .inr (.inl fn)))] := hD
        refine lv_if_eq (tgt := 25) hx hb dX10_row_16 (by decide) (fun c9 => absurd c9 (by decide)) (fun _ => ?_)
        refine lv_iload_n hx hb dX10_row_19 rfl (lv_at hl 3 rfl) ?_
        refine lv_bipush (v := 60) hx hb dX10_row_20 (by decide) ?_
        refine lv_icmp_le (tgt := 28) hx hb dX10_row_22 (by decide) (fun c_53 => ?_) (fun c_53 => ?_)
        · skip
          have tc_53 : (a3.toInt : Int) ≤ 60 := il_le c_53 rfl (by decide)
          refine lv_iload_n hx hb dX10_row_28 rfl (lv_at hl 3 rfl) ?_
          refine lv_if_ge (tgt := 35) hx hb dX10_row_29 (by decide) (fun c_54 => ?_) (fun c_54 => ?_)
          · skip
            have tc_54 : (0 : Int) ≤ a3.toInt := il_le c_54 (by decide) rfl
            refine lv_aload_n hx hb dX10_row_35 rfl (lv_at hl 0 rfl) ?_
            refine va_get (D := G) (ci := 10) (v := .ref my) (C := RX10) (T := TX10) (N := 41) hx hb hw0 inA_wsX100 hown hK.1 hP 0 rfl rfl 37 (by decide) (hw0 _ m_157) (fun _ h9 => h9) rfl dX10_row_36 ?_
            refine lv_iload_n hx hb dX10_row_39 rfl (lv_at hl 1 rfl) ?_
            refine lv_iload_n hx hb dX10_row_40 rfl (lv_at hl 3 rfl) ?_
            refine va_iast hx hb hK.1 hP hD hS 1 1 rfl rfl (vp_in_nI (n := 2) (N := 4) (by decide) (by decide)) dX10_row_41 (fun H locs hP hD hS => ?_)
            generalize (upd fy (2 : Int32).toNatClampNeg a3) = f_55 at hP hD
            have hP : va_P G vwCl [(ob, .inr (10, [ob_0, .ref wo, .ref mi, .ref hm, .ref mt, .int 0, .ref fv, .int 0, .int 0, .int 0, .int 0, .int 0, .int 0, .int (-1), .ref fr, ob_15, ob_16, ob_17, ob_18, ob_19, ob_20, ob_21, ob_22, ob_23, ob_24, ob_25, ob_26, ob_27, ob_28, ob_29, ob_30, ob_31, ob_32, ob_33, ob_34, .ref cd, ob_36, .ref my, .ref wi, .ref nb, .ref mv])), (my, .inl (y 1, 4, .inl f_55)), (wi, .inl (y 1, 4, .inl fi)), (nb, .inl (y 2, 240, .inr (.inl fn)))] H := hP
            have hD : va_D A [(ob, .inr (10, [ob_0, .ref wo, .ref mi, .ref hm, .ref mt, .int 0, .ref fv, .int 0, .int 0, .int 0, .int 0, .int 0, .int 0, .int (-1), .ref fr, ob_15, ob_16, ob_17, ob_18, ob_19, ob_20, ob_21, ob_22, ob_23, ob_24, ob_25, ob_26, ob_27, ob_28, ob_29, ob_30, ob_31, ob_32, ob_33, ob_34, .ref cd, ob_36, .ref my, .ref wi, .ref nb, .ref mv])), (my, .inl (y 1, 4, .inl f_55)), (wi, .inl (y 1, 4, .inl fi)), (nb, .inl (y 2, 240, .inr (.inl fn)))] := hD
            refine lv_aload_n hx hb dX10_row_42 rfl (lv_at hl 0 rfl) ?_
            refine va_get (D := G) (ci := 10) (v := .ref wi) (C := RX10) (T := TX10) (N := 41) hx hb hw0 inA_wsX100 hown hK.1 hP 0 rfl rfl 38 (by decide) (hw0 _ m_158) (fun _ h9 => h9) rfl dX10_row_43 ?_
            refine lv_iload_n hx hb dX10_row_46 rfl (lv_at hl 1 rfl) ?_
            refine lv_iload_n hx hb dX10_row_47 rfl (lv_at hl 2 rfl) ?_
            refine va_iast hx hb hK.1 hP hD hS 2 1 rfl rfl (vp_in_nI (n := 2) (N := 4) (by decide) (by decide)) dX10_row_48 (fun H locs hP hD hS => ?_)
            generalize (upd fi (2 : Int32).toNatClampNeg a2) = f_56 at hP hD
            have hP : va_P G vwCl [(ob, .inr (10, [ob_0, .ref wo, .ref mi, .ref hm, .ref mt, .int 0, .ref fv, .int 0, .int 0, .int 0, .int 0, .int 0, .int 0, .int (-1), .ref fr, ob_15, ob_16, ob_17, ob_18, ob_19, ob_20, ob_21, ob_22, ob_23, ob_24, ob_25, ob_26, ob_27, ob_28, ob_29, ob_30, ob_31, ob_32, ob_33, ob_34, .ref cd, ob_36, .ref my, .ref wi, .ref nb, .ref mv])), (my, .inl (y 1, 4, .inl f_55)), (wi, .inl (y 1, 4, .inl f_56)), (nb, .inl (y 2, 240, .inr (.inl fn)))] H := hP
            have hD : va_D A [(ob, .inr (10, [ob_0, .ref wo, .ref mi, .ref hm, .ref mt, .int 0, .ref fv, .int 0, .int 0, .int 0, .int 0, .int 0, .int 0, .int (-1), .ref fr, ob_15, ob_16, ob_17, ob_18, ob_19, ob_20, ob_21, ob_22, ob_23, ob_24, ob_25, ob_26, ob_27, ob_28, ob_29, ob_30, ob_31, ob_32, ob_33, ob_34, .ref cd, ob_36, .ref my, .ref wi, .ref nb, .ref mv])), (my, .inl (y 1, 4, .inl f_55)), (wi, .inl (y 1, 4, .inl f_56)), (nb, .inl (y 2, 240, .inr (.inl fn)))] := hD
            refine lv_iconst (v := 0) hx hb dX10_row_49 (by decide) ?_
            refine lv_istore (lv' := [(4, .int 0), (0, .ref ob), (1, .int 2), (2, .int a2), (3, .int a3)]) hx hb dX10_row_50 hl (by decide) rfl (fun ls hl => ?_)
            refine loopW (σ := (Nat → Int64)) (fun n x H locs ls => ∃ i_58 : Nat, i_58 + n = 60 ∧ va_P G vwCl [(ob, .inr (10, [ob_0, .ref wo, .ref mi, .ref hm, .ref mt, .int 0, .ref fv, .int 0, .int 0, .int 0, .int 0, .int 0, .int 0, .int (-1), .ref fr, ob_15, ob_16, ob_17, ob_18, ob_19, ob_20, ob_21, ob_22, ob_23, ob_24, ob_25, ob_26, ob_27, ob_28, ob_29, ob_30, ob_31, ob_32, ob_33, ob_34, .ref cd, ob_36, .ref my, .ref wi, .ref nb, .ref mv])), (my, .inl (y 1, 4, .inl f_55)), (wi, .inl (y 1, 4, .inl f_56)), (nb, .inl (y 2, 240, .inr (.inl (x))))] H ∧ va_D A [(ob, .inr (10, [ob_0, .ref wo, .ref mi, .ref hm, .ref mt, .int 0, .ref fv, .int 0, .int 0, .int 0, .int 0, .int 0, .int 0, .int (-1), .ref fr, ob_15, ob_16, ob_17, ob_18, ob_19, ob_20, ob_21, ob_22, ob_23, ob_24, ob_25, ob_26, ob_27, ob_28, ob_29, ob_30, ob_31, ob_32, ob_33, ob_34, .ref cd, ob_36, .ref my, .ref wi, .ref nb, .ref mv])), (my, .inl (y 1, 4, .inl f_55)), (wi, .inl (y 1, 4, .inl f_56)), (nb, .inl (y 2, 240, .inr (.inl (x))))] ∧ va_S A s.heap H locs ∧ lv_has ls 5 [(4, .int (nI (i_58))), (0, .ref ob), (1, .int 2), (2, .int a2), (3, .int a3)]) ?_ ?_ 60 (fn) ⟨0, by omega, hP, hD, hS, lv_sub hl [0, 1, 2, 3, 4] rfl⟩
            · rintro f_59 H locs ls ⟨i_61, hi9, hP, hD, hS, hl⟩
              obtain rfl : i_61 = 60 := by omega
              have hP : va_P G vwCl [(ob, .inr (10, [ob_0, .ref wo, .ref mi, .ref hm, .ref mt, .int 0, .ref fv, .int 0, .int 0, .int 0, .int 0, .int 0, .int 0, .int (-1), .ref fr, ob_15, ob_16, ob_17, ob_18, ob_19, ob_20, ob_21, ob_22, ob_23, ob_24, ob_25, ob_26, ob_27, ob_28, ob_29, ob_30, ob_31, ob_32, ob_33, ob_34, .ref cd, ob_36, .ref my, .ref wi, .ref nb, .ref mv])), (my, .inl (y 1, 4, .inl f_55)), (wi, .inl (y 1, 4, .inl f_56)), (nb, .inl (y 2, 240, .inr (.inl f_59)))] H := hP
              have hD : va_D A [(ob, .inr (10, [ob_0, .ref wo, .ref mi, .ref hm, .ref mt, .int 0, .ref fv, .int 0, .int 0, .int 0, .int 0, .int 0, .int 0, .int (-1), .ref fr, ob_15, ob_16, ob_17, ob_18, ob_19, ob_20, ob_21, ob_22, ob_23, ob_24, ob_25, ob_26, ob_27, ob_28, ob_29, ob_30, ob_31, ob_32, ob_33, ob_34, .ref cd, ob_36, .ref my, .ref wi, .ref nb, .ref mv])), (my, .inl (y 1, 4, .inl f_55)), (wi, .inl (y 1, 4, .inl f_56)), (nb, .inl (y 2, 240, .inr (.inl f_59)))] := hD
              have hl : lv_has ls 5 [(4, .int 60), (0, .ref ob), (1, .int 2), (2, .int a2), (3, .int a3)] := hl
              refine lv_iload hx hb dX10_row_52 (lv_at hl 0 rfl) ?_
              refine lv_bipush (v := 60) hx hb dX10_row_54 (by decide) ?_
              refine lv_icmp_ge (tgt := 78) hx hb dX10_row_56 (by decide) (fun _ => ?_) (fun c9 => absurd (by decide) c9)
              refine lv_iconst (v := 0) hx hb dX10_row_78 (by decide) ?_
              refine W.widen (k := 0) (n := 0) (Nat.le_of_ble_eq_true rfl) (Nat.le_of_ble_eq_true rfl) ?_
              exact W.iret (v := 0) hx hb hr (fun t ht hW => ⟨⟨0, _, rfl, (by first | rfl | decide | (simp only [sp_row]; (repeat' split) <;> first | rfl | (exfalso; omega))), by rw [ht]; exact hP, hD⟩, hS.F ht⟩) hS.2.2 dX10_row_79
            · rintro n_64 ih_66 f_63 H locs ls ⟨i_65, hi_i_65, hP, hD, hS, hl⟩
              have hb_i_65 : i_65 < 60 := by omega
              have hP : va_P G vwCl [(ob, .inr (10, [ob_0, .ref wo, .ref mi, .ref hm, .ref mt, .int 0, .ref fv, .int 0, .int 0, .int 0, .int 0, .int 0, .int 0, .int (-1), .ref fr, ob_15, ob_16, ob_17, ob_18, ob_19, ob_20, ob_21, ob_22, ob_23, ob_24, ob_25, ob_26, ob_27, ob_28, ob_29, ob_30, ob_31, ob_32, ob_33, ob_34, .ref cd, ob_36, .ref my, .ref wi, .ref nb, .ref mv])), (my, .inl (y 1, 4, .inl f_55)), (wi, .inl (y 1, 4, .inl f_56)), (nb, .inl (y 2, 240, .inr (.inl f_63)))] H := hP
              have hD : va_D A [(ob, .inr (10, [ob_0, .ref wo, .ref mi, .ref hm, .ref mt, .int 0, .ref fv, .int 0, .int 0, .int 0, .int 0, .int 0, .int 0, .int (-1), .ref fr, ob_15, ob_16, ob_17, ob_18, ob_19, ob_20, ob_21, ob_22, ob_23, ob_24, ob_25, ob_26, ob_27, ob_28, ob_29, ob_30, ob_31, ob_32, ob_33, ob_34, .ref cd, ob_36, .ref my, .ref wi, .ref nb, .ref mv])), (my, .inl (y 1, 4, .inl f_55)), (wi, .inl (y 1, 4, .inl f_56)), (nb, .inl (y 2, 240, .inr (.inl f_63)))] := hD
              have hl : lv_has ls 5 [(4, .int (nI (i_65))), (0, .ref ob), (1, .int 2), (2, .int a2), (3, .int a3)] := hl
              refine lv_iload hx hb dX10_row_52 (lv_at hl 0 rfl) ?_
              refine lv_bipush (v := 60) hx hb dX10_row_54 (by decide) ?_
              refine lv_icmp_ge (tgt := 78) hx hb dX10_row_56 (by decide) (fun c9 => absurd c9 (nI_ge (a := i_65) (b := 60) (by omega) (by omega))) (fun _ => ?_)
              refine lv_aload_n hx hb dX10_row_59 rfl (lv_at hl 1 rfl) ?_
              refine va_get (D := G) (ci := 10) (v := .ref nb) (C := RX10) (T := TX10) (N := 41) hx hb hw0 inA_wsX100 hown hK.1 hP 0 rfl rfl 39 (by decide) (hw0 _ m_159) (fun _ h9 => h9) rfl dX10_row_60 ?_
              refine lv_bipush (v := 60) hx hb dX10_row_63 (by decide) ?_
              refine lv_iload_n hx hb dX10_row_65 rfl (lv_at hl 2 rfl) ?_
              refine lv_imul hx hb dX10_row_66 ?_
              refine lv_topi (fun v_67 ev_67 => ?_)
              obtain rfl : 120 = v_67 := (ev_67.trans (by decide)).symm
              refine lv_iload hx hb dX10_row_67 (lv_at hl 0 rfl) ?_
              refine lv_iadd hx hb dX10_row_69 ?_
              refine lv_topi (fun v_68 ev_68 => ?_)
              obtain rfl : (nI (120 + i_65)) = v_68 := (ev_68.trans (nI_add (120) (i_65))).symm
              refine lv_lconst (v := 0) hx hb dX10_row_70 (by decide) ?_
              refine va_last hx hb hK.1 hP hD hS 3 2 rfl rfl (vp_in_nI (n := 120 + i_65) (N := 240) (by omega) (by decide)) dX10_row_71 (fun H locs hP hD hS => ?_)
              generalize (vp_updL f_63 ((nI (120 + i_65)) : Int32).toNatClampNeg 0) = f_69 at hP hD
              have hP : va_P G vwCl [(ob, .inr (10, [ob_0, .ref wo, .ref mi, .ref hm, .ref mt, .int 0, .ref fv, .int 0, .int 0, .int 0, .int 0, .int 0, .int 0, .int (-1), .ref fr, ob_15, ob_16, ob_17, ob_18, ob_19, ob_20, ob_21, ob_22, ob_23, ob_24, ob_25, ob_26, ob_27, ob_28, ob_29, ob_30, ob_31, ob_32, ob_33, ob_34, .ref cd, ob_36, .ref my, .ref wi, .ref nb, .ref mv])), (my, .inl (y 1, 4, .inl f_55)), (wi, .inl (y 1, 4, .inl f_56)), (nb, .inl (y 2, 240, .inr (.inl f_69)))] H := hP
              have hD : va_D A [(ob, .inr (10, [ob_0, .ref wo, .ref mi, .ref hm, .ref mt, .int 0, .ref fv, .int 0, .int 0, .int 0, .int 0, .int 0, .int 0, .int (-1), .ref fr, ob_15, ob_16, ob_17, ob_18, ob_19, ob_20, ob_21, ob_22, ob_23, ob_24, ob_25, ob_26, ob_27, ob_28, ob_29, ob_30, ob_31, ob_32, ob_33, ob_34, .ref cd, ob_36, .ref my, .ref wi, .ref nb, .ref mv])), (my, .inl (y 1, 4, .inl f_55)), (wi, .inl (y 1, 4, .inl f_56)), (nb, .inl (y 2, 240, .inr (.inl f_69)))] := hD
              refine lv_iinc (v := (nI (i_65 + 1))) (lv' := [(4, .int (nI (i_65 + 1))), (0, .ref ob), (1, .int 2), (2, .int a2), (3, .int a3)]) hx hb dX10_row_72 hl (k := 0) rfl (by exact nI_1 _) (by decide) rfl (fun ls hl => ?_)
              refine lv_goto (tgt := 52) hx hb dX10_row_75 (by decide) ?_
              exact ih_66 _ H locs ls ⟨i_65 + 1, by omega, hP, hD, hS, lv_sub hl [0, 1, 2, 3, 4] rfl⟩
          · skip
            have tc_54 : (0 : Int) > a3.toInt := il_nle c_54 (by decide) rfl
            refine lv_bipush (v := (-3)) hx hb dX10_row_32 (by decide) ?_
            refine W.widen (k := 0) (n := 0) (Nat.le_of_ble_eq_true rfl) (Nat.le_of_ble_eq_true rfl) ?_
            exact W.iret (v := (-3)) hx hb hr (fun t ht hW => ⟨⟨(-3), _, rfl, (by first | rfl | decide | (simp only [sp_row]; (repeat' split) <;> first | rfl | (exfalso; omega))), by rw [ht]; exact hP, hD⟩, hS.F ht⟩) hS.2.2 dX10_row_34
        · skip
          have tc_53 : (a3.toInt : Int) > 60 := il_nle c_53 rfl (by decide)
          refine lv_bipush (v := (-2)) hx hb dX10_row_25 (by decide) ?_
          refine W.widen (k := 0) (n := 0) (Nat.le_of_ble_eq_true rfl) (Nat.le_of_ble_eq_true rfl) ?_
          exact W.iret (v := (-2)) hx hb hr (fun t ht hW => ⟨⟨(-2), _, rfl, (by first | rfl | decide | (simp only [sp_row]; (repeat' split) <;> first | rfl | (exfalso; omega))), by rw [ht]; exact hP, hD⟩, hS.F ht⟩) hS.2.2 dX10_row_27
      · skip
        have tc_52 := in_0 (x := a2) (a := 0) (b := 3) c_52 (by decide) (by decide)
        have hP : va_P G vwCl [(ob, .inr (10, [ob_0, .ref wo, .ref mi, .ref hm, .ref mt, .int 0, .ref fv, .int 0, .int 0, .int 0, .int 0, .int 0, .int 0, .int (-1), .ref fr, ob_15, ob_16, ob_17, ob_18, ob_19, ob_20, ob_21, ob_22, ob_23, ob_24, ob_25, ob_26, ob_27, ob_28, ob_29, ob_30, ob_31, ob_32, ob_33, ob_34, .ref cd, ob_36, .ref my, .ref wi, .ref nb, .ref mv])), (my, .inl (y 1, 4, .inl fy)), (wi, .inl (y 1, 4, .inl fi)), (nb, .inl (y 2, 240, .inr (.inl fn)))] H := hP
        have hD : va_D A [(ob, .inr (10, [ob_0, .ref wo, .ref mi, .ref hm, .ref mt, .int 0, .ref fv, .int 0, .int 0, .int 0, .int 0, .int 0, .int 0, .int (-1), .ref fr, ob_15, ob_16, ob_17, ob_18, ob_19, ob_20, ob_21, ob_22, ob_23, ob_24, ob_25, ob_26, ob_27, ob_28, ob_29, ob_30, ob_31, ob_32, ob_33, ob_34, .ref cd, ob_36, .ref my, .ref wi, .ref nb, .ref mv])), (my, .inl (y 1, 4, .inl fy)), (wi, .inl (y 1, 4, .inl fi)), (nb, .inl (y 2, 240, .inr (.inl fn)))] := hD
        refine lv_if_eq (tgt := 25) hx hb dX10_row_16 (by decide) (fun _ => ?_) (fun c9 => absurd (by decide) c9)
        refine lv_bipush (v := (-2)) hx hb dX10_row_25 (by decide) ?_
        refine W.widen (k := 0) (n := 0) (Nat.le_of_ble_eq_true rfl) (Nat.le_of_ble_eq_true rfl) ?_
        exact W.iret (v := (-2)) hx hb hr (fun t ht hW => ⟨⟨(-2), _, rfl, (by first | rfl | decide | (simp only [sp_row]; (repeat' split) <;> first | rfl | (exfalso; omega))), by rw [ht]; exact hP, hD⟩, hS.F ht⟩) hS.2.2 dX10_row_27
    · skip
      exact absurd c_49 (by decide)
  · have hl : lv_has ls 5 [(0, .ref ob), (1, .int 3), (2, .int a2), (3, .int a3)] := hl
    refine lv_iload_n hx hb dX10_row_0 rfl (lv_at hl 1 rfl) ?_
    refine cSi (As := [.int 3]) (rest := []) ⟨hx, hb, hml, hown, hw0⟩ hA hK hP hD hS [] [0, 1, 2, 3] [] [(ob, .inr (10, [ob_0, .ref wo, .ref mi, .ref hm, .ref mt, .int 0, .ref fv, .int 0, .int 0, .int 0, .int 0, .int 0, .int 0, .int (-1), .ref fr, ob_15, ob_16, ob_17, ob_18, ob_19, ob_20, ob_21, ob_22, ob_23, ob_24, ob_25, ob_26, ob_27, ob_28, ob_29, ob_30, ob_31, ob_32, ob_33, ob_34, .ref cd, ob_36, .ref my, .ref wi, .ref nb, .ref mv])), (my, .inl (y 1, 4, .inl fy)), (wi, .inl (y 1, 4, .inl fi)), (nb, .inl (y 2, 240, .inr (.inl fn)))] rfl rfl (by decide) (by decide) (by decide) (kX10_isSlot l G y _ 3 ) ⟨(callB_of 1 hw0 (gA m_169) rfl rfl rfl (hw0 _ m_166) (hw0 _ m_378) (by decide +kernel) ⟨Nat.le_of_ble_eq_true rfl, Nat.le_of_ble_eq_true rfl⟩), (hw0 _ m_379)⟩ rfl hl.1 (Nat.le_of_ble_eq_true rfl) dX10_row_1 ⟨Nat.le_of_ble_eq_true rfl, Nat.le_of_ble_eq_true rfl⟩ (fun r_70 w_70 H locs hw_70 hP hD hS => ?_)
    rcases hw_70 with ⟨c_71, rfl, rfl⟩ | ⟨c_72, rfl, rfl⟩
    · skip
      have hP : va_P G vwCl [(ob, .inr (10, [ob_0, .ref wo, .ref mi, .ref hm, .ref mt, .int 0, .ref fv, .int 0, .int 0, .int 0, .int 0, .int 0, .int 0, .int (-1), .ref fr, ob_15, ob_16, ob_17, ob_18, ob_19, ob_20, ob_21, ob_22, ob_23, ob_24, ob_25, ob_26, ob_27, ob_28, ob_29, ob_30, ob_31, ob_32, ob_33, ob_34, .ref cd, ob_36, .ref my, .ref wi, .ref nb, .ref mv])), (my, .inl (y 1, 4, .inl fy)), (wi, .inl (y 1, 4, .inl fi)), (nb, .inl (y 2, 240, .inr (.inl fn)))] H := hP
      have hD : va_D A [(ob, .inr (10, [ob_0, .ref wo, .ref mi, .ref hm, .ref mt, .int 0, .ref fv, .int 0, .int 0, .int 0, .int 0, .int 0, .int 0, .int (-1), .ref fr, ob_15, ob_16, ob_17, ob_18, ob_19, ob_20, ob_21, ob_22, ob_23, ob_24, ob_25, ob_26, ob_27, ob_28, ob_29, ob_30, ob_31, ob_32, ob_33, ob_34, .ref cd, ob_36, .ref my, .ref wi, .ref nb, .ref mv])), (my, .inl (y 1, 4, .inl fy)), (wi, .inl (y 1, 4, .inl fi)), (nb, .inl (y 2, 240, .inr (.inl fn)))] := hD
      refine lv_if_eq (tgt := 25) hx hb dX10_row_4 (by decide) (fun c9 => absurd c9 (by decide)) (fun _ => ?_)
      refine lv_iload_n hx hb dX10_row_7 rfl (lv_at hl 2 rfl) ?_
      refine lv_i2l hx hb dX10_row_8 rfl ?_
      refine lv_lconst (v := 0) hx hb dX10_row_9 (by decide) ?_
      refine lv_ldc2 (own := RX10) (v := 3) hx hb hown (hw0 _ m_165) dX10_row_10 ?_
      refine cSi (As := [.long (a2).toInt64, .long 0, .long 3]) (rest := []) ⟨hx, hb, hml, hown, hw0⟩ hA hK hP hD hS [] [0, 1, 2, 3] [] [(ob, .inr (10, [ob_0, .ref wo, .ref mi, .ref hm, .ref mt, .int 0, .ref fv, .int 0, .int 0, .int 0, .int 0, .int 0, .int 0, .int (-1), .ref fr, ob_15, ob_16, ob_17, ob_18, ob_19, ob_20, ob_21, ob_22, ob_23, ob_24, ob_25, ob_26, ob_27, ob_28, ob_29, ob_30, ob_31, ob_32, ob_33, ob_34, .ref cd, ob_36, .ref my, .ref wi, .ref nb, .ref mv])), (my, .inl (y 1, 4, .inl fy)), (wi, .inl (y 1, 4, .inl fi)), (nb, .inl (y 2, 240, .inr (.inl fn)))] rfl rfl (by decide) (by decide) (by decide) (kX10_in l G y _ ((a2).toInt64) 0 3 ) ⟨(callB_of 3 hw0 (gA m_164) rfl rfl rfl (hw0 _ m_166) (hw0 _ m_167) (by decide +kernel) ⟨Nat.le_of_ble_eq_true rfl, Nat.le_of_ble_eq_true rfl⟩), (hw0 _ m_168)⟩ rfl hl.1 (Nat.le_of_ble_eq_true rfl) dX10_row_13 ⟨Nat.le_of_ble_eq_true rfl, Nat.le_of_ble_eq_true rfl⟩ (fun r_73 w_73 H locs hw_73 hP hD hS => ?_)
      rcases hw_73 with ⟨c_74, rfl, rfl⟩ | ⟨c_75, rfl, rfl⟩
      · skip
        have tc_74 := in_1 (x := a2) (a := 0) (b := 3) c_74 (by decide) (by decide)
        have hP : va_P G vwCl [(ob, .inr (10, [ob_0, .ref wo, .ref mi, .ref hm, .ref mt, .int 0, .ref fv, .int 0, .int 0, .int 0, .int 0, .int 0, .int 0, .int (-1), .ref fr, ob_15, ob_16, ob_17, ob_18, ob_19, ob_20, ob_21, ob_22, ob_23, ob_24, ob_25, ob_26, ob_27, ob_28, ob_29, ob_30, ob_31, ob_32, ob_33, ob_34, .ref cd, ob_36, .ref my, .ref wi, .ref nb, .ref mv])), (my, .inl (y 1, 4, .inl fy)), (wi, .inl (y 1, 4, .inl fi)), (nb, .inl (y 2, 240, .inr (.inl fn)))] H := hP
        have hD : va_D A [(ob, .inr (10, [ob_0, .ref wo, .ref mi, .ref hm, .ref mt, .int 0, .ref fv, .int 0, .int 0, .int 0, .int 0, .int 0, .int 0, .int (-1), .ref fr, ob_15, ob_16, ob_17, ob_18, ob_19, ob_20, ob_21, ob_22, ob_23, ob_24, ob_25, ob_26, ob_27, ob_28, ob_29, ob_30, ob_31, ob_32, ob_33, ob_34, .ref cd, ob_36, .ref my, .ref wi, .ref nb, .ref mv])), (my, .inl (y 1, 4, .inl fy)), (wi, .inl (y 1, 4, .inl fi)), (nb, .inl (y 2, 240, .inr (.inl fn)))] := hD
        refine lv_if_eq (tgt := 25) hx hb dX10_row_16 (by decide) (fun c9 => absurd c9 (by decide)) (fun _ => ?_)
        refine lv_iload_n hx hb dX10_row_19 rfl (lv_at hl 3 rfl) ?_
        refine lv_bipush (v := 60) hx hb dX10_row_20 (by decide) ?_
        refine lv_icmp_le (tgt := 28) hx hb dX10_row_22 (by decide) (fun c_76 => ?_) (fun c_76 => ?_)
        · skip
          have tc_76 : (a3.toInt : Int) ≤ 60 := il_le c_76 rfl (by decide)
          refine lv_iload_n hx hb dX10_row_28 rfl (lv_at hl 3 rfl) ?_
          refine lv_if_ge (tgt := 35) hx hb dX10_row_29 (by decide) (fun c_77 => ?_) (fun c_77 => ?_)
          · skip
            have tc_77 : (0 : Int) ≤ a3.toInt := il_le c_77 (by decide) rfl
            refine lv_aload_n hx hb dX10_row_35 rfl (lv_at hl 0 rfl) ?_
            refine va_get (D := G) (ci := 10) (v := .ref my) (C := RX10) (T := TX10) (N := 41) hx hb hw0 inA_wsX100 hown hK.1 hP 0 rfl rfl 37 (by decide) (hw0 _ m_157) (fun _ h9 => h9) rfl dX10_row_36 ?_
            refine lv_iload_n hx hb dX10_row_39 rfl (lv_at hl 1 rfl) ?_
            refine lv_iload_n hx hb dX10_row_40 rfl (lv_at hl 3 rfl) ?_
            refine va_iast hx hb hK.1 hP hD hS 1 1 rfl rfl (vp_in_nI (n := 3) (N := 4) (by decide) (by decide)) dX10_row_41 (fun H locs hP hD hS => ?_)
            generalize (upd fy (3 : Int32).toNatClampNeg a3) = f_78 at hP hD
            have hP : va_P G vwCl [(ob, .inr (10, [ob_0, .ref wo, .ref mi, .ref hm, .ref mt, .int 0, .ref fv, .int 0, .int 0, .int 0, .int 0, .int 0, .int 0, .int (-1), .ref fr, ob_15, ob_16, ob_17, ob_18, ob_19, ob_20, ob_21, ob_22, ob_23, ob_24, ob_25, ob_26, ob_27, ob_28, ob_29, ob_30, ob_31, ob_32, ob_33, ob_34, .ref cd, ob_36, .ref my, .ref wi, .ref nb, .ref mv])), (my, .inl (y 1, 4, .inl f_78)), (wi, .inl (y 1, 4, .inl fi)), (nb, .inl (y 2, 240, .inr (.inl fn)))] H := hP
            have hD : va_D A [(ob, .inr (10, [ob_0, .ref wo, .ref mi, .ref hm, .ref mt, .int 0, .ref fv, .int 0, .int 0, .int 0, .int 0, .int 0, .int 0, .int (-1), .ref fr, ob_15, ob_16, ob_17, ob_18, ob_19, ob_20, ob_21, ob_22, ob_23, ob_24, ob_25, ob_26, ob_27, ob_28, ob_29, ob_30, ob_31, ob_32, ob_33, ob_34, .ref cd, ob_36, .ref my, .ref wi, .ref nb, .ref mv])), (my, .inl (y 1, 4, .inl f_78)), (wi, .inl (y 1, 4, .inl fi)), (nb, .inl (y 2, 240, .inr (.inl fn)))] := hD
            refine lv_aload_n hx hb dX10_row_42 rfl (lv_at hl 0 rfl) ?_
            refine va_get (D := G) (ci := 10) (v := .ref wi) (C := RX10) (T := TX10) (N := 41) hx hb hw0 inA_wsX100 hown hK.1 hP 0 rfl rfl 38 (by decide) (hw0 _ m_158) (fun _ h9 => h9) rfl dX10_row_43 ?_
            refine lv_iload_n hx hb dX10_row_46 rfl (lv_at hl 1 rfl) ?_
            refine lv_iload_n hx hb dX10_row_47 rfl (lv_at hl 2 rfl) ?_
            refine va_iast hx hb hK.1 hP hD hS 2 1 rfl rfl (vp_in_nI (n := 3) (N := 4) (by decide) (by decide)) dX10_row_48 (fun H locs hP hD hS => ?_)
            generalize (upd fi (3 : Int32).toNatClampNeg a2) = f_79 at hP hD
            have hP : va_P G vwCl [(ob, .inr (10, [ob_0, .ref wo, .ref mi, .ref hm, .ref mt, .int 0, .ref fv, .int 0, .int 0, .int 0, .int 0, .int 0, .int 0, .int (-1), .ref fr, ob_15, ob_16, ob_17, ob_18, ob_19, ob_20, ob_21, ob_22, ob_23, ob_24, ob_25, ob_26, ob_27, ob_28, ob_29, ob_30, ob_31, ob_32, ob_33, ob_34, .ref cd, ob_36, .ref my, .ref wi, .ref nb, .ref mv])), (my, .inl (y 1, 4, .inl f_78)), (wi, .inl (y 1, 4, .inl f_79)), (nb, .inl (y 2, 240, .inr (.inl fn)))] H := hP
            have hD : va_D A [(ob, .inr (10, [ob_0, .ref wo, .ref mi, .ref hm, .ref mt, .int 0, .ref fv, .int 0, .int 0, .int 0, .int 0, .int 0, .int 0, .int (-1), .ref fr, ob_15, ob_16, ob_17, ob_18, ob_19, ob_20, ob_21, ob_22, ob_23, ob_24, ob_25, ob_26, ob_27, ob_28, ob_29, ob_30, ob_31, ob_32, ob_33, ob_34, .ref cd, ob_36, .ref my, .ref wi, .ref nb, .ref mv])), (my, .inl (y 1, 4, .inl f_78)), (wi, .inl (y 1, 4, .inl f_79)), (nb, .inl (y 2, 240, .inr (.inl fn)))] := hD
            refine lv_iconst (v := 0) hx hb dX10_row_49 (by decide) ?_
            refine lv_istore (lv' := [(4, .int 0), (0, .ref ob), (1, .int 3), (2, .int a2), (3, .int a3)]) hx hb dX10_row_50 hl (by decide) rfl (fun ls hl => ?_)
            refine loopW (σ := (Nat → Int64)) (fun n x H locs ls => ∃ i_81 : Nat, i_81 + n = 60 ∧ va_P G vwCl [(ob, .inr (10, [ob_0, .ref wo, .ref mi, .ref hm, .ref mt, .int 0, .ref fv, .int 0, .int 0, .int 0, .int 0, .int 0, .int 0, .int (-1), .ref fr, ob_15, ob_16, ob_17, ob_18, ob_19, ob_20, ob_21, ob_22, ob_23, ob_24, ob_25, ob_26, ob_27, ob_28, ob_29, ob_30, ob_31, ob_32, ob_33, ob_34, .ref cd, ob_36, .ref my, .ref wi, .ref nb, .ref mv])), (my, .inl (y 1, 4, .inl f_78)), (wi, .inl (y 1, 4, .inl f_79)), (nb, .inl (y 2, 240, .inr (.inl (x))))] H ∧ va_D A [(ob, .inr (10, [ob_0, .ref wo, .ref mi, .ref hm, .ref mt, .int 0, .ref fv, .int 0, .int 0, .int 0, .int 0, .int 0, .int 0, .int (-1), .ref fr, ob_15, ob_16, ob_17, ob_18, ob_19, ob_20, ob_21, ob_22, ob_23, ob_24, ob_25, ob_26, ob_27, ob_28, ob_29, ob_30, ob_31, ob_32, ob_33, ob_34, .ref cd, ob_36, .ref my, .ref wi, .ref nb, .ref mv])), (my, .inl (y 1, 4, .inl f_78)), (wi, .inl (y 1, 4, .inl f_79)), (nb, .inl (y 2, 240, .inr (.inl (x))))] ∧ va_S A s.heap H locs ∧ lv_has ls 5 [(4, .int (nI (i_81))), (0, .ref ob), (1, .int 3), (2, .int a2), (3, .int a3)]) ?_ ?_ 60 (fn) ⟨0, by omega, hP, hD, hS, lv_sub hl [0, 1, 2, 3, 4] rfl⟩
            · rintro f_82 H locs ls ⟨i_84, hi9, hP, hD, hS, hl⟩
              obtain rfl : i_84 = 60 := by omega
              have hP : va_P G vwCl [(ob, .inr (10, [ob_0, .ref wo, .ref mi, .ref hm, .ref mt, .int 0, .ref fv, .int 0, .int 0, .int 0, .int 0, .int 0, .int 0, .int (-1), .ref fr, ob_15, ob_16, ob_17, ob_18, ob_19, ob_20, ob_21, ob_22, ob_23, ob_24, ob_25, ob_26, ob_27, ob_28, ob_29, ob_30, ob_31, ob_32, ob_33, ob_34, .ref cd, ob_36, .ref my, .ref wi, .ref nb, .ref mv])), (my, .inl (y 1, 4, .inl f_78)), (wi, .inl (y 1, 4, .inl f_79)), (nb, .inl (y 2, 240, .inr (.inl f_82)))] H := hP
              have hD : va_D A [(ob, .inr (10, [ob_0, .ref wo, .ref mi, .ref hm, .ref mt, .int 0, .ref fv, .int 0, .int 0, .int 0, .int 0, .int 0, .int 0, .int (-1), .ref fr, ob_15, ob_16, ob_17, ob_18, ob_19, ob_20, ob_21, ob_22, ob_23, ob_24, ob_25, ob_26, ob_27, ob_28, ob_29, ob_30, ob_31, ob_32, ob_33, ob_34, .ref cd, ob_36, .ref my, .ref wi, .ref nb, .ref mv])), (my, .inl (y 1, 4, .inl f_78)), (wi, .inl (y 1, 4, .inl f_79)), (nb, .inl (y 2, 240, .inr (.inl f_82)))] := hD
              have hl : lv_has ls 5 [(4, .int 60), (0, .ref ob), (1, .int 3), (2, .int a2), (3, .int a3)] := hl
              refine lv_iload hx hb dX10_row_52 (lv_at hl 0 rfl) ?_
              refine lv_bipush (v := 60) hx hb dX10_row_54 (by decide) ?_
              refine lv_icmp_ge (tgt := 78) hx hb dX10_row_56 (by decide) (fun _ => ?_) (fun c9 => absurd (by decide) c9)
              refine lv_iconst (v := 0) hx hb dX10_row_78 (by decide) ?_
              refine W.widen (k := 0) (n := 0) (Nat.le_of_ble_eq_true rfl) (Nat.le_of_ble_eq_true rfl) ?_
              exact W.iret (v := 0) hx hb hr (fun t ht hW => ⟨⟨0, _, rfl, (by first | rfl | decide | (simp only [sp_row]; (repeat' split) <;> first | rfl | (exfalso; omega))), by rw [ht]; exact hP, hD⟩, hS.F ht⟩) hS.2.2 dX10_row_79
            · rintro n_87 ih_89 f_86 H locs ls ⟨i_88, hi_i_88, hP, hD, hS, hl⟩
              have hb_i_88 : i_88 < 60 := by omega
              have hP : va_P G vwCl [(ob, .inr (10, [ob_0, .ref wo, .ref mi, .ref hm, .ref mt, .int 0, .ref fv, .int 0, .int 0, .int 0, .int 0, .int 0, .int 0, .int (-1), .ref fr, ob_15, ob_16, ob_17, ob_18, ob_19, ob_20, ob_21, ob_22, ob_23, ob_24, ob_25, ob_26, ob_27, ob_28, ob_29, ob_30, ob_31, ob_32, ob_33, ob_34, .ref cd, ob_36, .ref my, .ref wi, .ref nb, .ref mv])), (my, .inl (y 1, 4, .inl f_78)), (wi, .inl (y 1, 4, .inl f_79)), (nb, .inl (y 2, 240, .inr (.inl f_86)))] H := hP
              have hD : va_D A [(ob, .inr (10, [ob_0, .ref wo, .ref mi, .ref hm, .ref mt, .int 0, .ref fv, .int 0, .int 0, .int 0, .int 0, .int 0, .int 0, .int (-1), .ref fr, ob_15, ob_16, ob_17, ob_18, ob_19, ob_20, ob_21, ob_22, ob_23, ob_24, ob_25, ob_26, ob_27, ob_28, ob_29, ob_30, ob_31, ob_32, ob_33, ob_34, .ref cd, ob_36, .ref my, .ref wi, .ref nb, .ref mv])), (my, .inl (y 1, 4, .inl f_78)), (wi, .inl (y 1, 4, .inl f_79)), (nb, .inl (y 2, 240, .inr (.inl f_86)))] := hD
              have hl : lv_has ls 5 [(4, .int (nI (i_88))), (0, .ref ob), (1, .int 3), (2, .int a2), (3, .int a3)] := hl
              refine lv_iload hx hb dX10_row_52 (lv_at hl 0 rfl) ?_
              refine lv_bipush (v := 60) hx hb dX10_row_54 (by decide) ?_
              refine lv_icmp_ge (tgt := 78) hx hb dX10_row_56 (by decide) (fun c9 => absurd c9 (nI_ge (a := i_88) (b := 60) (by omega) (by omega))) (fun _ => ?_)
              refine lv_aload_n hx hb dX10_row_59 rfl (lv_at hl 1 rfl) ?_
              refine va_get (D := G) (ci := 10) (v := .ref nb) (C := RX10) (T := TX10) (N := 41) hx hb hw0 inA_wsX100 hown hK.1 hP 0 rfl rfl 39 (by decide) (hw0 _ m_159) (fun _ h9 => h9) rfl dX10_row_60 ?_
              refine lv_bipush (v := 60) hx hb dX10_row_63 (by decide) ?_
              refine lv_iload_n hx hb dX10_row_65 rfl (lv_at hl 2 rfl) ?_
              refine lv_imul hx hb dX10_row_66 ?_
              refine lv_topi (fun v_90 ev_90 => ?_)
              obtain rfl : 180 = v_90 := (ev_90.trans (by decide)).symm
              refine lv_iload hx hb dX10_row_67 (lv_at hl 0 rfl) ?_
              refine lv_iadd hx hb dX10_row_69 ?_
              refine lv_topi (fun v_91 ev_91 => ?_)
              obtain rfl : (nI (180 + i_88)) = v_91 := (ev_91.trans (nI_add (180) (i_88))).symm
              refine lv_lconst (v := 0) hx hb dX10_row_70 (by decide) ?_
              refine va_last hx hb hK.1 hP hD hS 3 2 rfl rfl (vp_in_nI (n := 180 + i_88) (N := 240) (by omega) (by decide)) dX10_row_71 (fun H locs hP hD hS => ?_)
              generalize (vp_updL f_86 ((nI (180 + i_88)) : Int32).toNatClampNeg 0) = f_92 at hP hD
              have hP : va_P G vwCl [(ob, .inr (10, [ob_0, .ref wo, .ref mi, .ref hm, .ref mt, .int 0, .ref fv, .int 0, .int 0, .int 0, .int 0, .int 0, .int 0, .int (-1), .ref fr, ob_15, ob_16, ob_17, ob_18, ob_19, ob_20, ob_21, ob_22, ob_23, ob_24, ob_25, ob_26, ob_27, ob_28, ob_29, ob_30, ob_31, ob_32, ob_33, ob_34, .ref cd, ob_36, .ref my, .ref wi, .ref nb, .ref mv])), (my, .inl (y 1, 4, .inl f_78)), (wi, .inl (y 1, 4, .inl f_79)), (nb, .inl (y 2, 240, .inr (.inl f_92)))] H := hP
              have hD : va_D A [(ob, .inr (10, [ob_0, .ref wo, .ref mi, .ref hm, .ref mt, .int 0, .ref fv, .int 0, .int 0, .int 0, .int 0, .int 0, .int 0, .int (-1), .ref fr, ob_15, ob_16, ob_17, ob_18, ob_19, ob_20, ob_21, ob_22, ob_23, ob_24, ob_25, ob_26, ob_27, ob_28, ob_29, ob_30, ob_31, ob_32, ob_33, ob_34, .ref cd, ob_36, .ref my, .ref wi, .ref nb, .ref mv])), (my, .inl (y 1, 4, .inl f_78)), (wi, .inl (y 1, 4, .inl f_79)), (nb, .inl (y 2, 240, .inr (.inl f_92)))] := hD
              refine lv_iinc (v := (nI (i_88 + 1))) (lv' := [(4, .int (nI (i_88 + 1))), (0, .ref ob), (1, .int 3), (2, .int a2), (3, .int a3)]) hx hb dX10_row_72 hl (k := 0) rfl (by exact nI_1 _) (by decide) rfl (fun ls hl => ?_)
              refine lv_goto (tgt := 52) hx hb dX10_row_75 (by decide) ?_
              exact ih_89 _ H locs ls ⟨i_88 + 1, by omega, hP, hD, hS, lv_sub hl [0, 1, 2, 3, 4] rfl⟩
          · skip
            have tc_77 : (0 : Int) > a3.toInt := il_nle c_77 (by decide) rfl
            refine lv_bipush (v := (-3)) hx hb dX10_row_32 (by decide) ?_
            refine W.widen (k := 0) (n := 0) (Nat.le_of_ble_eq_true rfl) (Nat.le_of_ble_eq_true rfl) ?_
            exact W.iret (v := (-3)) hx hb hr (fun t ht hW => ⟨⟨(-3), _, rfl, (by first | rfl | decide | (simp only [sp_row]; (repeat' split) <;> first | rfl | (exfalso; omega))), by rw [ht]; exact hP, hD⟩, hS.F ht⟩) hS.2.2 dX10_row_34
        · skip
          have tc_76 : (a3.toInt : Int) > 60 := il_nle c_76 rfl (by decide)
          refine lv_bipush (v := (-2)) hx hb dX10_row_25 (by decide) ?_
          refine W.widen (k := 0) (n := 0) (Nat.le_of_ble_eq_true rfl) (Nat.le_of_ble_eq_true rfl) ?_
          exact W.iret (v := (-2)) hx hb hr (fun t ht hW => ⟨⟨(-2), _, rfl, (by first | rfl | decide | (simp only [sp_row]; (repeat' split) <;> first | rfl | (exfalso; omega))), by rw [ht]; exact hP, hD⟩, hS.F ht⟩) hS.2.2 dX10_row_27
      · skip
        have tc_75 := in_0 (x := a2) (a := 0) (b := 3) c_75 (by decide) (by decide)
        have hP : va_P G vwCl [(ob, .inr (10, [ob_0, .ref wo, .ref mi, .ref hm, .ref mt, .int 0, .ref fv, .int 0, .int 0, .int 0, .int 0, .int 0, .int 0, .int (-1), .ref fr, ob_15, ob_16, ob_17, ob_18, ob_19, ob_20, ob_21, ob_22, ob_23, ob_24, ob_25, ob_26, ob_27, ob_28, ob_29, ob_30, ob_31, ob_32, ob_33, ob_34, .ref cd, ob_36, .ref my, .ref wi, .ref nb, .ref mv])), (my, .inl (y 1, 4, .inl fy)), (wi, .inl (y 1, 4, .inl fi)), (nb, .inl (y 2, 240, .inr (.inl fn)))] H := hP
        have hD : va_D A [(ob, .inr (10, [ob_0, .ref wo, .ref mi, .ref hm, .ref mt, .int 0, .ref fv, .int 0, .int 0, .int 0, .int 0, .int 0, .int 0, .int (-1), .ref fr, ob_15, ob_16, ob_17, ob_18, ob_19, ob_20, ob_21, ob_22, ob_23, ob_24, ob_25, ob_26, ob_27, ob_28, ob_29, ob_30, ob_31, ob_32, ob_33, ob_34, .ref cd, ob_36, .ref my, .ref wi, .ref nb, .ref mv])), (my, .inl (y 1, 4, .inl fy)), (wi, .inl (y 1, 4, .inl fi)), (nb, .inl (y 2, 240, .inr (.inl fn)))] := hD
        refine lv_if_eq (tgt := 25) hx hb dX10_row_16 (by decide) (fun _ => ?_) (fun c9 => absurd (by decide) c9)
        refine lv_bipush (v := (-2)) hx hb dX10_row_25 (by decide) ?_
        refine W.widen (k := 0) (n := 0) (Nat.le_of_ble_eq_true rfl) (Nat.le_of_ble_eq_true rfl) ?_
        exact W.iret (v := (-2)) hx hb hr (fun t ht hW => ⟨⟨(-2), _, rfl, (by first | rfl | decide | (simp only [sp_row]; (repeat' split) <;> first | rfl | (exfalso; omega))), by rw [ht]; exact hP, hD⟩, hS.F ht⟩) hS.2.2 dX10_row_27
    · skip
      exact absurd c_72 (by decide)
  · have hl : lv_has ls 5 [(0, .ref ob), (1, .int a1), (2, .int a2), (3, .int a3)] := hl
    refine lv_iload_n hx hb dX10_row_0 rfl (lv_at hl 1 rfl) ?_
    refine cSi (As := [.int a1]) (rest := []) ⟨hx, hb, hml, hown, hw0⟩ hA hK hP hD hS [] [0, 1, 2, 3] [] [(ob, .inr (10, [ob_0, .ref wo, .ref mi, .ref hm, .ref mt, .int 0, .ref fv, .int 0, .int 0, .int 0, .int 0, .int 0, .int 0, .int (-1), .ref fr, ob_15, ob_16, ob_17, ob_18, ob_19, ob_20, ob_21, ob_22, ob_23, ob_24, ob_25, ob_26, ob_27, ob_28, ob_29, ob_30, ob_31, ob_32, ob_33, ob_34, .ref cd, ob_36, .ref my, .ref wi, .ref nb, .ref mv])), (my, .inl (y 1, 4, .inl fy)), (wi, .inl (y 1, 4, .inl fi)), (nb, .inl (y 2, 240, .inr (.inl fn)))] rfl rfl (by decide) (by decide) (by decide) (kX10_isSlot l G y _ a1 ) ⟨(callB_of 1 hw0 (gA m_169) rfl rfl rfl (hw0 _ m_166) (hw0 _ m_378) (by decide +kernel) ⟨Nat.le_of_ble_eq_true rfl, Nat.le_of_ble_eq_true rfl⟩), (hw0 _ m_379)⟩ rfl hl.1 (Nat.le_of_ble_eq_true rfl) dX10_row_1 ⟨Nat.le_of_ble_eq_true rfl, Nat.le_of_ble_eq_true rfl⟩ (fun r_93 w_93 H locs hw_93 hP hD hS => ?_)
    rcases hw_93 with ⟨c_94, rfl, rfl⟩ | ⟨c_95, rfl, rfl⟩
    · skip
      exfalso; omega
    · skip
      have hP : va_P G vwCl [(ob, .inr (10, [ob_0, .ref wo, .ref mi, .ref hm, .ref mt, .int 0, .ref fv, .int 0, .int 0, .int 0, .int 0, .int 0, .int 0, .int (-1), .ref fr, ob_15, ob_16, ob_17, ob_18, ob_19, ob_20, ob_21, ob_22, ob_23, ob_24, ob_25, ob_26, ob_27, ob_28, ob_29, ob_30, ob_31, ob_32, ob_33, ob_34, .ref cd, ob_36, .ref my, .ref wi, .ref nb, .ref mv])), (my, .inl (y 1, 4, .inl fy)), (wi, .inl (y 1, 4, .inl fi)), (nb, .inl (y 2, 240, .inr (.inl fn)))] H := hP
      have hD : va_D A [(ob, .inr (10, [ob_0, .ref wo, .ref mi, .ref hm, .ref mt, .int 0, .ref fv, .int 0, .int 0, .int 0, .int 0, .int 0, .int 0, .int (-1), .ref fr, ob_15, ob_16, ob_17, ob_18, ob_19, ob_20, ob_21, ob_22, ob_23, ob_24, ob_25, ob_26, ob_27, ob_28, ob_29, ob_30, ob_31, ob_32, ob_33, ob_34, .ref cd, ob_36, .ref my, .ref wi, .ref nb, .ref mv])), (my, .inl (y 1, 4, .inl fy)), (wi, .inl (y 1, 4, .inl fi)), (nb, .inl (y 2, 240, .inr (.inl fn)))] := hD
      refine lv_if_eq (tgt := 25) hx hb dX10_row_4 (by decide) (fun _ => ?_) (fun c9 => absurd (by decide) c9)
      refine lv_bipush (v := (-2)) hx hb dX10_row_25 (by decide) ?_
      refine W.widen (k := 0) (n := 0) (Nat.le_of_ble_eq_true rfl) (Nat.le_of_ble_eq_true rfl) ?_
      exact W.iret (v := (-2)) hx hb hr (fun t ht hW => ⟨⟨(-2), _, rfl, (by first | rfl | decide | (simp only [sp_row]; (repeat' split) <;> first | rfl | (exfalso; omega))), by rw [ht]; exact hP, hD⟩, hS.F ht⟩) hS.2.2 dX10_row_27

set_option maxHeartbeats 4000000 in
set_option maxRecDepth 100000 in
theorem kX10_keep (l : Launch) (G : va_G) (y : Nat → ClassId) (sz : Nat) (ob : Nat) (a1 : Int32) (ob_0 : Value) (wo : Nat) (mi : Nat) (hm : Nat) (mt : Nat) (fv : Nat) (fr : Nat) (ob_15 : Value) (ob_16 : Value) (ob_17 : Value) (ob_18 : Value) (ob_19 : Value) (ob_20 : Value) (ob_21 : Value) (ob_22 : Value) (ob_23 : Value) (ob_24 : Value) (ob_25 : Value) (ob_26 : Value) (ob_27 : Value) (ob_28 : Value) (ob_29 : Value) (ob_30 : Value) (ob_31 : Value) (ob_32 : Value) (ob_33 : Value) (ob_34 : Value) (cd : Nat) (ob_36 : Value) (my : Nat) (wi : Nat) (nb : Nat) (mv : Nat) (fm : Nat → Int32) (fw : Nat → Int32)  : Met l yX10_keep (Cond.code yX10_keep cX10_keep 3 (some .int) :: wAll) ({ frames := 1, cells := 0, slots := 0, locals := 25 }) (va_Pc [.ref ob, .int a1] (kp G y sz [(ob, .inr (10, [ob_0, .ref wo, .ref mi, .ref hm, .ref mt, .int 0, .ref fv, .int 0, .int 0, .int 0, .int 0, .int 0, .int 0, .int (-1), .ref fr, ob_15, ob_16, ob_17, ob_18, ob_19, ob_20, ob_21, ob_22, ob_23, ob_24, ob_25, ob_26, ob_27, ob_28, ob_29, ob_30, ob_31, ob_32, ob_33, ob_34, .ref cd, ob_36, .ref my, .ref wi, .ref nb, .ref mv])), (mi, .inl (y 1, 27240, .inl fm)), (wo, .inl (y 1, 9080, .inl fw)), (hm, .inl (y 3, 3, .inl (fun _ => 0)))])) (va_Qi (fun (r : Int32) (_ : va_W) => r = sp_keep a1) (kq G (va_A [(ob, .inr (10, [ob_0, .ref wo, .ref mi, .ref hm, .ref mt, .int 0, .ref fv, .int 0, .int 0, .int 0, .int 0, .int 0, .int 0, .int (-1), .ref fr, ob_15, ob_16, ob_17, ob_18, ob_19, ob_20, ob_21, ob_22, ob_23, ob_24, ob_25, ob_26, ob_27, ob_28, ob_29, ob_30, ob_31, ob_32, ob_33, ob_34, .ref cd, ob_36, .ref my, .ref wi, .ref nb, .ref mv])), (mi, .inl (y 1, 27240, .inl fm)), (wo, .inl (y 1, 9080, .inl fw)), (hm, .inl (y 3, 3, .inl (fun _ => 0)))] sz)) (va_A [(ob, .inr (10, [ob_0, .ref wo, .ref mi, .ref hm, .ref mt, .int 0, .ref fv, .int 0, .int 0, .int 0, .int 0, .int 0, .int 0, .int (-1), .ref fr, ob_15, ob_16, ob_17, ob_18, ob_19, ob_20, ob_21, ob_22, ob_23, ob_24, ob_25, ob_26, ob_27, ob_28, ob_29, ob_30, ob_31, ob_32, ob_33, ob_34, .ref cd, ob_36, .ref my, .ref wi, .ref nb, .ref mv])), (mi, .inl (y 1, 27240, .inl fm)), (wo, .inl (y 1, 9080, .inl fw)), (hm, .inl (y 3, 3, .inl (fun _ => 0)))] sz)) 0 0 (va_A [(ob, .inr (10, [ob_0, .ref wo, .ref mi, .ref hm, .ref mt, .int 0, .ref fv, .int 0, .int 0, .int 0, .int 0, .int 0, .int 0, .int (-1), .ref fr, ob_15, ob_16, ob_17, ob_18, ob_19, ob_20, ob_21, ob_22, ob_23, ob_24, ob_25, ob_26, ob_27, ob_28, ob_29, ob_30, ob_31, ob_32, ob_33, ob_34, .ref cd, ob_36, .ref my, .ref wi, .ref nb, .ref mv])), (mi, .inl (y 1, 27240, .inl fm)), (wo, .inl (y 1, 9080, .inl fw)), (hm, .inl (y 3, 3, .inl (fun _ => 0)))] sz) := by
  refine Met.ofW (cc := cX10_keep) (maxL := 3) (ret := (some .int)) (by decide) rfl ?_
  intro p e s m args below meth c s₁ B hml hv
  obtain ⟨rfl, hsz, hP, hK, hD0⟩ := hv
  have hx := B.exec
  have hb := B.bytes
  have hr := B.returns
  have hw0 : ∀ w ∈ wAll, w.before _ s = true := fun w h => atoms_spec (ws := Cond.code yX10_keep cX10_keep 3 (some .int) :: wAll) B.pre w (List.mem_cons_of_mem _ h)
  have hown : s.vm.findClass RX10 = some m.cls := findClass_of_methodNamed B.named
  have hlocks := B.notSynchronized
  subst hsz
  have hD := hD0.self (sz := s.heap.size)
  generalize hAe : va_A [(ob, .inr (10, [ob_0, .ref wo, .ref mi, .ref hm, .ref mt, .int 0, .ref fv, .int 0, .int 0, .int 0, .int 0, .int 0, .int 0, .int (-1), .ref fr, ob_15, ob_16, ob_17, ob_18, ob_19, ob_20, ob_21, ob_22, ob_23, ob_24, ob_25, ob_26, ob_27, ob_28, ob_29, ob_30, ob_31, ob_32, ob_33, ob_34, .ref cd, ob_36, .ref my, .ref wi, .ref nb, .ref mv])), (mi, .inl (y 1, 27240, .inl fm)), (wo, .inl (y 1, 9080, .inl fw)), (hm, .inl (y 3, 3, .inl (fun _ => 0)))] s.heap.size = A at hD ⊢
  have hA : ∀ q : Nat, s.heap.size ≤ q → A q := fun q h => by rw [← hAe]; exact Or.inr h
  have hS : va_S A s.heap s.heap [] := va_S.rf
  have hP : va_P G vwCl [(ob, .inr (10, [ob_0, .ref wo, .ref mi, .ref hm, .ref mt, .int 0, .ref fv, .int 0, .int 0, .int 0, .int 0, .int 0, .int 0, .int (-1), .ref fr, ob_15, ob_16, ob_17, ob_18, ob_19, ob_20, ob_21, ob_22, ob_23, ob_24, ob_25, ob_26, ob_27, ob_28, ob_29, ob_30, ob_31, ob_32, ob_33, ob_34, .ref cd, ob_36, .ref my, .ref wi, .ref nb, .ref mv])), (mi, .inl (y 1, 27240, .inl fm)), (wo, .inl (y 1, 9080, .inl fw)), (hm, .inl (y 3, 3, .inl (fun _ => 0)))] s.heap := hP
  have hl := lv_entry ([.ref ob, .int a1]) (n := 3) (Nat.le_of_ble_eq_true rfl)
  rw [lg_entry_eq]
  generalize (lg_sl ([.ref ob, .int a1]) ++ List.replicate (3 - (lg_sl ([.ref ob, .int a1])).length) Slot.unset).toArray = ls at hl ⊢
  have hl : lv_has ls 3 [(0, .ref ob), (1, .int a1)] := hl
  rcases im_cases a1 with rfl | rfl | rfl | t_a1
  · have hl : lv_has ls 3 [(0, .ref ob), (1, .int 0)] := hl
    refine lv_iload_n hx hb dX10_keep_0 rfl (lv_at hl 1 rfl) ?_
    refine lv_i2l (v := 0) hx hb dX10_keep_1 (by decide) ?_
    refine lv_lconst (v := 0) hx hb dX10_keep_2 (by decide) ?_
    refine lv_ldc2 (own := RX10) (v := 2) hx hb hown (hw0 _ m_403) dX10_keep_3 ?_
    refine cSi (As := [.long 0, .long 0, .long 2]) (rest := []) ⟨hx, hb, hml, hown, hw0⟩ hA hK hP hD hS [] [0, 1, 2, 3] [] [(ob, .inr (10, [ob_0, .ref wo, .ref mi, .ref hm, .ref mt, .int 0, .ref fv, .int 0, .int 0, .int 0, .int 0, .int 0, .int 0, .int (-1), .ref fr, ob_15, ob_16, ob_17, ob_18, ob_19, ob_20, ob_21, ob_22, ob_23, ob_24, ob_25, ob_26, ob_27, ob_28, ob_29, ob_30, ob_31, ob_32, ob_33, ob_34, .ref cd, ob_36, .ref my, .ref wi, .ref nb, .ref mv])), (mi, .inl (y 1, 27240, .inl fm)), (wo, .inl (y 1, 9080, .inl fw)), (hm, .inl (y 3, 3, .inl (fun _ => 0)))] rfl rfl (by decide) (by decide) (by decide) (kX10_in l G y _ 0 0 2 ) ⟨(callB_of 3 hw0 (gA m_164) rfl rfl rfl (hw0 _ m_166) (hw0 _ m_167) (by decide +kernel) ⟨Nat.le_of_ble_eq_true rfl, Nat.le_of_ble_eq_true rfl⟩), (hw0 _ m_168)⟩ rfl hl.1 (Nat.le_of_ble_eq_true rfl) dX10_keep_6 ⟨Nat.le_of_ble_eq_true rfl, Nat.le_of_ble_eq_true rfl⟩ (fun r_1 w_1 H locs hw_1 hP hD hS => ?_)
    rcases hw_1 with ⟨c_2, rfl, rfl⟩ | ⟨c_3, rfl, rfl⟩
    · skip
      have hP : va_P G vwCl [(ob, .inr (10, [ob_0, .ref wo, .ref mi, .ref hm, .ref mt, .int 0, .ref fv, .int 0, .int 0, .int 0, .int 0, .int 0, .int 0, .int (-1), .ref fr, ob_15, ob_16, ob_17, ob_18, ob_19, ob_20, ob_21, ob_22, ob_23, ob_24, ob_25, ob_26, ob_27, ob_28, ob_29, ob_30, ob_31, ob_32, ob_33, ob_34, .ref cd, ob_36, .ref my, .ref wi, .ref nb, .ref mv])), (mi, .inl (y 1, 27240, .inl fm)), (wo, .inl (y 1, 9080, .inl fw)), (hm, .inl (y 3, 3, .inl (fun _ => 0)))] H := hP
      have hD : va_D A [(ob, .inr (10, [ob_0, .ref wo, .ref mi, .ref hm, .ref mt, .int 0, .ref fv, .int 0, .int 0, .int 0, .int 0, .int 0, .int 0, .int (-1), .ref fr, ob_15, ob_16, ob_17, ob_18, ob_19, ob_20, ob_21, ob_22, ob_23, ob_24, ob_25, ob_26, ob_27, ob_28, ob_29, ob_30, ob_31, ob_32, ob_33, ob_34, .ref cd, ob_36, .ref my, .ref wi, .ref nb, .ref mv])), (mi, .inl (y 1, 27240, .inl fm)), (wo, .inl (y 1, 9080, .inl fw)), (hm, .inl (y 3, 3, .inl (fun _ => 0)))] := hD
      refine lv_if_ne (tgt := 15) hx hb dX10_keep_9 (by decide) (fun _ => ?_) (fun c9 => absurd c9 (by decide))
      refine lv_iconst (v := 0) hx hb dX10_keep_15 (by decide) ?_
      refine lv_istore_n (lv' := [(2, .int 0), (0, .ref ob), (1, .int 0)]) hx hb dX10_keep_16 rfl hl (by decide) rfl (fun ls hl => ?_)
      refine loopW (σ := (Nat → Int32)) (fun n x H locs ls => ∃ i_5 : Nat, i_5 + n = 9080 ∧ va_P G vwCl [(ob, .inr (10, [ob_0, .ref wo, .ref mi, .ref hm, .ref mt, .int 0, .ref fv, .int 0, .int 0, .int 0, .int 0, .int 0, .int 0, .int (-1), .ref fr, ob_15, ob_16, ob_17, ob_18, ob_19, ob_20, ob_21, ob_22, ob_23, ob_24, ob_25, ob_26, ob_27, ob_28, ob_29, ob_30, ob_31, ob_32, ob_33, ob_34, .ref cd, ob_36, .ref my, .ref wi, .ref nb, .ref mv])), (mi, .inl (y 1, 27240, .inl (x))), (wo, .inl (y 1, 9080, .inl fw)), (hm, .inl (y 3, 3, .inl (fun _ => 0)))] H ∧ va_D A [(ob, .inr (10, [ob_0, .ref wo, .ref mi, .ref hm, .ref mt, .int 0, .ref fv, .int 0, .int 0, .int 0, .int 0, .int 0, .int 0, .int (-1), .ref fr, ob_15, ob_16, ob_17, ob_18, ob_19, ob_20, ob_21, ob_22, ob_23, ob_24, ob_25, ob_26, ob_27, ob_28, ob_29, ob_30, ob_31, ob_32, ob_33, ob_34, .ref cd, ob_36, .ref my, .ref wi, .ref nb, .ref mv])), (mi, .inl (y 1, 27240, .inl (x))), (wo, .inl (y 1, 9080, .inl fw)), (hm, .inl (y 3, 3, .inl (fun _ => 0)))] ∧ va_S A s.heap H locs ∧ lv_has ls 3 [(2, .int (nI (i_5))), (0, .ref ob), (1, .int 0)]) ?_ ?_ 9080 (fm) ⟨0, by omega, hP, hD, hS, lv_sub hl [0, 1, 2] rfl⟩
      · rintro f_6 H locs ls ⟨i_8, hi9, hP, hD, hS, hl⟩
        obtain rfl : i_8 = 9080 := by omega
        have hP : va_P G vwCl [(ob, .inr (10, [ob_0, .ref wo, .ref mi, .ref hm, .ref mt, .int 0, .ref fv, .int 0, .int 0, .int 0, .int 0, .int 0, .int 0, .int (-1), .ref fr, ob_15, ob_16, ob_17, ob_18, ob_19, ob_20, ob_21, ob_22, ob_23, ob_24, ob_25, ob_26, ob_27, ob_28, ob_29, ob_30, ob_31, ob_32, ob_33, ob_34, .ref cd, ob_36, .ref my, .ref wi, .ref nb, .ref mv])), (mi, .inl (y 1, 27240, .inl f_6)), (wo, .inl (y 1, 9080, .inl fw)), (hm, .inl (y 3, 3, .inl (fun _ => 0)))] H := hP
        have hD : va_D A [(ob, .inr (10, [ob_0, .ref wo, .ref mi, .ref hm, .ref mt, .int 0, .ref fv, .int 0, .int 0, .int 0, .int 0, .int 0, .int 0, .int (-1), .ref fr, ob_15, ob_16, ob_17, ob_18, ob_19, ob_20, ob_21, ob_22, ob_23, ob_24, ob_25, ob_26, ob_27, ob_28, ob_29, ob_30, ob_31, ob_32, ob_33, ob_34, .ref cd, ob_36, .ref my, .ref wi, .ref nb, .ref mv])), (mi, .inl (y 1, 27240, .inl f_6)), (wo, .inl (y 1, 9080, .inl fw)), (hm, .inl (y 3, 3, .inl (fun _ => 0)))] := hD
        have hl : lv_has ls 3 [(2, .int 9080), (0, .ref ob), (1, .int 0)] := hl
        refine lv_iload_n hx hb dX10_keep_17 rfl (lv_at hl 0 rfl) ?_
        refine lv_sipush (v := 9080) hx hb dX10_keep_18 (by decide) ?_
        refine lv_icmp_ge (tgt := 48) hx hb dX10_keep_21 (by decide) (fun _ => ?_) (fun c9 => absurd (by decide) c9)
        refine lv_aload_n hx hb dX10_keep_48 rfl (lv_at hl 1 rfl) ?_
        refine va_get (D := G) (ci := 10) (v := .ref hm) (C := RX10) (T := TX10) (N := 41) hx hb hw0 inA_wsX100 hown hK.1 hP 0 rfl rfl 3 (by decide) (hw0 _ m_135) (fun _ h9 => h9) rfl dX10_keep_49 ?_
        refine lv_iload_n hx hb dX10_keep_52 rfl (lv_at hl 2 rfl) ?_
        refine lv_iconst (v := 1) hx hb dX10_keep_53 (by decide) ?_
        refine va_zast hx hb hK.1 hP hD hS 3 3 rfl rfl (vp_in_nI (n := 0) (N := 3) (by decide) (by decide)) dX10_keep_54 (fun H locs hP hD hS => ?_)
        have hP : va_P G vwCl [(ob, .inr (10, [ob_0, .ref wo, .ref mi, .ref hm, .ref mt, .int 0, .ref fv, .int 0, .int 0, .int 0, .int 0, .int 0, .int 0, .int (-1), .ref fr, ob_15, ob_16, ob_17, ob_18, ob_19, ob_20, ob_21, ob_22, ob_23, ob_24, ob_25, ob_26, ob_27, ob_28, ob_29, ob_30, ob_31, ob_32, ob_33, ob_34, .ref cd, ob_36, .ref my, .ref wi, .ref nb, .ref mv])), (mi, .inl (y 1, 27240, .inl f_6)), (wo, .inl (y 1, 9080, .inl fw)), (hm, .inl (y 3, 3, .inl (upd (fun _ => 0) 0 (vp_nar .boolean 1))))] H := hP
        have hD : va_D A [(ob, .inr (10, [ob_0, .ref wo, .ref mi, .ref hm, .ref mt, .int 0, .ref fv, .int 0, .int 0, .int 0, .int 0, .int 0, .int 0, .int (-1), .ref fr, ob_15, ob_16, ob_17, ob_18, ob_19, ob_20, ob_21, ob_22, ob_23, ob_24, ob_25, ob_26, ob_27, ob_28, ob_29, ob_30, ob_31, ob_32, ob_33, ob_34, .ref cd, ob_36, .ref my, .ref wi, .ref nb, .ref mv])), (mi, .inl (y 1, 27240, .inl f_6)), (wo, .inl (y 1, 9080, .inl fw)), (hm, .inl (y 3, 3, .inl (upd (fun _ => 0) 0 (vp_nar .boolean 1))))] := hD
        refine lv_iconst (v := 0) hx hb dX10_keep_55 (by decide) ?_
        refine W.widen (k := 0) (n := 0) (Nat.le_of_ble_eq_true rfl) (Nat.le_of_ble_eq_true rfl) ?_
        exact W.iret (v := 0) hx hb hr (fun t ht hW => ⟨⟨0, _, rfl, (by first | rfl | decide | (simp only [sp_keep]; (repeat' split) <;> first | rfl | (exfalso; omega))), by rw [ht]; exact hP, hD⟩, hS.F ht⟩) hS.2.2 dX10_keep_56
      · rintro n_11 ih_13 f_10 H locs ls ⟨i_12, hi_i_12, hP, hD, hS, hl⟩
        have hb_i_12 : i_12 < 9080 := by omega
        have hP : va_P G vwCl [(ob, .inr (10, [ob_0, .ref wo, .ref mi, .ref hm, .ref mt, .int 0, .ref fv, .int 0, .int 0, .int 0, .int 0, .int 0, .int 0, .int (-1), .ref fr, ob_15, ob_16, ob_17, ob_18, ob_19, ob_20, ob_21, ob_22, ob_23, ob_24, ob_25, ob_26, ob_27, ob_28, ob_29, ob_30, ob_31, ob_32, ob_33, ob_34, .ref cd, ob_36, .ref my, .ref wi, .ref nb, .ref mv])), (mi, .inl (y 1, 27240, .inl f_10)), (wo, .inl (y 1, 9080, .inl fw)), (hm, .inl (y 3, 3, .inl (fun _ => 0)))] H := hP
        have hD : va_D A [(ob, .inr (10, [ob_0, .ref wo, .ref mi, .ref hm, .ref mt, .int 0, .ref fv, .int 0, .int 0, .int 0, .int 0, .int 0, .int 0, .int (-1), .ref fr, ob_15, ob_16, ob_17, ob_18, ob_19, ob_20, ob_21, ob_22, ob_23, ob_24, ob_25, ob_26, ob_27, ob_28, ob_29, ob_30, ob_31, ob_32, ob_33, ob_34, .ref cd, ob_36, .ref my, .ref wi, .ref nb, .ref mv])), (mi, .inl (y 1, 27240, .inl f_10)), (wo, .inl (y 1, 9080, .inl fw)), (hm, .inl (y 3, 3, .inl (fun _ => 0)))] := hD
        have hl : lv_has ls 3 [(2, .int (nI (i_12))), (0, .ref ob), (1, .int 0)] := hl
        refine lv_iload_n hx hb dX10_keep_17 rfl (lv_at hl 0 rfl) ?_
        refine lv_sipush (v := 9080) hx hb dX10_keep_18 (by decide) ?_
        refine lv_icmp_ge (tgt := 48) hx hb dX10_keep_21 (by decide) (fun c9 => absurd c9 (nI_ge (a := i_12) (b := 9080) (by omega) (by omega))) (fun _ => ?_)
        refine lv_aload_n hx hb dX10_keep_24 rfl (lv_at hl 1 rfl) ?_
        refine va_get (D := G) (ci := 10) (v := .ref mi) (C := RX10) (T := TX10) (N := 41) hx hb hw0 inA_wsX100 hown hK.1 hP 0 rfl rfl 2 (by decide) (hw0 _ m_133) (fun _ h9 => h9) rfl dX10_keep_25 ?_
        refine lv_sipush (v := 9080) hx hb dX10_keep_28 (by decide) ?_
        refine lv_iload_n hx hb dX10_keep_31 rfl (lv_at hl 2 rfl) ?_
        refine lv_imul hx hb dX10_keep_32 ?_
        refine lv_topi (fun v_14 ev_14 => ?_)
        obtain rfl : 0 = v_14 := (ev_14.trans (by decide)).symm
        refine lv_iload_n hx hb dX10_keep_33 rfl (lv_at hl 0 rfl) ?_
        refine lv_iadd hx hb dX10_keep_34 ?_
        refine lv_topi (fun v_15 ev_15 => ?_)
        obtain rfl : (nI (0 + i_12)) = v_15 := (ev_15.trans (nI_add (0) (i_12))).symm
        refine lv_aload_n hx hb dX10_keep_35 rfl (lv_at hl 1 rfl) ?_
        refine va_get (D := G) (ci := 10) (v := .ref wo) (C := RX10) (T := TX10) (N := 41) hx hb hw0 inA_wsX100 hown hK.1 hP 0 rfl rfl 1 (by decide) (hw0 _ m_132) (fun _ h9 => h9) rfl dX10_keep_36 ?_
        refine lv_iload_n hx hb dX10_keep_39 rfl (lv_at hl 0 rfl) ?_
        refine va_iald hx hb hK.1 hP 2 1 rfl rfl (vp_in_nI (n := i_12) (N := 9080) (by omega) (by decide)) dX10_keep_40 ?_
        refine lv_topi (fun v_16 ev_16 => ?_)
        refine va_iast hx hb hK.1 hP hD hS 1 1 rfl rfl (vp_in_nI (n := 0 + i_12) (N := 27240) (by omega) (by decide)) dX10_keep_41 (fun H locs hP hD hS => ?_)
        generalize (upd f_10 ((nI (0 + i_12)) : Int32).toNatClampNeg v_16) = f_17 at hP hD
        have hP : va_P G vwCl [(ob, .inr (10, [ob_0, .ref wo, .ref mi, .ref hm, .ref mt, .int 0, .ref fv, .int 0, .int 0, .int 0, .int 0, .int 0, .int 0, .int (-1), .ref fr, ob_15, ob_16, ob_17, ob_18, ob_19, ob_20, ob_21, ob_22, ob_23, ob_24, ob_25, ob_26, ob_27, ob_28, ob_29, ob_30, ob_31, ob_32, ob_33, ob_34, .ref cd, ob_36, .ref my, .ref wi, .ref nb, .ref mv])), (mi, .inl (y 1, 27240, .inl f_17)), (wo, .inl (y 1, 9080, .inl fw)), (hm, .inl (y 3, 3, .inl (fun _ => 0)))] H := hP
        have hD : va_D A [(ob, .inr (10, [ob_0, .ref wo, .ref mi, .ref hm, .ref mt, .int 0, .ref fv, .int 0, .int 0, .int 0, .int 0, .int 0, .int 0, .int (-1), .ref fr, ob_15, ob_16, ob_17, ob_18, ob_19, ob_20, ob_21, ob_22, ob_23, ob_24, ob_25, ob_26, ob_27, ob_28, ob_29, ob_30, ob_31, ob_32, ob_33, ob_34, .ref cd, ob_36, .ref my, .ref wi, .ref nb, .ref mv])), (mi, .inl (y 1, 27240, .inl f_17)), (wo, .inl (y 1, 9080, .inl fw)), (hm, .inl (y 3, 3, .inl (fun _ => 0)))] := hD
        refine lv_iinc (v := (nI (i_12 + 1))) (lv' := [(2, .int (nI (i_12 + 1))), (0, .ref ob), (1, .int 0)]) hx hb dX10_keep_42 hl (k := 0) rfl (by exact nI_1 _) (by decide) rfl (fun ls hl => ?_)
        refine lv_goto (tgt := 17) hx hb dX10_keep_45 (by decide) ?_
        exact ih_13 _ H locs ls ⟨i_12 + 1, by omega, hP, hD, hS, lv_sub hl [0, 1, 2] rfl⟩
    · skip
      exact absurd c_3 (by decide)
  · have hl : lv_has ls 3 [(0, .ref ob), (1, .int 1)] := hl
    refine lv_iload_n hx hb dX10_keep_0 rfl (lv_at hl 1 rfl) ?_
    refine lv_i2l (v := 1) hx hb dX10_keep_1 (by decide) ?_
    refine lv_lconst (v := 0) hx hb dX10_keep_2 (by decide) ?_
    refine lv_ldc2 (own := RX10) (v := 2) hx hb hown (hw0 _ m_403) dX10_keep_3 ?_
    refine cSi (As := [.long 1, .long 0, .long 2]) (rest := []) ⟨hx, hb, hml, hown, hw0⟩ hA hK hP hD hS [] [0, 1, 2, 3] [] [(ob, .inr (10, [ob_0, .ref wo, .ref mi, .ref hm, .ref mt, .int 0, .ref fv, .int 0, .int 0, .int 0, .int 0, .int 0, .int 0, .int (-1), .ref fr, ob_15, ob_16, ob_17, ob_18, ob_19, ob_20, ob_21, ob_22, ob_23, ob_24, ob_25, ob_26, ob_27, ob_28, ob_29, ob_30, ob_31, ob_32, ob_33, ob_34, .ref cd, ob_36, .ref my, .ref wi, .ref nb, .ref mv])), (mi, .inl (y 1, 27240, .inl fm)), (wo, .inl (y 1, 9080, .inl fw)), (hm, .inl (y 3, 3, .inl (fun _ => 0)))] rfl rfl (by decide) (by decide) (by decide) (kX10_in l G y _ 1 0 2 ) ⟨(callB_of 3 hw0 (gA m_164) rfl rfl rfl (hw0 _ m_166) (hw0 _ m_167) (by decide +kernel) ⟨Nat.le_of_ble_eq_true rfl, Nat.le_of_ble_eq_true rfl⟩), (hw0 _ m_168)⟩ rfl hl.1 (Nat.le_of_ble_eq_true rfl) dX10_keep_6 ⟨Nat.le_of_ble_eq_true rfl, Nat.le_of_ble_eq_true rfl⟩ (fun r_18 w_18 H locs hw_18 hP hD hS => ?_)
    rcases hw_18 with ⟨c_19, rfl, rfl⟩ | ⟨c_20, rfl, rfl⟩
    · skip
      have hP : va_P G vwCl [(ob, .inr (10, [ob_0, .ref wo, .ref mi, .ref hm, .ref mt, .int 0, .ref fv, .int 0, .int 0, .int 0, .int 0, .int 0, .int 0, .int (-1), .ref fr, ob_15, ob_16, ob_17, ob_18, ob_19, ob_20, ob_21, ob_22, ob_23, ob_24, ob_25, ob_26, ob_27, ob_28, ob_29, ob_30, ob_31, ob_32, ob_33, ob_34, .ref cd, ob_36, .ref my, .ref wi, .ref nb, .ref mv])), (mi, .inl (y 1, 27240, .inl fm)), (wo, .inl (y 1, 9080, .inl fw)), (hm, .inl (y 3, 3, .inl (fun _ => 0)))] H := hP
      have hD : va_D A [(ob, .inr (10, [ob_0, .ref wo, .ref mi, .ref hm, .ref mt, .int 0, .ref fv, .int 0, .int 0, .int 0, .int 0, .int 0, .int 0, .int (-1), .ref fr, ob_15, ob_16, ob_17, ob_18, ob_19, ob_20, ob_21, ob_22, ob_23, ob_24, ob_25, ob_26, ob_27, ob_28, ob_29, ob_30, ob_31, ob_32, ob_33, ob_34, .ref cd, ob_36, .ref my, .ref wi, .ref nb, .ref mv])), (mi, .inl (y 1, 27240, .inl fm)), (wo, .inl (y 1, 9080, .inl fw)), (hm, .inl (y 3, 3, .inl (fun _ => 0)))] := hD
      refine lv_if_ne (tgt := 15) hx hb dX10_keep_9 (by decide) (fun _ => ?_) (fun c9 => absurd c9 (by decide))
      refine lv_iconst (v := 0) hx hb dX10_keep_15 (by decide) ?_
      refine lv_istore_n (lv' := [(2, .int 0), (0, .ref ob), (1, .int 1)]) hx hb dX10_keep_16 rfl hl (by decide) rfl (fun ls hl => ?_)
      refine loopW (σ := (Nat → Int32)) (fun n x H locs ls => ∃ i_22 : Nat, i_22 + n = 9080 ∧ va_P G vwCl [(ob, .inr (10, [ob_0, .ref wo, .ref mi, .ref hm, .ref mt, .int 0, .ref fv, .int 0, .int 0, .int 0, .int 0, .int 0, .int 0, .int (-1), .ref fr, ob_15, ob_16, ob_17, ob_18, ob_19, ob_20, ob_21, ob_22, ob_23, ob_24, ob_25, ob_26, ob_27, ob_28, ob_29, ob_30, ob_31, ob_32, ob_33, ob_34, .ref cd, ob_36, .ref my, .ref wi, .ref nb, .ref mv])), (mi, .inl (y 1, 27240, .inl (x))), (wo, .inl (y 1, 9080, .inl fw)), (hm, .inl (y 3, 3, .inl (fun _ => 0)))] H ∧ va_D A [(ob, .inr (10, [ob_0, .ref wo, .ref mi, .ref hm, .ref mt, .int 0, .ref fv, .int 0, .int 0, .int 0, .int 0, .int 0, .int 0, .int (-1), .ref fr, ob_15, ob_16, ob_17, ob_18, ob_19, ob_20, ob_21, ob_22, ob_23, ob_24, ob_25, ob_26, ob_27, ob_28, ob_29, ob_30, ob_31, ob_32, ob_33, ob_34, .ref cd, ob_36, .ref my, .ref wi, .ref nb, .ref mv])), (mi, .inl (y 1, 27240, .inl (x))), (wo, .inl (y 1, 9080, .inl fw)), (hm, .inl (y 3, 3, .inl (fun _ => 0)))] ∧ va_S A s.heap H locs ∧ lv_has ls 3 [(2, .int (nI (i_22))), (0, .ref ob), (1, .int 1)]) ?_ ?_ 9080 (fm) ⟨0, by omega, hP, hD, hS, lv_sub hl [0, 1, 2] rfl⟩
      · rintro f_23 H locs ls ⟨i_25, hi9, hP, hD, hS, hl⟩
        obtain rfl : i_25 = 9080 := by omega
        have hP : va_P G vwCl [(ob, .inr (10, [ob_0, .ref wo, .ref mi, .ref hm, .ref mt, .int 0, .ref fv, .int 0, .int 0, .int 0, .int 0, .int 0, .int 0, .int (-1), .ref fr, ob_15, ob_16, ob_17, ob_18, ob_19, ob_20, ob_21, ob_22, ob_23, ob_24, ob_25, ob_26, ob_27, ob_28, ob_29, ob_30, ob_31, ob_32, ob_33, ob_34, .ref cd, ob_36, .ref my, .ref wi, .ref nb, .ref mv])), (mi, .inl (y 1, 27240, .inl f_23)), (wo, .inl (y 1, 9080, .inl fw)), (hm, .inl (y 3, 3, .inl (fun _ => 0)))] H := hP
        have hD : va_D A [(ob, .inr (10, [ob_0, .ref wo, .ref mi, .ref hm, .ref mt, .int 0, .ref fv, .int 0, .int 0, .int 0, .int 0, .int 0, .int 0, .int (-1), .ref fr, ob_15, ob_16, ob_17, ob_18, ob_19, ob_20, ob_21, ob_22, ob_23, ob_24, ob_25, ob_26, ob_27, ob_28, ob_29, ob_30, ob_31, ob_32, ob_33, ob_34, .ref cd, ob_36, .ref my, .ref wi, .ref nb, .ref mv])), (mi, .inl (y 1, 27240, .inl f_23)), (wo, .inl (y 1, 9080, .inl fw)), (hm, .inl (y 3, 3, .inl (fun _ => 0)))] := hD
        have hl : lv_has ls 3 [(2, .int 9080), (0, .ref ob), (1, .int 1)] := hl
        refine lv_iload_n hx hb dX10_keep_17 rfl (lv_at hl 0 rfl) ?_
        refine lv_sipush (v := 9080) hx hb dX10_keep_18 (by decide) ?_
        refine lv_icmp_ge (tgt := 48) hx hb dX10_keep_21 (by decide) (fun _ => ?_) (fun c9 => absurd (by decide) c9)
        refine lv_aload_n hx hb dX10_keep_48 rfl (lv_at hl 1 rfl) ?_
        refine va_get (D := G) (ci := 10) (v := .ref hm) (C := RX10) (T := TX10) (N := 41) hx hb hw0 inA_wsX100 hown hK.1 hP 0 rfl rfl 3 (by decide) (hw0 _ m_135) (fun _ h9 => h9) rfl dX10_keep_49 ?_
        refine lv_iload_n hx hb dX10_keep_52 rfl (lv_at hl 2 rfl) ?_
        refine lv_iconst (v := 1) hx hb dX10_keep_53 (by decide) ?_
        refine va_zast hx hb hK.1 hP hD hS 3 3 rfl rfl (vp_in_nI (n := 1) (N := 3) (by decide) (by decide)) dX10_keep_54 (fun H locs hP hD hS => ?_)
        have hP : va_P G vwCl [(ob, .inr (10, [ob_0, .ref wo, .ref mi, .ref hm, .ref mt, .int 0, .ref fv, .int 0, .int 0, .int 0, .int 0, .int 0, .int 0, .int (-1), .ref fr, ob_15, ob_16, ob_17, ob_18, ob_19, ob_20, ob_21, ob_22, ob_23, ob_24, ob_25, ob_26, ob_27, ob_28, ob_29, ob_30, ob_31, ob_32, ob_33, ob_34, .ref cd, ob_36, .ref my, .ref wi, .ref nb, .ref mv])), (mi, .inl (y 1, 27240, .inl f_23)), (wo, .inl (y 1, 9080, .inl fw)), (hm, .inl (y 3, 3, .inl (upd (fun _ => 0) 1 (vp_nar .boolean 1))))] H := hP
        have hD : va_D A [(ob, .inr (10, [ob_0, .ref wo, .ref mi, .ref hm, .ref mt, .int 0, .ref fv, .int 0, .int 0, .int 0, .int 0, .int 0, .int 0, .int (-1), .ref fr, ob_15, ob_16, ob_17, ob_18, ob_19, ob_20, ob_21, ob_22, ob_23, ob_24, ob_25, ob_26, ob_27, ob_28, ob_29, ob_30, ob_31, ob_32, ob_33, ob_34, .ref cd, ob_36, .ref my, .ref wi, .ref nb, .ref mv])), (mi, .inl (y 1, 27240, .inl f_23)), (wo, .inl (y 1, 9080, .inl fw)), (hm, .inl (y 3, 3, .inl (upd (fun _ => 0) 1 (vp_nar .boolean 1))))] := hD
        refine lv_iconst (v := 0) hx hb dX10_keep_55 (by decide) ?_
        refine W.widen (k := 0) (n := 0) (Nat.le_of_ble_eq_true rfl) (Nat.le_of_ble_eq_true rfl) ?_
        exact W.iret (v := 0) hx hb hr (fun t ht hW => ⟨⟨0, _, rfl, (by first | rfl | decide | (simp only [sp_keep]; (repeat' split) <;> first | rfl | (exfalso; omega))), by rw [ht]; exact hP, hD⟩, hS.F ht⟩) hS.2.2 dX10_keep_56
      · rintro n_28 ih_30 f_27 H locs ls ⟨i_29, hi_i_29, hP, hD, hS, hl⟩
        have hb_i_29 : i_29 < 9080 := by omega
        have hP : va_P G vwCl [(ob, .inr (10, [ob_0, .ref wo, .ref mi, .ref hm, .ref mt, .int 0, .ref fv, .int 0, .int 0, .int 0, .int 0, .int 0, .int 0, .int (-1), .ref fr, ob_15, ob_16, ob_17, ob_18, ob_19, ob_20, ob_21, ob_22, ob_23, ob_24, ob_25, ob_26, ob_27, ob_28, ob_29, ob_30, ob_31, ob_32, ob_33, ob_34, .ref cd, ob_36, .ref my, .ref wi, .ref nb, .ref mv])), (mi, .inl (y 1, 27240, .inl f_27)), (wo, .inl (y 1, 9080, .inl fw)), (hm, .inl (y 3, 3, .inl (fun _ => 0)))] H := hP
        have hD : va_D A [(ob, .inr (10, [ob_0, .ref wo, .ref mi, .ref hm, .ref mt, .int 0, .ref fv, .int 0, .int 0, .int 0, .int 0, .int 0, .int 0, .int (-1), .ref fr, ob_15, ob_16, ob_17, ob_18, ob_19, ob_20, ob_21, ob_22, ob_23, ob_24, ob_25, ob_26, ob_27, ob_28, ob_29, ob_30, ob_31, ob_32, ob_33, ob_34, .ref cd, ob_36, .ref my, .ref wi, .ref nb, .ref mv])), (mi, .inl (y 1, 27240, .inl f_27)), (wo, .inl (y 1, 9080, .inl fw)), (hm, .inl (y 3, 3, .inl (fun _ => 0)))] := hD
        have hl : lv_has ls 3 [(2, .int (nI (i_29))), (0, .ref ob), (1, .int 1)] := hl
        refine lv_iload_n hx hb dX10_keep_17 rfl (lv_at hl 0 rfl) ?_
        refine lv_sipush (v := 9080) hx hb dX10_keep_18 (by decide) ?_
        refine lv_icmp_ge (tgt := 48) hx hb dX10_keep_21 (by decide) (fun c9 => absurd c9 (nI_ge (a := i_29) (b := 9080) (by omega) (by omega))) (fun _ => ?_)
        refine lv_aload_n hx hb dX10_keep_24 rfl (lv_at hl 1 rfl) ?_
        refine va_get (D := G) (ci := 10) (v := .ref mi) (C := RX10) (T := TX10) (N := 41) hx hb hw0 inA_wsX100 hown hK.1 hP 0 rfl rfl 2 (by decide) (hw0 _ m_133) (fun _ h9 => h9) rfl dX10_keep_25 ?_
        refine lv_sipush (v := 9080) hx hb dX10_keep_28 (by decide) ?_
        refine lv_iload_n hx hb dX10_keep_31 rfl (lv_at hl 2 rfl) ?_
        refine lv_imul hx hb dX10_keep_32 ?_
        refine lv_topi (fun v_31 ev_31 => ?_)
        obtain rfl : 9080 = v_31 := (ev_31.trans (by decide)).symm
        refine lv_iload_n hx hb dX10_keep_33 rfl (lv_at hl 0 rfl) ?_
        refine lv_iadd hx hb dX10_keep_34 ?_
        refine lv_topi (fun v_32 ev_32 => ?_)
        obtain rfl : (nI (9080 + i_29)) = v_32 := (ev_32.trans (nI_add (9080) (i_29))).symm
        refine lv_aload_n hx hb dX10_keep_35 rfl (lv_at hl 1 rfl) ?_
        refine va_get (D := G) (ci := 10) (v := .ref wo) (C := RX10) (T := TX10) (N := 41) hx hb hw0 inA_wsX100 hown hK.1 hP 0 rfl rfl 1 (by decide) (hw0 _ m_132) (fun _ h9 => h9) rfl dX10_keep_36 ?_
        refine lv_iload_n hx hb dX10_keep_39 rfl (lv_at hl 0 rfl) ?_
        refine va_iald hx hb hK.1 hP 2 1 rfl rfl (vp_in_nI (n := i_29) (N := 9080) (by omega) (by decide)) dX10_keep_40 ?_
        refine lv_topi (fun v_33 ev_33 => ?_)
        refine va_iast hx hb hK.1 hP hD hS 1 1 rfl rfl (vp_in_nI (n := 9080 + i_29) (N := 27240) (by omega) (by decide)) dX10_keep_41 (fun H locs hP hD hS => ?_)
        generalize (upd f_27 ((nI (9080 + i_29)) : Int32).toNatClampNeg v_33) = f_34 at hP hD
        have hP : va_P G vwCl [(ob, .inr (10, [ob_0, .ref wo, .ref mi, .ref hm, .ref mt, .int 0, .ref fv, .int 0, .int 0, .int 0, .int 0, .int 0, .int 0, .int (-1), .ref fr, ob_15, ob_16, ob_17, ob_18, ob_19, ob_20, ob_21, ob_22, ob_23, ob_24, ob_25, ob_26, ob_27, ob_28, ob_29, ob_30, ob_31, ob_32, ob_33, ob_34, .ref cd, ob_36, .ref my, .ref wi, .ref nb, .ref mv])), (mi, .inl (y 1, 27240, .inl f_34)), (wo, .inl (y 1, 9080, .inl fw)), (hm, .inl (y 3, 3, .inl (fun _ => 0)))] H := hP
        have hD : va_D A [(ob, .inr (10, [ob_0, .ref wo, .ref mi, .ref hm, .ref mt, .int 0, .ref fv, .int 0, .int 0, .int 0, .int 0, .int 0, .int 0, .int (-1), .ref fr, ob_15, ob_16, ob_17, ob_18, ob_19, ob_20, ob_21, ob_22, ob_23, ob_24, ob_25, ob_26, ob_27, ob_28, ob_29, ob_30, ob_31, ob_32, ob_33, ob_34, .ref cd, ob_36, .ref my, .ref wi, .ref nb, .ref mv])), (mi, .inl (y 1, 27240, .inl f_34)), (wo, .inl (y 1, 9080, .inl fw)), (hm, .inl (y 3, 3, .inl (fun _ => 0)))] := hD
        refine lv_iinc (v := (nI (i_29 + 1))) (lv' := [(2, .int (nI (i_29 + 1))), (0, .ref ob), (1, .int 1)]) hx hb dX10_keep_42 hl (k := 0) rfl (by exact nI_1 _) (by decide) rfl (fun ls hl => ?_)
        refine lv_goto (tgt := 17) hx hb dX10_keep_45 (by decide) ?_
        exact ih_30 _ H locs ls ⟨i_29 + 1, by omega, hP, hD, hS, lv_sub hl [0, 1, 2] rfl⟩
    · skip
      exact absurd c_20 (by decide)
  · have hl : lv_has ls 3 [(0, .ref ob), (1, .int 2)] := hl
    refine lv_iload_n hx hb dX10_keep_0 rfl (lv_at hl 1 rfl) ?_
    refine lv_i2l (v := 2) hx hb dX10_keep_1 (by decide) ?_
    refine lv_lconst (v := 0) hx hb dX10_keep_2 (by decide) ?_
    refine lv_ldc2 (own := RX10) (v := 2) hx hb hown (hw0 _ m_403) dX10_keep_3 ?_
    refine cSi (As := [.long 2, .long 0, .long 2]) (rest := []) ⟨hx, hb, hml, hown, hw0⟩ hA hK hP hD hS [] [0, 1, 2, 3] [] [(ob, .inr (10, [ob_0, .ref wo, .ref mi, .ref hm, .ref mt, .int 0, .ref fv, .int 0, .int 0, .int 0, .int 0, .int 0, .int 0, .int (-1), .ref fr, ob_15, ob_16, ob_17, ob_18, ob_19, ob_20, ob_21, ob_22, ob_23, ob_24, ob_25, ob_26, ob_27, ob_28, ob_29, ob_30, ob_31, ob_32, ob_33, ob_34, .ref cd, ob_36, .ref my, .ref wi, .ref nb, .ref mv])), (mi, .inl (y 1, 27240, .inl fm)), (wo, .inl (y 1, 9080, .inl fw)), (hm, .inl (y 3, 3, .inl (fun _ => 0)))] rfl rfl (by decide) (by decide) (by decide) (kX10_in l G y _ 2 0 2 ) ⟨(callB_of 3 hw0 (gA m_164) rfl rfl rfl (hw0 _ m_166) (hw0 _ m_167) (by decide +kernel) ⟨Nat.le_of_ble_eq_true rfl, Nat.le_of_ble_eq_true rfl⟩), (hw0 _ m_168)⟩ rfl hl.1 (Nat.le_of_ble_eq_true rfl) dX10_keep_6 ⟨Nat.le_of_ble_eq_true rfl, Nat.le_of_ble_eq_true rfl⟩ (fun r_35 w_35 H locs hw_35 hP hD hS => ?_)
    rcases hw_35 with ⟨c_36, rfl, rfl⟩ | ⟨c_37, rfl, rfl⟩
    · skip
      have hP : va_P G vwCl [(ob, .inr (10, [ob_0, .ref wo, .ref mi, .ref hm, .ref mt, .int 0, .ref fv, .int 0, .int 0, .int 0, .int 0, .int 0, .int 0, .int (-1), .ref fr, ob_15, ob_16, ob_17, ob_18, ob_19, ob_20, ob_21, ob_22, ob_23, ob_24, ob_25, ob_26, ob_27, ob_28, ob_29, ob_30, ob_31, ob_32, ob_33, ob_34, .ref cd, ob_36, .ref my, .ref wi, .ref nb, .ref mv])), (mi, .inl (y 1, 27240, .inl fm)), (wo, .inl (y 1, 9080, .inl fw)), (hm, .inl (y 3, 3, .inl (fun _ => 0)))] H := hP
      have hD : va_D A [(ob, .inr (10, [ob_0, .ref wo, .ref mi, .ref hm, .ref mt, .int 0, .ref fv, .int 0, .int 0, .int 0, .int 0, .int 0, .int 0, .int (-1), .ref fr, ob_15, ob_16, ob_17, ob_18, ob_19, ob_20, ob_21, ob_22, ob_23, ob_24, ob_25, ob_26, ob_27, ob_28, ob_29, ob_30, ob_31, ob_32, ob_33, ob_34, .ref cd, ob_36, .ref my, .ref wi, .ref nb, .ref mv])), (mi, .inl (y 1, 27240, .inl fm)), (wo, .inl (y 1, 9080, .inl fw)), (hm, .inl (y 3, 3, .inl (fun _ => 0)))] := hD
      refine lv_if_ne (tgt := 15) hx hb dX10_keep_9 (by decide) (fun _ => ?_) (fun c9 => absurd c9 (by decide))
      refine lv_iconst (v := 0) hx hb dX10_keep_15 (by decide) ?_
      refine lv_istore_n (lv' := [(2, .int 0), (0, .ref ob), (1, .int 2)]) hx hb dX10_keep_16 rfl hl (by decide) rfl (fun ls hl => ?_)
      refine loopW (σ := (Nat → Int32)) (fun n x H locs ls => ∃ i_39 : Nat, i_39 + n = 9080 ∧ va_P G vwCl [(ob, .inr (10, [ob_0, .ref wo, .ref mi, .ref hm, .ref mt, .int 0, .ref fv, .int 0, .int 0, .int 0, .int 0, .int 0, .int 0, .int (-1), .ref fr, ob_15, ob_16, ob_17, ob_18, ob_19, ob_20, ob_21, ob_22, ob_23, ob_24, ob_25, ob_26, ob_27, ob_28, ob_29, ob_30, ob_31, ob_32, ob_33, ob_34, .ref cd, ob_36, .ref my, .ref wi, .ref nb, .ref mv])), (mi, .inl (y 1, 27240, .inl (x))), (wo, .inl (y 1, 9080, .inl fw)), (hm, .inl (y 3, 3, .inl (fun _ => 0)))] H ∧ va_D A [(ob, .inr (10, [ob_0, .ref wo, .ref mi, .ref hm, .ref mt, .int 0, .ref fv, .int 0, .int 0, .int 0, .int 0, .int 0, .int 0, .int (-1), .ref fr, ob_15, ob_16, ob_17, ob_18, ob_19, ob_20, ob_21, ob_22, ob_23, ob_24, ob_25, ob_26, ob_27, ob_28, ob_29, ob_30, ob_31, ob_32, ob_33, ob_34, .ref cd, ob_36, .ref my, .ref wi, .ref nb, .ref mv])), (mi, .inl (y 1, 27240, .inl (x))), (wo, .inl (y 1, 9080, .inl fw)), (hm, .inl (y 3, 3, .inl (fun _ => 0)))] ∧ va_S A s.heap H locs ∧ lv_has ls 3 [(2, .int (nI (i_39))), (0, .ref ob), (1, .int 2)]) ?_ ?_ 9080 (fm) ⟨0, by omega, hP, hD, hS, lv_sub hl [0, 1, 2] rfl⟩
      · rintro f_40 H locs ls ⟨i_42, hi9, hP, hD, hS, hl⟩
        obtain rfl : i_42 = 9080 := by omega
        have hP : va_P G vwCl [(ob, .inr (10, [ob_0, .ref wo, .ref mi, .ref hm, .ref mt, .int 0, .ref fv, .int 0, .int 0, .int 0, .int 0, .int 0, .int 0, .int (-1), .ref fr, ob_15, ob_16, ob_17, ob_18, ob_19, ob_20, ob_21, ob_22, ob_23, ob_24, ob_25, ob_26, ob_27, ob_28, ob_29, ob_30, ob_31, ob_32, ob_33, ob_34, .ref cd, ob_36, .ref my, .ref wi, .ref nb, .ref mv])), (mi, .inl (y 1, 27240, .inl f_40)), (wo, .inl (y 1, 9080, .inl fw)), (hm, .inl (y 3, 3, .inl (fun _ => 0)))] H := hP
        have hD : va_D A [(ob, .inr (10, [ob_0, .ref wo, .ref mi, .ref hm, .ref mt, .int 0, .ref fv, .int 0, .int 0, .int 0, .int 0, .int 0, .int 0, .int (-1), .ref fr, ob_15, ob_16, ob_17, ob_18, ob_19, ob_20, ob_21, ob_22, ob_23, ob_24, ob_25, ob_26, ob_27, ob_28, ob_29, ob_30, ob_31, ob_32, ob_33, ob_34, .ref cd, ob_36, .ref my, .ref wi, .ref nb, .ref mv])), (mi, .inl (y 1, 27240, .inl f_40)), (wo, .inl (y 1, 9080, .inl fw)), (hm, .inl (y 3, 3, .inl (fun _ => 0)))] := hD
        have hl : lv_has ls 3 [(2, .int 9080), (0, .ref ob), (1, .int 2)] := hl
        refine lv_iload_n hx hb dX10_keep_17 rfl (lv_at hl 0 rfl) ?_
        refine lv_sipush (v := 9080) hx hb dX10_keep_18 (by decide) ?_
        refine lv_icmp_ge (tgt := 48) hx hb dX10_keep_21 (by decide) (fun _ => ?_) (fun c9 => absurd (by decide) c9)
        refine lv_aload_n hx hb dX10_keep_48 rfl (lv_at hl 1 rfl) ?_
        refine va_get (D := G) (ci := 10) (v := .ref hm) (C := RX10) (T := TX10) (N := 41) hx hb hw0 inA_wsX100 hown hK.1 hP 0 rfl rfl 3 (by decide) (hw0 _ m_135) (fun _ h9 => h9) rfl dX10_keep_49 ?_
        refine lv_iload_n hx hb dX10_keep_52 rfl (lv_at hl 2 rfl) ?_
        refine lv_iconst (v := 1) hx hb dX10_keep_53 (by decide) ?_
        refine va_zast hx hb hK.1 hP hD hS 3 3 rfl rfl (vp_in_nI (n := 2) (N := 3) (by decide) (by decide)) dX10_keep_54 (fun H locs hP hD hS => ?_)
        have hP : va_P G vwCl [(ob, .inr (10, [ob_0, .ref wo, .ref mi, .ref hm, .ref mt, .int 0, .ref fv, .int 0, .int 0, .int 0, .int 0, .int 0, .int 0, .int (-1), .ref fr, ob_15, ob_16, ob_17, ob_18, ob_19, ob_20, ob_21, ob_22, ob_23, ob_24, ob_25, ob_26, ob_27, ob_28, ob_29, ob_30, ob_31, ob_32, ob_33, ob_34, .ref cd, ob_36, .ref my, .ref wi, .ref nb, .ref mv])), (mi, .inl (y 1, 27240, .inl f_40)), (wo, .inl (y 1, 9080, .inl fw)), (hm, .inl (y 3, 3, .inl (upd (fun _ => 0) 2 (vp_nar .boolean 1))))] H := hP
        have hD : va_D A [(ob, .inr (10, [ob_0, .ref wo, .ref mi, .ref hm, .ref mt, .int 0, .ref fv, .int 0, .int 0, .int 0, .int 0, .int 0, .int 0, .int (-1), .ref fr, ob_15, ob_16, ob_17, ob_18, ob_19, ob_20, ob_21, ob_22, ob_23, ob_24, ob_25, ob_26, ob_27, ob_28, ob_29, ob_30, ob_31, ob_32, ob_33, ob_34, .ref cd, ob_36, .ref my, .ref wi, .ref nb, .ref mv])), (mi, .inl (y 1, 27240, .inl f_40)), (wo, .inl (y 1, 9080, .inl fw)), (hm, .inl (y 3, 3, .inl (upd (fun _ => 0) 2 (vp_nar .boolean 1))))] := hD
        refine lv_iconst (v := 0) hx hb dX10_keep_55 (by decide) ?_
        refine W.widen (k := 0) (n := 0) (Nat.le_of_ble_eq_true rfl) (Nat.le_of_ble_eq_true rfl) ?_
        exact W.iret (v := 0) hx hb hr (fun t ht hW => ⟨⟨0, _, rfl, (by first | rfl | decide | (simp only [sp_keep]; (repeat' split) <;> first | rfl | (exfalso; omega))), by rw [ht]; exact hP, hD⟩, hS.F ht⟩) hS.2.2 dX10_keep_56
      · rintro n_45 ih_47 f_44 H locs ls ⟨i_46, hi_i_46, hP, hD, hS, hl⟩
        have hb_i_46 : i_46 < 9080 := by omega
        have hP : va_P G vwCl [(ob, .inr (10, [ob_0, .ref wo, .ref mi, .ref hm, .ref mt, .int 0, .ref fv, .int 0, .int 0, .int 0, .int 0, .int 0, .int 0, .int (-1), .ref fr, ob_15, ob_16, ob_17, ob_18, ob_19, ob_20, ob_21, ob_22, ob_23, ob_24, ob_25, ob_26, ob_27, ob_28, ob_29, ob_30, ob_31, ob_32, ob_33, ob_34, .ref cd, ob_36, .ref my, .ref wi, .ref nb, .ref mv])), (mi, .inl (y 1, 27240, .inl f_44)), (wo, .inl (y 1, 9080, .inl fw)), (hm, .inl (y 3, 3, .inl (fun _ => 0)))] H := hP
        have hD : va_D A [(ob, .inr (10, [ob_0, .ref wo, .ref mi, .ref hm, .ref mt, .int 0, .ref fv, .int 0, .int 0, .int 0, .int 0, .int 0, .int 0, .int (-1), .ref fr, ob_15, ob_16, ob_17, ob_18, ob_19, ob_20, ob_21, ob_22, ob_23, ob_24, ob_25, ob_26, ob_27, ob_28, ob_29, ob_30, ob_31, ob_32, ob_33, ob_34, .ref cd, ob_36, .ref my, .ref wi, .ref nb, .ref mv])), (mi, .inl (y 1, 27240, .inl f_44)), (wo, .inl (y 1, 9080, .inl fw)), (hm, .inl (y 3, 3, .inl (fun _ => 0)))] := hD
        have hl : lv_has ls 3 [(2, .int (nI (i_46))), (0, .ref ob), (1, .int 2)] := hl
        refine lv_iload_n hx hb dX10_keep_17 rfl (lv_at hl 0 rfl) ?_
        refine lv_sipush (v := 9080) hx hb dX10_keep_18 (by decide) ?_
        refine lv_icmp_ge (tgt := 48) hx hb dX10_keep_21 (by decide) (fun c9 => absurd c9 (nI_ge (a := i_46) (b := 9080) (by omega) (by omega))) (fun _ => ?_)
        refine lv_aload_n hx hb dX10_keep_24 rfl (lv_at hl 1 rfl) ?_
        refine va_get (D := G) (ci := 10) (v := .ref mi) (C := RX10) (T := TX10) (N := 41) hx hb hw0 inA_wsX100 hown hK.1 hP 0 rfl rfl 2 (by decide) (hw0 _ m_133) (fun _ h9 => h9) rfl dX10_keep_25 ?_
        refine lv_sipush (v := 9080) hx hb dX10_keep_28 (by decide) ?_
        refine lv_iload_n hx hb dX10_keep_31 rfl (lv_at hl 2 rfl) ?_
        refine lv_imul hx hb dX10_keep_32 ?_
        refine lv_topi (fun v_48 ev_48 => ?_)
        obtain rfl : 18160 = v_48 := (ev_48.trans (by decide)).symm
        refine lv_iload_n hx hb dX10_keep_33 rfl (lv_at hl 0 rfl) ?_
        refine lv_iadd hx hb dX10_keep_34 ?_
        refine lv_topi (fun v_49 ev_49 => ?_)
        obtain rfl : (nI (18160 + i_46)) = v_49 := (ev_49.trans (nI_add (18160) (i_46))).symm
        refine lv_aload_n hx hb dX10_keep_35 rfl (lv_at hl 1 rfl) ?_
        refine va_get (D := G) (ci := 10) (v := .ref wo) (C := RX10) (T := TX10) (N := 41) hx hb hw0 inA_wsX100 hown hK.1 hP 0 rfl rfl 1 (by decide) (hw0 _ m_132) (fun _ h9 => h9) rfl dX10_keep_36 ?_
        refine lv_iload_n hx hb dX10_keep_39 rfl (lv_at hl 0 rfl) ?_
        refine va_iald hx hb hK.1 hP 2 1 rfl rfl (vp_in_nI (n := i_46) (N := 9080) (by omega) (by decide)) dX10_keep_40 ?_
        refine lv_topi (fun v_50 ev_50 => ?_)
        refine va_iast hx hb hK.1 hP hD hS 1 1 rfl rfl (vp_in_nI (n := 18160 + i_46) (N := 27240) (by omega) (by decide)) dX10_keep_41 (fun H locs hP hD hS => ?_)
        generalize (upd f_44 ((nI (18160 + i_46)) : Int32).toNatClampNeg v_50) = f_51 at hP hD
        have hP : va_P G vwCl [(ob, .inr (10, [ob_0, .ref wo, .ref mi, .ref hm, .ref mt, .int 0, .ref fv, .int 0, .int 0, .int 0, .int 0, .int 0, .int 0, .int (-1), .ref fr, ob_15, ob_16, ob_17, ob_18, ob_19, ob_20, ob_21, ob_22, ob_23, ob_24, ob_25, ob_26, ob_27, ob_28, ob_29, ob_30, ob_31, ob_32, ob_33, ob_34, .ref cd, ob_36, .ref my, .ref wi, .ref nb, .ref mv])), (mi, .inl (y 1, 27240, .inl f_51)), (wo, .inl (y 1, 9080, .inl fw)), (hm, .inl (y 3, 3, .inl (fun _ => 0)))] H := hP
        have hD : va_D A [(ob, .inr (10, [ob_0, .ref wo, .ref mi, .ref hm, .ref mt, .int 0, .ref fv, .int 0, .int 0, .int 0, .int 0, .int 0, .int 0, .int (-1), .ref fr, ob_15, ob_16, ob_17, ob_18, ob_19, ob_20, ob_21, ob_22, ob_23, ob_24, ob_25, ob_26, ob_27, ob_28, ob_29, ob_30, ob_31, ob_32, ob_33, ob_34, .ref cd, ob_36, .ref my, .ref wi, .ref nb, .ref mv])), (mi, .inl (y 1, 27240, .inl f_51)), (wo, .inl (y 1, 9080, .inl fw)), (hm, .inl (y 3, 3, .inl (fun _ => 0)))] := hD
        refine lv_iinc (v := (nI (i_46 + 1))) (lv' := [(2, .int (nI (i_46 + 1))), (0, .ref ob), (1, .int 2)]) hx hb dX10_keep_42 hl (k := 0) rfl (by exact nI_1 _) (by decide) rfl (fun ls hl => ?_)
        refine lv_goto (tgt := 17) hx hb dX10_keep_45 (by decide) ?_
        exact ih_47 _ H locs ls ⟨i_46 + 1, by omega, hP, hD, hS, lv_sub hl [0, 1, 2] rfl⟩
    · skip
      exact absurd c_37 (by decide)
  · have hl : lv_has ls 3 [(0, .ref ob), (1, .int a1)] := hl
    refine lv_iload_n hx hb dX10_keep_0 rfl (lv_at hl 1 rfl) ?_
    refine lv_i2l hx hb dX10_keep_1 rfl ?_
    refine lv_lconst (v := 0) hx hb dX10_keep_2 (by decide) ?_
    refine lv_ldc2 (own := RX10) (v := 2) hx hb hown (hw0 _ m_403) dX10_keep_3 ?_
    refine cSi (As := [.long (a1).toInt64, .long 0, .long 2]) (rest := []) ⟨hx, hb, hml, hown, hw0⟩ hA hK hP hD hS [] [0, 1, 2, 3] [] [(ob, .inr (10, [ob_0, .ref wo, .ref mi, .ref hm, .ref mt, .int 0, .ref fv, .int 0, .int 0, .int 0, .int 0, .int 0, .int 0, .int (-1), .ref fr, ob_15, ob_16, ob_17, ob_18, ob_19, ob_20, ob_21, ob_22, ob_23, ob_24, ob_25, ob_26, ob_27, ob_28, ob_29, ob_30, ob_31, ob_32, ob_33, ob_34, .ref cd, ob_36, .ref my, .ref wi, .ref nb, .ref mv])), (mi, .inl (y 1, 27240, .inl fm)), (wo, .inl (y 1, 9080, .inl fw)), (hm, .inl (y 3, 3, .inl (fun _ => 0)))] rfl rfl (by decide) (by decide) (by decide) (kX10_in l G y _ ((a1).toInt64) 0 2 ) ⟨(callB_of 3 hw0 (gA m_164) rfl rfl rfl (hw0 _ m_166) (hw0 _ m_167) (by decide +kernel) ⟨Nat.le_of_ble_eq_true rfl, Nat.le_of_ble_eq_true rfl⟩), (hw0 _ m_168)⟩ rfl hl.1 (Nat.le_of_ble_eq_true rfl) dX10_keep_6 ⟨Nat.le_of_ble_eq_true rfl, Nat.le_of_ble_eq_true rfl⟩ (fun r_52 w_52 H locs hw_52 hP hD hS => ?_)
    rcases hw_52 with ⟨c_53, rfl, rfl⟩ | ⟨c_54, rfl, rfl⟩
    · skip
      have tc_53 := in_1 (x := a1) (a := 0) (b := 2) c_53 (by decide) (by decide)
      exfalso; omega
    · skip
      have tc_54 := in_0 (x := a1) (a := 0) (b := 2) c_54 (by decide) (by decide)
      have hP : va_P G vwCl [(ob, .inr (10, [ob_0, .ref wo, .ref mi, .ref hm, .ref mt, .int 0, .ref fv, .int 0, .int 0, .int 0, .int 0, .int 0, .int 0, .int (-1), .ref fr, ob_15, ob_16, ob_17, ob_18, ob_19, ob_20, ob_21, ob_22, ob_23, ob_24, ob_25, ob_26, ob_27, ob_28, ob_29, ob_30, ob_31, ob_32, ob_33, ob_34, .ref cd, ob_36, .ref my, .ref wi, .ref nb, .ref mv])), (mi, .inl (y 1, 27240, .inl fm)), (wo, .inl (y 1, 9080, .inl fw)), (hm, .inl (y 3, 3, .inl (fun _ => 0)))] H := hP
      have hD : va_D A [(ob, .inr (10, [ob_0, .ref wo, .ref mi, .ref hm, .ref mt, .int 0, .ref fv, .int 0, .int 0, .int 0, .int 0, .int 0, .int 0, .int (-1), .ref fr, ob_15, ob_16, ob_17, ob_18, ob_19, ob_20, ob_21, ob_22, ob_23, ob_24, ob_25, ob_26, ob_27, ob_28, ob_29, ob_30, ob_31, ob_32, ob_33, ob_34, .ref cd, ob_36, .ref my, .ref wi, .ref nb, .ref mv])), (mi, .inl (y 1, 27240, .inl fm)), (wo, .inl (y 1, 9080, .inl fw)), (hm, .inl (y 3, 3, .inl (fun _ => 0)))] := hD
      refine lv_if_ne (tgt := 15) hx hb dX10_keep_9 (by decide) (fun c9 => absurd (by decide) c9) (fun _ => ?_)
      refine lv_bipush (v := (-2)) hx hb dX10_keep_12 (by decide) ?_
      refine W.widen (k := 0) (n := 0) (Nat.le_of_ble_eq_true rfl) (Nat.le_of_ble_eq_true rfl) ?_
      exact W.iret (v := (-2)) hx hb hr (fun t ht hW => ⟨⟨(-2), _, rfl, (by first | rfl | decide | (simp only [sp_keep]; (repeat' split) <;> first | rfl | (exfalso; omega))), by rw [ht]; exact hP, hD⟩, hS.F ht⟩) hS.2.2 dX10_keep_14

set_option maxHeartbeats 4000000 in
set_option maxRecDepth 100000 in
theorem kX10_callsAll (l : Launch) (G : va_G) (y : Nat → ClassId) (sz : Nat) (ob : Nat) (ob_0 : Value) (wo : Nat) (mi : Nat) (hm : Nat) (mt : Nat) (fv : Nat) (fr : Nat) (ob_15 : Value) (ob_16 : Value) (ob_17 : Value) (ob_18 : Value) (ob_19 : Value) (ob_20 : Value) (ob_21 : Value) (ob_22 : Value) (ob_23 : Value) (ob_24 : Value) (ob_25 : Value) (ob_26 : Value) (ob_27 : Value) (ob_28 : Value) (ob_29 : Value) (ob_30 : Value) (ob_31 : Value) (ob_32 : Value) (ob_33 : Value) (ob_34 : Value) (cd : Nat) (ob_36 : Value) (my : Nat) (wi : Nat) (nb : Nat) (mv : Nat) (fw : Nat → Int32) (fc : Nat → Int32) (z8 : fw 8 = 0) : Met l yX10_callsAll (Cond.code yX10_callsAll cX10_callsAll 2 none :: wAll) ({ frames := 0, cells := 0, slots := 0, locals := 0 }) (va_Pc [.ref ob] (kp G y sz [(ob, .inr (10, [ob_0, .ref wo, .ref mi, .ref hm, .ref mt, .int 0, .ref fv, .int 0, .int 0, .int 0, .int 0, .int 0, .int 0, .int (-1), .ref fr, ob_15, ob_16, ob_17, ob_18, ob_19, ob_20, ob_21, ob_22, ob_23, ob_24, ob_25, ob_26, ob_27, ob_28, ob_29, ob_30, ob_31, ob_32, ob_33, ob_34, .ref cd, ob_36, .ref my, .ref wi, .ref nb, .ref mv])), (wo, .inl (y 1, 9080, .inl fw)), (cd, .inl (y 1, 16, .inl fc))])) (va_Qv (fun (w : va_W) => (∃ (f_1 : Nat → Int32), w = [(ob, .inr (10, [ob_0, .ref wo, .ref mi, .ref hm, .ref mt, .int 0, .ref fv, .int 0, .int 0, .int 0, .int 0, .int 0, .int 0, .int (-1), .ref fr, ob_15, ob_16, ob_17, ob_18, ob_19, ob_20, ob_21, ob_22, ob_23, ob_24, ob_25, ob_26, ob_27, ob_28, ob_29, ob_30, ob_31, ob_32, ob_33, ob_34, .ref cd, ob_36, .ref my, .ref wi, .ref nb, .ref mv])), (wo, .inl (y 1, 9080, .inl fw)), (cd, .inl (y 1, 16, .inl f_1))])) (kq G (va_A [(ob, .inr (10, [ob_0, .ref wo, .ref mi, .ref hm, .ref mt, .int 0, .ref fv, .int 0, .int 0, .int 0, .int 0, .int 0, .int 0, .int (-1), .ref fr, ob_15, ob_16, ob_17, ob_18, ob_19, ob_20, ob_21, ob_22, ob_23, ob_24, ob_25, ob_26, ob_27, ob_28, ob_29, ob_30, ob_31, ob_32, ob_33, ob_34, .ref cd, ob_36, .ref my, .ref wi, .ref nb, .ref mv])), (wo, .inl (y 1, 9080, .inl fw)), (cd, .inl (y 1, 16, .inl fc))] sz)) (va_A [(ob, .inr (10, [ob_0, .ref wo, .ref mi, .ref hm, .ref mt, .int 0, .ref fv, .int 0, .int 0, .int 0, .int 0, .int 0, .int 0, .int (-1), .ref fr, ob_15, ob_16, ob_17, ob_18, ob_19, ob_20, ob_21, ob_22, ob_23, ob_24, ob_25, ob_26, ob_27, ob_28, ob_29, ob_30, ob_31, ob_32, ob_33, ob_34, .ref cd, ob_36, .ref my, .ref wi, .ref nb, .ref mv])), (wo, .inl (y 1, 9080, .inl fw)), (cd, .inl (y 1, 16, .inl fc))] sz)) 0 0 (va_A [(ob, .inr (10, [ob_0, .ref wo, .ref mi, .ref hm, .ref mt, .int 0, .ref fv, .int 0, .int 0, .int 0, .int 0, .int 0, .int 0, .int (-1), .ref fr, ob_15, ob_16, ob_17, ob_18, ob_19, ob_20, ob_21, ob_22, ob_23, ob_24, ob_25, ob_26, ob_27, ob_28, ob_29, ob_30, ob_31, ob_32, ob_33, ob_34, .ref cd, ob_36, .ref my, .ref wi, .ref nb, .ref mv])), (wo, .inl (y 1, 9080, .inl fw)), (cd, .inl (y 1, 16, .inl fc))] sz) := by
  refine Met.ofW (cc := cX10_callsAll) (maxL := 2) (ret := none) (by decide) rfl ?_
  intro p e s m args below meth c s₁ B hml hv
  obtain ⟨rfl, hsz, hP, hK, hD0⟩ := hv
  have hx := B.exec
  have hb := B.bytes
  have hr := B.returns
  have hw0 : ∀ w ∈ wAll, w.before _ s = true := fun w h => atoms_spec (ws := Cond.code yX10_callsAll cX10_callsAll 2 none :: wAll) B.pre w (List.mem_cons_of_mem _ h)
  have hown : s.vm.findClass RX10 = some m.cls := findClass_of_methodNamed B.named
  have hlocks := B.notSynchronized
  subst hsz
  have hD := hD0.self (sz := s.heap.size)
  generalize hAe : va_A [(ob, .inr (10, [ob_0, .ref wo, .ref mi, .ref hm, .ref mt, .int 0, .ref fv, .int 0, .int 0, .int 0, .int 0, .int 0, .int 0, .int (-1), .ref fr, ob_15, ob_16, ob_17, ob_18, ob_19, ob_20, ob_21, ob_22, ob_23, ob_24, ob_25, ob_26, ob_27, ob_28, ob_29, ob_30, ob_31, ob_32, ob_33, ob_34, .ref cd, ob_36, .ref my, .ref wi, .ref nb, .ref mv])), (wo, .inl (y 1, 9080, .inl fw)), (cd, .inl (y 1, 16, .inl fc))] s.heap.size = A at hD ⊢
  have hA : ∀ q : Nat, s.heap.size ≤ q → A q := fun q h => by rw [← hAe]; exact Or.inr h
  have hS : va_S A s.heap s.heap [] := va_S.rf
  have hP : va_P G vwCl [(ob, .inr (10, [ob_0, .ref wo, .ref mi, .ref hm, .ref mt, .int 0, .ref fv, .int 0, .int 0, .int 0, .int 0, .int 0, .int 0, .int (-1), .ref fr, ob_15, ob_16, ob_17, ob_18, ob_19, ob_20, ob_21, ob_22, ob_23, ob_24, ob_25, ob_26, ob_27, ob_28, ob_29, ob_30, ob_31, ob_32, ob_33, ob_34, .ref cd, ob_36, .ref my, .ref wi, .ref nb, .ref mv])), (wo, .inl (y 1, 9080, .inl fw)), (cd, .inl (y 1, 16, .inl fc))] s.heap := hP
  have hl := lv_entry ([.ref ob]) (n := 2) (Nat.le_of_ble_eq_true rfl)
  rw [lg_entry_eq]
  generalize (lg_sl ([.ref ob]) ++ List.replicate (2 - (lg_sl ([.ref ob])).length) Slot.unset).toArray = ls at hl ⊢
  have hl : lv_has ls 2 [(0, .ref ob)] := hl
  refine lv_iconst (v := 0) hx hb dX10_callsAll_0 (by decide) ?_
  refine lv_istore_n (lv' := [(1, .int 0), (0, .ref ob)]) hx hb dX10_callsAll_1 rfl hl (by decide) rfl (fun ls hl => ?_)
  refine loopW (σ := (Nat → Int32)) (fun n x H locs ls => ∃ i_2 : Nat, i_2 + n = 16 ∧ va_P G vwCl [(ob, .inr (10, [ob_0, .ref wo, .ref mi, .ref hm, .ref mt, .int 0, .ref fv, .int 0, .int 0, .int 0, .int 0, .int 0, .int 0, .int (-1), .ref fr, ob_15, ob_16, ob_17, ob_18, ob_19, ob_20, ob_21, ob_22, ob_23, ob_24, ob_25, ob_26, ob_27, ob_28, ob_29, ob_30, ob_31, ob_32, ob_33, ob_34, .ref cd, ob_36, .ref my, .ref wi, .ref nb, .ref mv])), (wo, .inl (y 1, 9080, .inl fw)), (cd, .inl (y 1, 16, .inl (x)))] H ∧ va_D A [(ob, .inr (10, [ob_0, .ref wo, .ref mi, .ref hm, .ref mt, .int 0, .ref fv, .int 0, .int 0, .int 0, .int 0, .int 0, .int 0, .int (-1), .ref fr, ob_15, ob_16, ob_17, ob_18, ob_19, ob_20, ob_21, ob_22, ob_23, ob_24, ob_25, ob_26, ob_27, ob_28, ob_29, ob_30, ob_31, ob_32, ob_33, ob_34, .ref cd, ob_36, .ref my, .ref wi, .ref nb, .ref mv])), (wo, .inl (y 1, 9080, .inl fw)), (cd, .inl (y 1, 16, .inl (x)))] ∧ va_S A s.heap H locs ∧ lv_has ls 2 [(1, .int (nI (i_2))), (0, .ref ob)]) ?_ ?_ 16 (fc) ⟨0, by omega, hP, hD, hS, lv_sub hl [0, 1] rfl⟩
  · rintro f_3 H locs ls ⟨i_5, hi9, hP, hD, hS, hl⟩
    obtain rfl : i_5 = 16 := by omega
    have hP : va_P G vwCl [(ob, .inr (10, [ob_0, .ref wo, .ref mi, .ref hm, .ref mt, .int 0, .ref fv, .int 0, .int 0, .int 0, .int 0, .int 0, .int 0, .int (-1), .ref fr, ob_15, ob_16, ob_17, ob_18, ob_19, ob_20, ob_21, ob_22, ob_23, ob_24, ob_25, ob_26, ob_27, ob_28, ob_29, ob_30, ob_31, ob_32, ob_33, ob_34, .ref cd, ob_36, .ref my, .ref wi, .ref nb, .ref mv])), (wo, .inl (y 1, 9080, .inl fw)), (cd, .inl (y 1, 16, .inl f_3))] H := hP
    have hD : va_D A [(ob, .inr (10, [ob_0, .ref wo, .ref mi, .ref hm, .ref mt, .int 0, .ref fv, .int 0, .int 0, .int 0, .int 0, .int 0, .int 0, .int (-1), .ref fr, ob_15, ob_16, ob_17, ob_18, ob_19, ob_20, ob_21, ob_22, ob_23, ob_24, ob_25, ob_26, ob_27, ob_28, ob_29, ob_30, ob_31, ob_32, ob_33, ob_34, .ref cd, ob_36, .ref my, .ref wi, .ref nb, .ref mv])), (wo, .inl (y 1, 9080, .inl fw)), (cd, .inl (y 1, 16, .inl f_3))] := hD
    have hl : lv_has ls 2 [(1, .int 16), (0, .ref ob)] := hl
    refine lv_iload_n hx hb dX10_callsAll_2 rfl (lv_at hl 0 rfl) ?_
    refine lv_bipush (v := 16) hx hb dX10_callsAll_3 (by decide) ?_
    refine lv_icmp_ge (tgt := 21) hx hb dX10_callsAll_5 (by decide) (fun _ => ?_) (fun c9 => absurd (by decide) c9)
    refine lv_iconst (v := 0) hx hb dX10_callsAll_21 (by decide) ?_
    refine lv_istore_n (lv' := [(1, .int 0), (0, .ref ob)]) hx hb dX10_callsAll_22 rfl hl (by decide) rfl (fun ls hl => ?_)
    refine lv_iload_n hx hb dX10_callsAll_23 rfl (lv_at hl 0 rfl) ?_
    refine lv_aload_n hx hb dX10_callsAll_24 rfl (lv_at hl 1 rfl) ?_
    refine va_get (D := G) (ci := 10) (v := .ref wo) (C := RX10) (T := TX10) (N := 41) hx hb hw0 inA_wsX100 hown hK.1 hP 0 rfl rfl 1 (by decide) (hw0 _ m_132) (fun _ h9 => h9) rfl dX10_callsAll_25 ?_
    refine lv_bipush (v := 8) hx hb dX10_callsAll_28 (by decide) ?_
    refine va_iald hx hb hK.1 hP 1 1 rfl rfl (vp_in_nI (n := 8) (N := 9080) (by decide) (by decide)) dX10_callsAll_30 ?_
    refine lv_topi (fun v_7 ev_7 => ?_)
    obtain rfl : 0 = v_7 := (ev_7.trans (z8)).symm
    refine lv_icmp_ge (tgt := 103) hx hb dX10_callsAll_31 (by decide) (fun _ => ?_) (fun c9 => absurd (by decide) c9)
    refine W.widen (k := 0) (n := 0) (Nat.le_of_ble_eq_true rfl) (Nat.le_of_ble_eq_true rfl) ?_
    exact W.vret hx hb hr (fun t ht hW => ⟨⟨([(ob, .inr (10, [ob_0, .ref wo, .ref mi, .ref hm, .ref mt, .int 0, .ref fv, .int 0, .int 0, .int 0, .int 0, .int 0, .int 0, .int (-1), .ref fr, ob_15, ob_16, ob_17, ob_18, ob_19, ob_20, ob_21, ob_22, ob_23, ob_24, ob_25, ob_26, ob_27, ob_28, ob_29, ob_30, ob_31, ob_32, ob_33, ob_34, .ref cd, ob_36, .ref my, .ref wi, .ref nb, .ref mv])), (wo, .inl (y 1, 9080, .inl fw)), (cd, .inl (y 1, 16, .inl f_3))] : va_W), rfl, ⟨_, rfl⟩, by rw [ht]; exact hP, hD⟩, hS.F ht⟩) hS.2.2 dX10_callsAll_103
  · rintro n_9 ih_11 f_8 H locs ls ⟨i_10, hi_i_10, hP, hD, hS, hl⟩
    have hb_i_10 : i_10 < 16 := by omega
    have hP : va_P G vwCl [(ob, .inr (10, [ob_0, .ref wo, .ref mi, .ref hm, .ref mt, .int 0, .ref fv, .int 0, .int 0, .int 0, .int 0, .int 0, .int 0, .int (-1), .ref fr, ob_15, ob_16, ob_17, ob_18, ob_19, ob_20, ob_21, ob_22, ob_23, ob_24, ob_25, ob_26, ob_27, ob_28, ob_29, ob_30, ob_31, ob_32, ob_33, ob_34, .ref cd, ob_36, .ref my, .ref wi, .ref nb, .ref mv])), (wo, .inl (y 1, 9080, .inl fw)), (cd, .inl (y 1, 16, .inl f_8))] H := hP
    have hD : va_D A [(ob, .inr (10, [ob_0, .ref wo, .ref mi, .ref hm, .ref mt, .int 0, .ref fv, .int 0, .int 0, .int 0, .int 0, .int 0, .int 0, .int (-1), .ref fr, ob_15, ob_16, ob_17, ob_18, ob_19, ob_20, ob_21, ob_22, ob_23, ob_24, ob_25, ob_26, ob_27, ob_28, ob_29, ob_30, ob_31, ob_32, ob_33, ob_34, .ref cd, ob_36, .ref my, .ref wi, .ref nb, .ref mv])), (wo, .inl (y 1, 9080, .inl fw)), (cd, .inl (y 1, 16, .inl f_8))] := hD
    have hl : lv_has ls 2 [(1, .int (nI (i_10))), (0, .ref ob)] := hl
    refine lv_iload_n hx hb dX10_callsAll_2 rfl (lv_at hl 0 rfl) ?_
    refine lv_bipush (v := 16) hx hb dX10_callsAll_3 (by decide) ?_
    refine lv_icmp_ge (tgt := 21) hx hb dX10_callsAll_5 (by decide) (fun c9 => absurd c9 (nI_ge (a := i_10) (b := 16) (by omega) (by omega))) (fun _ => ?_)
    refine lv_aload_n hx hb dX10_callsAll_8 rfl (lv_at hl 1 rfl) ?_
    refine va_get (D := G) (ci := 10) (v := .ref cd) (C := RX10) (T := TX10) (N := 41) hx hb hw0 inA_wsX100 hown hK.1 hP 0 rfl rfl 35 (by decide) (hw0 _ m_155) (fun _ h9 => h9) rfl dX10_callsAll_9 ?_
    refine lv_iload_n hx hb dX10_callsAll_12 rfl (lv_at hl 0 rfl) ?_
    refine lv_iconst (v := 0) hx hb dX10_callsAll_13 (by decide) ?_
    refine va_iast hx hb hK.1 hP hD hS 2 1 rfl rfl (vp_in_nI (n := i_10) (N := 16) (by omega) (by decide)) dX10_callsAll_14 (fun H locs hP hD hS => ?_)
    generalize (upd f_8 ((nI (i_10)) : Int32).toNatClampNeg 0) = f_12 at hP hD
    have hP : va_P G vwCl [(ob, .inr (10, [ob_0, .ref wo, .ref mi, .ref hm, .ref mt, .int 0, .ref fv, .int 0, .int 0, .int 0, .int 0, .int 0, .int 0, .int (-1), .ref fr, ob_15, ob_16, ob_17, ob_18, ob_19, ob_20, ob_21, ob_22, ob_23, ob_24, ob_25, ob_26, ob_27, ob_28, ob_29, ob_30, ob_31, ob_32, ob_33, ob_34, .ref cd, ob_36, .ref my, .ref wi, .ref nb, .ref mv])), (wo, .inl (y 1, 9080, .inl fw)), (cd, .inl (y 1, 16, .inl f_12))] H := hP
    have hD : va_D A [(ob, .inr (10, [ob_0, .ref wo, .ref mi, .ref hm, .ref mt, .int 0, .ref fv, .int 0, .int 0, .int 0, .int 0, .int 0, .int 0, .int (-1), .ref fr, ob_15, ob_16, ob_17, ob_18, ob_19, ob_20, ob_21, ob_22, ob_23, ob_24, ob_25, ob_26, ob_27, ob_28, ob_29, ob_30, ob_31, ob_32, ob_33, ob_34, .ref cd, ob_36, .ref my, .ref wi, .ref nb, .ref mv])), (wo, .inl (y 1, 9080, .inl fw)), (cd, .inl (y 1, 16, .inl f_12))] := hD
    refine lv_iinc (v := (nI (i_10 + 1))) (lv' := [(1, .int (nI (i_10 + 1))), (0, .ref ob)]) hx hb dX10_callsAll_15 hl (k := 0) rfl (by exact nI_1 _) (by decide) rfl (fun ls hl => ?_)
    refine lv_goto (tgt := 2) hx hb dX10_callsAll_18 (by decide) ?_
    exact ih_11 _ H locs ls ⟨i_10 + 1, by omega, hP, hD, hS, lv_sub hl [0, 1] rfl⟩

set_option maxHeartbeats 4000000 in
set_option maxRecDepth 100000 in
theorem kX10_rings (l : Launch) (G : va_G) (y : Nat → ClassId) (sz : Nat) (ob : Nat) (ob_0 : Value) (wo : Nat) (mi : Nat) (hm : Nat) (mt : Nat) (fv : Nat) (fr : Nat) (ob_15 : Value) (ob_16 : Value) (ob_17 : Value) (ob_18 : Value) (ob_19 : Value) (ob_20 : Value) (ob_21 : Value) (ob_22 : Value) (ob_23 : Value) (ob_24 : Value) (ob_25 : Value) (ob_26 : Value) (ob_27 : Value) (ob_28 : Value) (ob_29 : Value) (ob_30 : Value) (ob_31 : Value) (ob_32 : Value) (ob_33 : Value) (ob_34 : Value) (cd : Nat) (ob_36 : Value) (my : Nat) (wi : Nat) (nb : Nat) (mv : Nat) (fw : Nat → Int32) (fc : Nat → Int32) (z0 : fw 0 = 0) (z8 : fw 8 = 0) : Met l yX10_rings (Cond.code yX10_rings cX10_rings 4 (some .int) :: wAll) ({ frames := 1, cells := 0, slots := 0, locals := 21 }) (va_Pc [.ref ob] (kp G y sz [(ob, .inr (10, [ob_0, .ref wo, .ref mi, .ref hm, .ref mt, .int 0, .ref fv, .int 0, .int 0, .int 0, .int 0, .int 0, .int 0, .int (-1), .ref fr, ob_15, ob_16, ob_17, ob_18, ob_19, ob_20, ob_21, ob_22, ob_23, ob_24, ob_25, ob_26, ob_27, ob_28, ob_29, ob_30, ob_31, ob_32, ob_33, ob_34, .ref cd, ob_36, .ref my, .ref wi, .ref nb, .ref mv])), (wo, .inl (y 1, 9080, .inl fw)), (cd, .inl (y 1, 16, .inl fc))])) (va_Qi (fun (r : Int32) (_ : va_W) => r = 0) (kq G (va_A [(ob, .inr (10, [ob_0, .ref wo, .ref mi, .ref hm, .ref mt, .int 0, .ref fv, .int 0, .int 0, .int 0, .int 0, .int 0, .int 0, .int (-1), .ref fr, ob_15, ob_16, ob_17, ob_18, ob_19, ob_20, ob_21, ob_22, ob_23, ob_24, ob_25, ob_26, ob_27, ob_28, ob_29, ob_30, ob_31, ob_32, ob_33, ob_34, .ref cd, ob_36, .ref my, .ref wi, .ref nb, .ref mv])), (wo, .inl (y 1, 9080, .inl fw)), (cd, .inl (y 1, 16, .inl fc))] sz)) (va_A [(ob, .inr (10, [ob_0, .ref wo, .ref mi, .ref hm, .ref mt, .int 0, .ref fv, .int 0, .int 0, .int 0, .int 0, .int 0, .int 0, .int (-1), .ref fr, ob_15, ob_16, ob_17, ob_18, ob_19, ob_20, ob_21, ob_22, ob_23, ob_24, ob_25, ob_26, ob_27, ob_28, ob_29, ob_30, ob_31, ob_32, ob_33, ob_34, .ref cd, ob_36, .ref my, .ref wi, .ref nb, .ref mv])), (wo, .inl (y 1, 9080, .inl fw)), (cd, .inl (y 1, 16, .inl fc))] sz)) 0 0 (va_A [(ob, .inr (10, [ob_0, .ref wo, .ref mi, .ref hm, .ref mt, .int 0, .ref fv, .int 0, .int 0, .int 0, .int 0, .int 0, .int 0, .int (-1), .ref fr, ob_15, ob_16, ob_17, ob_18, ob_19, ob_20, ob_21, ob_22, ob_23, ob_24, ob_25, ob_26, ob_27, ob_28, ob_29, ob_30, ob_31, ob_32, ob_33, ob_34, .ref cd, ob_36, .ref my, .ref wi, .ref nb, .ref mv])), (wo, .inl (y 1, 9080, .inl fw)), (cd, .inl (y 1, 16, .inl fc))] sz) := by
  refine Met.ofW (cc := cX10_rings) (maxL := 4) (ret := (some .int)) (by decide) rfl ?_
  intro p e s m args below meth c s₁ B hml hv
  obtain ⟨rfl, hsz, hP, hK, hD0⟩ := hv
  have hx := B.exec
  have hb := B.bytes
  have hr := B.returns
  have hw0 : ∀ w ∈ wAll, w.before _ s = true := fun w h => atoms_spec (ws := Cond.code yX10_rings cX10_rings 4 (some .int) :: wAll) B.pre w (List.mem_cons_of_mem _ h)
  have hown : s.vm.findClass RX10 = some m.cls := findClass_of_methodNamed B.named
  have hlocks := B.notSynchronized
  subst hsz
  have hD := hD0.self (sz := s.heap.size)
  generalize hAe : va_A [(ob, .inr (10, [ob_0, .ref wo, .ref mi, .ref hm, .ref mt, .int 0, .ref fv, .int 0, .int 0, .int 0, .int 0, .int 0, .int 0, .int (-1), .ref fr, ob_15, ob_16, ob_17, ob_18, ob_19, ob_20, ob_21, ob_22, ob_23, ob_24, ob_25, ob_26, ob_27, ob_28, ob_29, ob_30, ob_31, ob_32, ob_33, ob_34, .ref cd, ob_36, .ref my, .ref wi, .ref nb, .ref mv])), (wo, .inl (y 1, 9080, .inl fw)), (cd, .inl (y 1, 16, .inl fc))] s.heap.size = A at hD ⊢
  have hA : ∀ q : Nat, s.heap.size ≤ q → A q := fun q h => by rw [← hAe]; exact Or.inr h
  have hS : va_S A s.heap s.heap [] := va_S.rf
  have hP : va_P G vwCl [(ob, .inr (10, [ob_0, .ref wo, .ref mi, .ref hm, .ref mt, .int 0, .ref fv, .int 0, .int 0, .int 0, .int 0, .int 0, .int 0, .int (-1), .ref fr, ob_15, ob_16, ob_17, ob_18, ob_19, ob_20, ob_21, ob_22, ob_23, ob_24, ob_25, ob_26, ob_27, ob_28, ob_29, ob_30, ob_31, ob_32, ob_33, ob_34, .ref cd, ob_36, .ref my, .ref wi, .ref nb, .ref mv])), (wo, .inl (y 1, 9080, .inl fw)), (cd, .inl (y 1, 16, .inl fc))] s.heap := hP
  have hl := lv_entry ([.ref ob]) (n := 4) (Nat.le_of_ble_eq_true rfl)
  rw [lg_entry_eq]
  generalize (lg_sl ([.ref ob]) ++ List.replicate (4 - (lg_sl ([.ref ob])).length) Slot.unset).toArray = ls at hl ⊢
  have hl : lv_has ls 4 [(0, .ref ob)] := hl
  refine lv_aload_n hx hb dX10_rings_0 rfl (lv_at hl 0 rfl) ?_
  refine cVv (As := []) (rest := []) ⟨hx, hb, hml, hown, hw0⟩ hA hK hP hD hS [0, 1, 2] [] [(ob, .inr (10, [ob_0, .ref wo, .ref mi, .ref hm, .ref mt, .int 0, .ref fv, .int 0, .int 0, .int 0, .int 0, .int 0, .int 0, .int (-1), .ref fr, ob_15, ob_16, ob_17, ob_18, ob_19, ob_20, ob_21, ob_22, ob_23, ob_24, ob_25, ob_26, ob_27, ob_28, ob_29, ob_30, ob_31, ob_32, ob_33, ob_34, .ref cd, ob_36, .ref my, .ref wi, .ref nb, .ref mv])), (wo, .inl (y 1, 9080, .inl fw)), (cd, .inl (y 1, 16, .inl fc))] [] rfl rfl (by decide) (by decide) (by decide) (kX10_callsAll l G y _ ob (ob_0) wo mi hm mt fv fr (ob_15) (ob_16) (ob_17) (ob_18) (ob_19) (ob_20) (ob_21) (ob_22) (ob_23) (ob_24) (ob_25) (ob_26) (ob_27) (ob_28) (ob_29) (ob_30) (ob_31) (ob_32) (ob_33) (ob_34) cd (ob_36) my wi nb mv fw fc z8) ⟨(callB_of 0 hw0 (gA m_413) rfl rfl rfl (hw0 _ m_166) (hw0 _ m_414) (by decide +kernel) ⟨Nat.le_of_ble_eq_true rfl, Nat.le_of_ble_eq_true rfl⟩), (hw0 _ m_415), (hw0 _ m_416)⟩ (ci := 10) (q := (RX10, TX10, 41)) rfl rfl rfl hl.1 (Nat.le_of_ble_eq_true rfl) dX10_rings_1 ⟨Nat.le_of_ble_eq_true rfl, Nat.le_of_ble_eq_true rfl⟩ (fun w_1 H locs hw_1 hP hD hS => ?_)
  obtain ⟨f_2, rfl⟩ := hw_1
  have hP : va_P G vwCl [(ob, .inr (10, [ob_0, .ref wo, .ref mi, .ref hm, .ref mt, .int 0, .ref fv, .int 0, .int 0, .int 0, .int 0, .int 0, .int 0, .int (-1), .ref fr, ob_15, ob_16, ob_17, ob_18, ob_19, ob_20, ob_21, ob_22, ob_23, ob_24, ob_25, ob_26, ob_27, ob_28, ob_29, ob_30, ob_31, ob_32, ob_33, ob_34, .ref cd, ob_36, .ref my, .ref wi, .ref nb, .ref mv])), (wo, .inl (y 1, 9080, .inl fw)), (cd, .inl (y 1, 16, .inl f_2))] H := hP
  have hD : va_D A [(ob, .inr (10, [ob_0, .ref wo, .ref mi, .ref hm, .ref mt, .int 0, .ref fv, .int 0, .int 0, .int 0, .int 0, .int 0, .int 0, .int (-1), .ref fr, ob_15, ob_16, ob_17, ob_18, ob_19, ob_20, ob_21, ob_22, ob_23, ob_24, ob_25, ob_26, ob_27, ob_28, ob_29, ob_30, ob_31, ob_32, ob_33, ob_34, .ref cd, ob_36, .ref my, .ref wi, .ref nb, .ref mv])), (wo, .inl (y 1, 9080, .inl fw)), (cd, .inl (y 1, 16, .inl f_2))] := hD
  refine lv_iconst (v := 0) hx hb dX10_rings_4 (by decide) ?_
  refine lv_istore_n (lv' := [(1, .int 0), (0, .ref ob)]) hx hb dX10_rings_5 rfl hl (by decide) rfl (fun ls hl => ?_)
  refine lv_iconst (v := 0) hx hb dX10_rings_6 (by decide) ?_
  refine lv_istore_n (lv' := [(2, .int 0), (1, .int 0), (0, .ref ob)]) hx hb dX10_rings_7 rfl hl (by decide) rfl (fun ls hl => ?_)
  refine lv_iload_n hx hb dX10_rings_8 rfl (lv_at hl 0 rfl) ?_
  refine lv_aload_n hx hb dX10_rings_9 rfl (lv_at hl 2 rfl) ?_
  refine va_get (D := G) (ci := 10) (v := .ref wo) (C := RX10) (T := TX10) (N := 41) hx hb hw0 inA_wsX100 hown hK.1 hP 0 rfl rfl 1 (by decide) (hw0 _ m_132) (fun _ h9 => h9) rfl dX10_rings_10 ?_
  refine lv_iconst (v := 0) hx hb dX10_rings_13 (by decide) ?_
  refine va_iald hx hb hK.1 hP 1 1 rfl rfl (vp_in_nI (n := 0) (N := 9080) (by decide) (by decide)) dX10_rings_14 ?_
  refine lv_topi (fun v_3 ev_3 => ?_)
  obtain rfl : 0 = v_3 := (ev_3.trans (z0)).symm
  refine lv_icmp_ge (tgt := 52) hx hb dX10_rings_15 (by decide) (fun _ => ?_) (fun c9 => absurd (by decide) c9)
  refine lv_iload_n hx hb dX10_rings_52 rfl (lv_at hl 1 rfl) ?_
  refine W.widen (k := 0) (n := 0) (Nat.le_of_ble_eq_true rfl) (Nat.le_of_ble_eq_true rfl) ?_
  exact W.iret (v := 0) hx hb hr (fun t ht hW => ⟨⟨0, _, rfl, rfl, by rw [ht]; exact hP, hD⟩, hS.F ht⟩) hS.2.2 dX10_rings_53

set_option maxHeartbeats 4000000 in
set_option maxRecDepth 100000 in
theorem kX10_see (l : Launch) (G : va_G) (y : Nat → ClassId) (sz : Nat) (ob : Nat) (ob_0 : Value) (wo : Nat) (mi : Nat) (hm : Nat) (mt : Nat) (fv : Nat) (fr : Nat) (ob_15 : Value) (ob_16 : Value) (ob_17 : Value) (ob_18 : Value) (ob_19 : Value) (ob_20 : Value) (ob_21 : Value) (ob_22 : Value) (ob_23 : Value) (ob_24 : Value) (ob_25 : Value) (ob_26 : Value) (ob_27 : Value) (ob_28 : Value) (ob_29 : Value) (ob_30 : Value) (ob_31 : Value) (ob_32 : Value) (ob_33 : Value) (ob_34 : Value) (cd : Nat) (ob_36 : Value) (my : Nat) (wi : Nat) (nb : Nat) (mv : Nat)  : Met l yX10_see (Cond.code yX10_see cX10_see 2 (some .int) :: wAll) ({ frames := 0, cells := 0, slots := 0, locals := 0 }) (va_Pc [.ref ob, .int 0] (kp G y sz [(ob, .inr (10, [ob_0, .ref wo, .ref mi, .ref hm, .ref mt, .int 0, .ref fv, .int 0, .int 0, .int 0, .int 0, .int 0, .int 0, .int (-1), .ref fr, ob_15, ob_16, ob_17, ob_18, ob_19, ob_20, ob_21, ob_22, ob_23, ob_24, ob_25, ob_26, ob_27, ob_28, ob_29, ob_30, ob_31, ob_32, ob_33, ob_34, .ref cd, ob_36, .ref my, .ref wi, .ref nb, .ref mv]))])) (va_Qi (fun (r : Int32) (w : va_W) => (r = (-1) ∧ w = [(ob, .inr (10, [ob_0, .ref wo, .ref mi, .ref hm, .ref mt, .int 0, .ref fv, .int 0, .int 0, .int 0, .int 0, .int 0, .int 0, .int (-1), .ref fr, ob_15, ob_16, ob_17, ob_18, ob_19, ob_20, ob_21, ob_22, ob_23, ob_24, ob_25, ob_26, ob_27, ob_28, ob_29, ob_30, ob_31, ob_32, ob_33, ob_34, .ref cd, ob_36, .ref my, .ref wi, .ref nb, .ref mv]))])) (kq G (va_A [(ob, .inr (10, [ob_0, .ref wo, .ref mi, .ref hm, .ref mt, .int 0, .ref fv, .int 0, .int 0, .int 0, .int 0, .int 0, .int 0, .int (-1), .ref fr, ob_15, ob_16, ob_17, ob_18, ob_19, ob_20, ob_21, ob_22, ob_23, ob_24, ob_25, ob_26, ob_27, ob_28, ob_29, ob_30, ob_31, ob_32, ob_33, ob_34, .ref cd, ob_36, .ref my, .ref wi, .ref nb, .ref mv]))] sz)) (va_A [(ob, .inr (10, [ob_0, .ref wo, .ref mi, .ref hm, .ref mt, .int 0, .ref fv, .int 0, .int 0, .int 0, .int 0, .int 0, .int 0, .int (-1), .ref fr, ob_15, ob_16, ob_17, ob_18, ob_19, ob_20, ob_21, ob_22, ob_23, ob_24, ob_25, ob_26, ob_27, ob_28, ob_29, ob_30, ob_31, ob_32, ob_33, ob_34, .ref cd, ob_36, .ref my, .ref wi, .ref nb, .ref mv]))] sz)) 0 0 (va_A [(ob, .inr (10, [ob_0, .ref wo, .ref mi, .ref hm, .ref mt, .int 0, .ref fv, .int 0, .int 0, .int 0, .int 0, .int 0, .int 0, .int (-1), .ref fr, ob_15, ob_16, ob_17, ob_18, ob_19, ob_20, ob_21, ob_22, ob_23, ob_24, ob_25, ob_26, ob_27, ob_28, ob_29, ob_30, ob_31, ob_32, ob_33, ob_34, .ref cd, ob_36, .ref my, .ref wi, .ref nb, .ref mv]))] sz) := by
  refine Met.ofW (cc := cX10_see) (maxL := 2) (ret := (some .int)) (by decide) rfl ?_
  intro p e s m args below meth c s₁ B hml hv
  obtain ⟨rfl, hsz, hP, hK, hD0⟩ := hv
  have hx := B.exec
  have hb := B.bytes
  have hr := B.returns
  have hw0 : ∀ w ∈ wAll, w.before _ s = true := fun w h => atoms_spec (ws := Cond.code yX10_see cX10_see 2 (some .int) :: wAll) B.pre w (List.mem_cons_of_mem _ h)
  have hown : s.vm.findClass RX10 = some m.cls := findClass_of_methodNamed B.named
  have hlocks := B.notSynchronized
  subst hsz
  have hD := hD0.self (sz := s.heap.size)
  generalize hAe : va_A [(ob, .inr (10, [ob_0, .ref wo, .ref mi, .ref hm, .ref mt, .int 0, .ref fv, .int 0, .int 0, .int 0, .int 0, .int 0, .int 0, .int (-1), .ref fr, ob_15, ob_16, ob_17, ob_18, ob_19, ob_20, ob_21, ob_22, ob_23, ob_24, ob_25, ob_26, ob_27, ob_28, ob_29, ob_30, ob_31, ob_32, ob_33, ob_34, .ref cd, ob_36, .ref my, .ref wi, .ref nb, .ref mv]))] s.heap.size = A at hD ⊢
  have hA : ∀ q : Nat, s.heap.size ≤ q → A q := fun q h => by rw [← hAe]; exact Or.inr h
  have hS : va_S A s.heap s.heap [] := va_S.rf
  have hP : va_P G vwCl [(ob, .inr (10, [ob_0, .ref wo, .ref mi, .ref hm, .ref mt, .int 0, .ref fv, .int 0, .int 0, .int 0, .int 0, .int 0, .int 0, .int (-1), .ref fr, ob_15, ob_16, ob_17, ob_18, ob_19, ob_20, ob_21, ob_22, ob_23, ob_24, ob_25, ob_26, ob_27, ob_28, ob_29, ob_30, ob_31, ob_32, ob_33, ob_34, .ref cd, ob_36, .ref my, .ref wi, .ref nb, .ref mv]))] s.heap := hP
  have hl := lv_entry ([.ref ob, .int 0]) (n := 2) (Nat.le_of_ble_eq_true rfl)
  rw [lg_entry_eq]
  generalize (lg_sl ([.ref ob, .int 0]) ++ List.replicate (2 - (lg_sl ([.ref ob, .int 0])).length) Slot.unset).toArray = ls at hl ⊢
  have hl : lv_has ls 2 [(0, .ref ob), (1, .int 0)] := hl
  refine lv_iload_n hx hb dX10_see_0 rfl (lv_at hl 1 rfl) ?_
  refine lv_aload_n hx hb dX10_see_1 rfl (lv_at hl 0 rfl) ?_
  refine va_get (D := G) (ci := 10) (v := .int 0) (C := RX10) (T := TX10) (N := 41) hx hb hw0 inA_wsX100 hown hK.1 hP 0 rfl rfl 7 (by decide) (hw0 _ m_418) (fun _ h9 => h9) rfl dX10_see_2 ?_
  refine lv_icmp_ge (tgt := 21) hx hb dX10_see_5 (by decide) (fun _ => ?_) (fun c9 => absurd (by decide) c9)
  refine lv_iconst (v := (-1)) hx hb dX10_see_21 (by decide) ?_
  refine W.widen (k := 0) (n := 0) (Nat.le_of_ble_eq_true rfl) (Nat.le_of_ble_eq_true rfl) ?_
  exact W.iret (v := (-1)) hx hb hr (fun t ht hW => ⟨⟨(-1), ([(ob, .inr (10, [ob_0, .ref wo, .ref mi, .ref hm, .ref mt, .int 0, .ref fv, .int 0, .int 0, .int 0, .int 0, .int 0, .int 0, .int (-1), .ref fr, ob_15, ob_16, ob_17, ob_18, ob_19, ob_20, ob_21, ob_22, ob_23, ob_24, ob_25, ob_26, ob_27, ob_28, ob_29, ob_30, ob_31, ob_32, ob_33, ob_34, .ref cd, ob_36, .ref my, .ref wi, .ref nb, .ref mv]))] : va_W), rfl, ⟨rfl, rfl⟩, by rw [ht]; exact hP, hD⟩, hS.F ht⟩) hS.2.2 dX10_see_22

set_option maxHeartbeats 4000000 in
set_option maxRecDepth 100000 in
theorem kX10_good (l : Launch) (G : va_G) (y : Nat → ClassId) (sz : Nat) (ob : Nat) (ob_0 : Value) (wo : Nat) (mi : Nat) (hm : Nat) (mt : Nat) (fv : Nat) (fr : Nat) (ob_15 : Value) (ob_16 : Value) (ob_17 : Value) (ob_18 : Value) (ob_19 : Value) (ob_20 : Value) (ob_21 : Value) (ob_22 : Value) (ob_23 : Value) (ob_24 : Value) (ob_25 : Value) (ob_26 : Value) (ob_27 : Value) (ob_28 : Value) (ob_29 : Value) (ob_30 : Value) (ob_31 : Value) (ob_32 : Value) (ob_33 : Value) (ob_34 : Value) (cd : Nat) (ob_36 : Value) (my : Nat) (wi : Nat) (nb : Nat) (mv : Nat)  : Met l yX10_good (Cond.code yX10_good cX10_good 1 (some .boolean) :: wAll) ({ frames := 0, cells := 0, slots := 0, locals := 0 }) (va_Pc [.ref ob] (kp G y sz [(ob, .inr (10, [ob_0, .ref wo, .ref mi, .ref hm, .ref mt, .int 0, .ref fv, .int 0, .int 0, .int 0, .int 0, .int 0, .int 0, .int (-1), .ref fr, ob_15, ob_16, ob_17, ob_18, ob_19, ob_20, ob_21, ob_22, ob_23, ob_24, ob_25, ob_26, ob_27, ob_28, ob_29, ob_30, ob_31, ob_32, ob_33, ob_34, .ref cd, ob_36, .ref my, .ref wi, .ref nb, .ref mv]))])) (va_Qi (fun (r : Int32) (w : va_W) => (r = 1 ∧ w = [(ob, .inr (10, [ob_0, .ref wo, .ref mi, .ref hm, .ref mt, .int 0, .ref fv, .int 0, .int 0, .int 0, .int 0, .int 0, .int 0, .int (-1), .ref fr, ob_15, ob_16, ob_17, ob_18, ob_19, ob_20, ob_21, ob_22, ob_23, ob_24, ob_25, ob_26, ob_27, ob_28, ob_29, ob_30, ob_31, ob_32, ob_33, ob_34, .ref cd, ob_36, .ref my, .ref wi, .ref nb, .ref mv]))])) (kq G (va_A [(ob, .inr (10, [ob_0, .ref wo, .ref mi, .ref hm, .ref mt, .int 0, .ref fv, .int 0, .int 0, .int 0, .int 0, .int 0, .int 0, .int (-1), .ref fr, ob_15, ob_16, ob_17, ob_18, ob_19, ob_20, ob_21, ob_22, ob_23, ob_24, ob_25, ob_26, ob_27, ob_28, ob_29, ob_30, ob_31, ob_32, ob_33, ob_34, .ref cd, ob_36, .ref my, .ref wi, .ref nb, .ref mv]))] sz)) (va_A [(ob, .inr (10, [ob_0, .ref wo, .ref mi, .ref hm, .ref mt, .int 0, .ref fv, .int 0, .int 0, .int 0, .int 0, .int 0, .int 0, .int (-1), .ref fr, ob_15, ob_16, ob_17, ob_18, ob_19, ob_20, ob_21, ob_22, ob_23, ob_24, ob_25, ob_26, ob_27, ob_28, ob_29, ob_30, ob_31, ob_32, ob_33, ob_34, .ref cd, ob_36, .ref my, .ref wi, .ref nb, .ref mv]))] sz)) 0 0 (va_A [(ob, .inr (10, [ob_0, .ref wo, .ref mi, .ref hm, .ref mt, .int 0, .ref fv, .int 0, .int 0, .int 0, .int 0, .int 0, .int 0, .int (-1), .ref fr, ob_15, ob_16, ob_17, ob_18, ob_19, ob_20, ob_21, ob_22, ob_23, ob_24, ob_25, ob_26, ob_27, ob_28, ob_29, ob_30, ob_31, ob_32, ob_33, ob_34, .ref cd, ob_36, .ref my, .ref wi, .ref nb, .ref mv]))] sz) := by
  refine Met.ofW (cc := cX10_good) (maxL := 1) (ret := (some .boolean)) (by decide) rfl ?_
  intro p e s m args below meth c s₁ B hml hv
  obtain ⟨rfl, hsz, hP, hK, hD0⟩ := hv
  have hx := B.exec
  have hb := B.bytes
  have hr := B.returns
  have hw0 : ∀ w ∈ wAll, w.before _ s = true := fun w h => atoms_spec (ws := Cond.code yX10_good cX10_good 1 (some .boolean) :: wAll) B.pre w (List.mem_cons_of_mem _ h)
  have hown : s.vm.findClass RX10 = some m.cls := findClass_of_methodNamed B.named
  have hlocks := B.notSynchronized
  subst hsz
  have hD := hD0.self (sz := s.heap.size)
  generalize hAe : va_A [(ob, .inr (10, [ob_0, .ref wo, .ref mi, .ref hm, .ref mt, .int 0, .ref fv, .int 0, .int 0, .int 0, .int 0, .int 0, .int 0, .int (-1), .ref fr, ob_15, ob_16, ob_17, ob_18, ob_19, ob_20, ob_21, ob_22, ob_23, ob_24, ob_25, ob_26, ob_27, ob_28, ob_29, ob_30, ob_31, ob_32, ob_33, ob_34, .ref cd, ob_36, .ref my, .ref wi, .ref nb, .ref mv]))] s.heap.size = A at hD ⊢
  have hA : ∀ q : Nat, s.heap.size ≤ q → A q := fun q h => by rw [← hAe]; exact Or.inr h
  have hS : va_S A s.heap s.heap [] := va_S.rf
  have hP : va_P G vwCl [(ob, .inr (10, [ob_0, .ref wo, .ref mi, .ref hm, .ref mt, .int 0, .ref fv, .int 0, .int 0, .int 0, .int 0, .int 0, .int 0, .int (-1), .ref fr, ob_15, ob_16, ob_17, ob_18, ob_19, ob_20, ob_21, ob_22, ob_23, ob_24, ob_25, ob_26, ob_27, ob_28, ob_29, ob_30, ob_31, ob_32, ob_33, ob_34, .ref cd, ob_36, .ref my, .ref wi, .ref nb, .ref mv]))] s.heap := hP
  have hl := lv_entry ([.ref ob]) (n := 1) (Nat.le_of_ble_eq_true rfl)
  rw [lg_entry_eq]
  generalize (lg_sl ([.ref ob]) ++ List.replicate (1 - (lg_sl ([.ref ob])).length) Slot.unset).toArray = ls at hl ⊢
  have hl : lv_has ls 1 [(0, .ref ob)] := hl
  refine lv_aload_n hx hb dX10_good_0 rfl (lv_at hl 0 rfl) ?_
  refine va_get (D := G) (ci := 10) (v := .int 0) (C := RX10) (T := TX10) (N := 41) hx hb hw0 inA_wsX100 hown hK.1 hP 0 rfl rfl 12 (by decide) (hw0 _ m_395) (fun _ h9 => h9) rfl dX10_good_1 ?_
  refine lv_if_ne (tgt := 11) hx hb dX10_good_4 (by decide) (fun c9 => absurd (by decide) c9) (fun _ => ?_)
  refine lv_iconst (v := 1) hx hb dX10_good_7 (by decide) ?_
  refine lv_goto (tgt := 12) hx hb dX10_good_8 (by decide) ?_
  refine W.widen (k := 0) (n := 0) (Nat.le_of_ble_eq_true rfl) (Nat.le_of_ble_eq_true rfl) ?_
  exact W.zret (v := 1) hx hb hr rfl (fun t ht hW => ⟨⟨1, ([(ob, .inr (10, [ob_0, .ref wo, .ref mi, .ref hm, .ref mt, .int 0, .ref fv, .int 0, .int 0, .int 0, .int 0, .int 0, .int 0, .int (-1), .ref fr, ob_15, ob_16, ob_17, ob_18, ob_19, ob_20, ob_21, ob_22, ob_23, ob_24, ob_25, ob_26, ob_27, ob_28, ob_29, ob_30, ob_31, ob_32, ob_33, ob_34, .ref cd, ob_36, .ref my, .ref wi, .ref nb, .ref mv]))] : va_W), rfl, ⟨rfl, rfl⟩, by rw [ht]; exact hP, hD⟩, hS.F ht⟩) hS.2.2 dX10_good_12

set_option maxHeartbeats 4000000 in
set_option maxRecDepth 100000 in
theorem kX10_advance (l : Launch) (G : va_G) (y : Nat → ClassId) (sz : Nat) (ob : Nat) (ob_0 : Value) (wo : Nat) (mi : Nat) (hm : Nat) (mt : Nat) (fv : Nat) (fr : Nat) (ob_15 : Value) (ob_16 : Value) (ob_17 : Value) (ob_18 : Value) (ob_19 : Value) (ob_20 : Value) (ob_21 : Value) (ob_22 : Value) (ob_23 : Value) (ob_24 : Value) (ob_25 : Value) (ob_26 : Value) (ob_27 : Value) (ob_28 : Value) (ob_29 : Value) (ob_30 : Value) (ob_31 : Value) (ob_32 : Value) (ob_33 : Value) (ob_34 : Value) (cd : Nat) (ob_36 : Value) (my : Nat) (wi : Nat) (nb : Nat) (mv : Nat)  : Met l yX10_advance (Cond.code yX10_advance cX10_advance 2 none :: wAll) ({ frames := 1, cells := 0, slots := 0, locals := 21 }) (va_Pc [.ref ob] (kp G y sz [(ob, .inr (10, [ob_0, .ref wo, .ref mi, .ref hm, .ref mt, .int 0, .ref fv, .int 0, .int 0, .int 0, .int 0, .int 0, .int 0, .int (-1), .ref fr, ob_15, ob_16, ob_17, ob_18, ob_19, ob_20, ob_21, ob_22, ob_23, ob_24, ob_25, ob_26, ob_27, ob_28, ob_29, ob_30, ob_31, ob_32, ob_33, ob_34, .ref cd, ob_36, .ref my, .ref wi, .ref nb, .ref mv]))])) (va_Qv (fun (w : va_W) => (w = [(ob, .inr (10, [ob_0, .ref wo, .ref mi, .ref hm, .ref mt, .int 0, .ref fv, .int 0, .int 0, .int 0, .int 0, .int 0, .int 0, .int (-1), .ref fr, ob_15, ob_16, ob_17, ob_18, ob_19, ob_20, ob_21, ob_22, ob_23, ob_24, ob_25, ob_26, ob_27, ob_28, ob_29, ob_30, ob_31, ob_32, ob_33, ob_34, .ref cd, ob_36, .ref my, .ref wi, .ref nb, .ref mv]))])) (kq G (va_A [(ob, .inr (10, [ob_0, .ref wo, .ref mi, .ref hm, .ref mt, .int 0, .ref fv, .int 0, .int 0, .int 0, .int 0, .int 0, .int 0, .int (-1), .ref fr, ob_15, ob_16, ob_17, ob_18, ob_19, ob_20, ob_21, ob_22, ob_23, ob_24, ob_25, ob_26, ob_27, ob_28, ob_29, ob_30, ob_31, ob_32, ob_33, ob_34, .ref cd, ob_36, .ref my, .ref wi, .ref nb, .ref mv]))] sz)) (va_A [(ob, .inr (10, [ob_0, .ref wo, .ref mi, .ref hm, .ref mt, .int 0, .ref fv, .int 0, .int 0, .int 0, .int 0, .int 0, .int 0, .int (-1), .ref fr, ob_15, ob_16, ob_17, ob_18, ob_19, ob_20, ob_21, ob_22, ob_23, ob_24, ob_25, ob_26, ob_27, ob_28, ob_29, ob_30, ob_31, ob_32, ob_33, ob_34, .ref cd, ob_36, .ref my, .ref wi, .ref nb, .ref mv]))] sz)) 0 0 (va_A [(ob, .inr (10, [ob_0, .ref wo, .ref mi, .ref hm, .ref mt, .int 0, .ref fv, .int 0, .int 0, .int 0, .int 0, .int 0, .int 0, .int (-1), .ref fr, ob_15, ob_16, ob_17, ob_18, ob_19, ob_20, ob_21, ob_22, ob_23, ob_24, ob_25, ob_26, ob_27, ob_28, ob_29, ob_30, ob_31, ob_32, ob_33, ob_34, .ref cd, ob_36, .ref my, .ref wi, .ref nb, .ref mv]))] sz) := by
  refine Met.ofW (cc := cX10_advance) (maxL := 2) (ret := none) (by decide) rfl ?_
  intro p e s m args below meth c s₁ B hml hv
  obtain ⟨rfl, hsz, hP, hK, hD0⟩ := hv
  have hx := B.exec
  have hb := B.bytes
  have hr := B.returns
  have hw0 : ∀ w ∈ wAll, w.before _ s = true := fun w h => atoms_spec (ws := Cond.code yX10_advance cX10_advance 2 none :: wAll) B.pre w (List.mem_cons_of_mem _ h)
  have hown : s.vm.findClass RX10 = some m.cls := findClass_of_methodNamed B.named
  have hlocks := B.notSynchronized
  subst hsz
  have hD := hD0.self (sz := s.heap.size)
  generalize hAe : va_A [(ob, .inr (10, [ob_0, .ref wo, .ref mi, .ref hm, .ref mt, .int 0, .ref fv, .int 0, .int 0, .int 0, .int 0, .int 0, .int 0, .int (-1), .ref fr, ob_15, ob_16, ob_17, ob_18, ob_19, ob_20, ob_21, ob_22, ob_23, ob_24, ob_25, ob_26, ob_27, ob_28, ob_29, ob_30, ob_31, ob_32, ob_33, ob_34, .ref cd, ob_36, .ref my, .ref wi, .ref nb, .ref mv]))] s.heap.size = A at hD ⊢
  have hA : ∀ q : Nat, s.heap.size ≤ q → A q := fun q h => by rw [← hAe]; exact Or.inr h
  have hS : va_S A s.heap s.heap [] := va_S.rf
  have hP : va_P G vwCl [(ob, .inr (10, [ob_0, .ref wo, .ref mi, .ref hm, .ref mt, .int 0, .ref fv, .int 0, .int 0, .int 0, .int 0, .int 0, .int 0, .int (-1), .ref fr, ob_15, ob_16, ob_17, ob_18, ob_19, ob_20, ob_21, ob_22, ob_23, ob_24, ob_25, ob_26, ob_27, ob_28, ob_29, ob_30, ob_31, ob_32, ob_33, ob_34, .ref cd, ob_36, .ref my, .ref wi, .ref nb, .ref mv]))] s.heap := hP
  have hl := lv_entry ([.ref ob]) (n := 2) (Nat.le_of_ble_eq_true rfl)
  rw [lg_entry_eq]
  generalize (lg_sl ([.ref ob]) ++ List.replicate (2 - (lg_sl ([.ref ob])).length) Slot.unset).toArray = ls at hl ⊢
  have hl : lv_has ls 2 [(0, .ref ob)] := hl
  refine lv_aload_n hx hb dX10_advance_0 rfl (lv_at hl 0 rfl) ?_
  refine lv_aload_n hx hb dX10_advance_1 rfl (lv_at hl 0 rfl) ?_
  refine va_get (D := G) (ci := 10) (v := .int 0) (C := RX10) (T := TX10) (N := 41) hx hb hw0 inA_wsX100 hown hK.1 hP 0 rfl rfl 8 (by decide) (hw0 _ m_421) (fun _ h9 => h9) rfl dX10_advance_2 ?_
  refine cVi (As := [.int 0]) (rest := []) ⟨hx, hb, hml, hown, hw0⟩ hA hK hP hD hS [0] [] [(ob, .inr (10, [ob_0, .ref wo, .ref mi, .ref hm, .ref mt, .int 0, .ref fv, .int 0, .int 0, .int 0, .int 0, .int 0, .int 0, .int (-1), .ref fr, ob_15, ob_16, ob_17, ob_18, ob_19, ob_20, ob_21, ob_22, ob_23, ob_24, ob_25, ob_26, ob_27, ob_28, ob_29, ob_30, ob_31, ob_32, ob_33, ob_34, .ref cd, ob_36, .ref my, .ref wi, .ref nb, .ref mv]))] [] rfl rfl (by decide) (by decide) (by decide) (kX10_see l G y _ ob (ob_0) wo mi hm mt fv fr (ob_15) (ob_16) (ob_17) (ob_18) (ob_19) (ob_20) (ob_21) (ob_22) (ob_23) (ob_24) (ob_25) (ob_26) (ob_27) (ob_28) (ob_29) (ob_30) (ob_31) (ob_32) (ob_33) (ob_34) cd (ob_36) my wi nb mv ) ⟨(callB_of 1 hw0 (gA m_419) rfl rfl rfl (hw0 _ m_166) (hw0 _ m_422) (by decide +kernel) ⟨Nat.le_of_ble_eq_true rfl, Nat.le_of_ble_eq_true rfl⟩), (hw0 _ m_423), (hw0 _ m_424)⟩ (ci := 10) (q := (RX10, TX10, 41)) rfl rfl rfl hl.1 (Nat.le_of_ble_eq_true rfl) dX10_advance_5 ⟨Nat.le_of_ble_eq_true rfl, Nat.le_of_ble_eq_true rfl⟩ (fun r_1 w_1 H locs hw_1 hP hD hS => ?_)
  obtain ⟨rfl, rfl⟩ := hw_1
  have hP : va_P G vwCl [(ob, .inr (10, [ob_0, .ref wo, .ref mi, .ref hm, .ref mt, .int 0, .ref fv, .int 0, .int 0, .int 0, .int 0, .int 0, .int 0, .int (-1), .ref fr, ob_15, ob_16, ob_17, ob_18, ob_19, ob_20, ob_21, ob_22, ob_23, ob_24, ob_25, ob_26, ob_27, ob_28, ob_29, ob_30, ob_31, ob_32, ob_33, ob_34, .ref cd, ob_36, .ref my, .ref wi, .ref nb, .ref mv]))] H := hP
  have hD : va_D A [(ob, .inr (10, [ob_0, .ref wo, .ref mi, .ref hm, .ref mt, .int 0, .ref fv, .int 0, .int 0, .int 0, .int 0, .int 0, .int 0, .int (-1), .ref fr, ob_15, ob_16, ob_17, ob_18, ob_19, ob_20, ob_21, ob_22, ob_23, ob_24, ob_25, ob_26, ob_27, ob_28, ob_29, ob_30, ob_31, ob_32, ob_33, ob_34, .ref cd, ob_36, .ref my, .ref wi, .ref nb, .ref mv]))] := hD
  refine lv_bipush (v := 32) hx hb dX10_advance_8 (by decide) ?_
  refine lv_icmp_eq (tgt := 26) hx hb dX10_advance_10 (by decide) (fun c9 => absurd c9 (by decide)) (fun _ => ?_)
  refine lv_aload_n hx hb dX10_advance_13 rfl (lv_at hl 0 rfl) ?_
  refine lv_aload_n hx hb dX10_advance_14 rfl (lv_at hl 0 rfl) ?_
  refine va_get (D := G) (ci := 10) (v := .int 0) (C := RX10) (T := TX10) (N := 41) hx hb hw0 inA_wsX100 hown hK.1 hP 0 rfl rfl 8 (by decide) (hw0 _ m_421) (fun _ h9 => h9) rfl dX10_advance_15 ?_
  refine cVi (As := [.int 0]) (rest := []) ⟨hx, hb, hml, hown, hw0⟩ hA hK hP hD hS [0] [] [(ob, .inr (10, [ob_0, .ref wo, .ref mi, .ref hm, .ref mt, .int 0, .ref fv, .int 0, .int 0, .int 0, .int 0, .int 0, .int 0, .int (-1), .ref fr, ob_15, ob_16, ob_17, ob_18, ob_19, ob_20, ob_21, ob_22, ob_23, ob_24, ob_25, ob_26, ob_27, ob_28, ob_29, ob_30, ob_31, ob_32, ob_33, ob_34, .ref cd, ob_36, .ref my, .ref wi, .ref nb, .ref mv]))] [] rfl rfl (by decide) (by decide) (by decide) (kX10_see l G y _ ob (ob_0) wo mi hm mt fv fr (ob_15) (ob_16) (ob_17) (ob_18) (ob_19) (ob_20) (ob_21) (ob_22) (ob_23) (ob_24) (ob_25) (ob_26) (ob_27) (ob_28) (ob_29) (ob_30) (ob_31) (ob_32) (ob_33) (ob_34) cd (ob_36) my wi nb mv ) ⟨(callB_of 1 hw0 (gA m_419) rfl rfl rfl (hw0 _ m_166) (hw0 _ m_422) (by decide +kernel) ⟨Nat.le_of_ble_eq_true rfl, Nat.le_of_ble_eq_true rfl⟩), (hw0 _ m_423), (hw0 _ m_424)⟩ (ci := 10) (q := (RX10, TX10, 41)) rfl rfl rfl hl.1 (Nat.le_of_ble_eq_true rfl) dX10_advance_18 ⟨Nat.le_of_ble_eq_true rfl, Nat.le_of_ble_eq_true rfl⟩ (fun r_2 w_2 H locs hw_2 hP hD hS => ?_)
  obtain ⟨rfl, rfl⟩ := hw_2
  have hP : va_P G vwCl [(ob, .inr (10, [ob_0, .ref wo, .ref mi, .ref hm, .ref mt, .int 0, .ref fv, .int 0, .int 0, .int 0, .int 0, .int 0, .int 0, .int (-1), .ref fr, ob_15, ob_16, ob_17, ob_18, ob_19, ob_20, ob_21, ob_22, ob_23, ob_24, ob_25, ob_26, ob_27, ob_28, ob_29, ob_30, ob_31, ob_32, ob_33, ob_34, .ref cd, ob_36, .ref my, .ref wi, .ref nb, .ref mv]))] H := hP
  have hD : va_D A [(ob, .inr (10, [ob_0, .ref wo, .ref mi, .ref hm, .ref mt, .int 0, .ref fv, .int 0, .int 0, .int 0, .int 0, .int 0, .int 0, .int (-1), .ref fr, ob_15, ob_16, ob_17, ob_18, ob_19, ob_20, ob_21, ob_22, ob_23, ob_24, ob_25, ob_26, ob_27, ob_28, ob_29, ob_30, ob_31, ob_32, ob_33, ob_34, .ref cd, ob_36, .ref my, .ref wi, .ref nb, .ref mv]))] := hD
  refine lv_bipush (v := 10) hx hb dX10_advance_21 (by decide) ?_
  refine lv_icmp_ne (tgt := 39) hx hb dX10_advance_23 (by decide) (fun _ => ?_) (fun c9 => absurd c9 (by decide))
  refine lv_aload_n hx hb dX10_advance_39 rfl (lv_at hl 0 rfl) ?_
  refine lv_aload_n hx hb dX10_advance_40 rfl (lv_at hl 0 rfl) ?_
  refine va_get (D := G) (ci := 10) (v := .int 0) (C := RX10) (T := TX10) (N := 41) hx hb hw0 inA_wsX100 hown hK.1 hP 0 rfl rfl 8 (by decide) (hw0 _ m_421) (fun _ h9 => h9) rfl dX10_advance_41 ?_
  refine va_put (D := G) (ci := 10) (v := .int 0) (ty := .int) (C := RX10) (T := TX10) (N := 41) hx hb hw0 inA_wsX100 tyX10 tyX10_ok nmX10 hown hK.1 hP hD hS 0 rfl rfl 9 (by decide) (hw0 _ m_425) (fun _ h9 => h9) rfl (by decide +kernel) rfl rfl (Nat.le_of_ble_eq_true rfl) dX10_advance_44 (fun H locs hP hD hS => ?_)
  have hP : va_P G vwCl [(ob, .inr (10, [ob_0, .ref wo, .ref mi, .ref hm, .ref mt, .int 0, .ref fv, .int 0, .int 0, .int 0, .int 0, .int 0, .int 0, .int (-1), .ref fr, ob_15, ob_16, ob_17, ob_18, ob_19, ob_20, ob_21, ob_22, ob_23, ob_24, ob_25, ob_26, ob_27, ob_28, ob_29, ob_30, ob_31, ob_32, ob_33, ob_34, .ref cd, ob_36, .ref my, .ref wi, .ref nb, .ref mv]))] H := hP
  have hD : va_D A [(ob, .inr (10, [ob_0, .ref wo, .ref mi, .ref hm, .ref mt, .int 0, .ref fv, .int 0, .int 0, .int 0, .int 0, .int 0, .int 0, .int (-1), .ref fr, ob_15, ob_16, ob_17, ob_18, ob_19, ob_20, ob_21, ob_22, ob_23, ob_24, ob_25, ob_26, ob_27, ob_28, ob_29, ob_30, ob_31, ob_32, ob_33, ob_34, .ref cd, ob_36, .ref my, .ref wi, .ref nb, .ref mv]))] := hD
  refine lv_aload_n hx hb dX10_advance_47 rfl (lv_at hl 0 rfl) ?_
  refine lv_aload_n hx hb dX10_advance_48 rfl (lv_at hl 0 rfl) ?_
  refine va_get (D := G) (ci := 10) (v := .int 0) (C := RX10) (T := TX10) (N := 41) hx hb hw0 inA_wsX100 hown hK.1 hP 0 rfl rfl 8 (by decide) (hw0 _ m_421) (fun _ h9 => h9) rfl dX10_advance_49 ?_
  refine cVi (As := [.int 0]) (rest := []) ⟨hx, hb, hml, hown, hw0⟩ hA hK hP hD hS [0] [] [(ob, .inr (10, [ob_0, .ref wo, .ref mi, .ref hm, .ref mt, .int 0, .ref fv, .int 0, .int 0, .int 0, .int 0, .int 0, .int 0, .int (-1), .ref fr, ob_15, ob_16, ob_17, ob_18, ob_19, ob_20, ob_21, ob_22, ob_23, ob_24, ob_25, ob_26, ob_27, ob_28, ob_29, ob_30, ob_31, ob_32, ob_33, ob_34, .ref cd, ob_36, .ref my, .ref wi, .ref nb, .ref mv]))] [] rfl rfl (by decide) (by decide) (by decide) (kX10_see l G y _ ob (ob_0) wo mi hm mt fv fr (ob_15) (ob_16) (ob_17) (ob_18) (ob_19) (ob_20) (ob_21) (ob_22) (ob_23) (ob_24) (ob_25) (ob_26) (ob_27) (ob_28) (ob_29) (ob_30) (ob_31) (ob_32) (ob_33) (ob_34) cd (ob_36) my wi nb mv ) ⟨(callB_of 1 hw0 (gA m_419) rfl rfl rfl (hw0 _ m_166) (hw0 _ m_422) (by decide +kernel) ⟨Nat.le_of_ble_eq_true rfl, Nat.le_of_ble_eq_true rfl⟩), (hw0 _ m_423), (hw0 _ m_424)⟩ (ci := 10) (q := (RX10, TX10, 41)) rfl rfl rfl hl.1 (Nat.le_of_ble_eq_true rfl) dX10_advance_52 ⟨Nat.le_of_ble_eq_true rfl, Nat.le_of_ble_eq_true rfl⟩ (fun r_3 w_3 H locs hw_3 hP hD hS => ?_)
  obtain ⟨rfl, rfl⟩ := hw_3
  have hP : va_P G vwCl [(ob, .inr (10, [ob_0, .ref wo, .ref mi, .ref hm, .ref mt, .int 0, .ref fv, .int 0, .int 0, .int 0, .int 0, .int 0, .int 0, .int (-1), .ref fr, ob_15, ob_16, ob_17, ob_18, ob_19, ob_20, ob_21, ob_22, ob_23, ob_24, ob_25, ob_26, ob_27, ob_28, ob_29, ob_30, ob_31, ob_32, ob_33, ob_34, .ref cd, ob_36, .ref my, .ref wi, .ref nb, .ref mv]))] H := hP
  have hD : va_D A [(ob, .inr (10, [ob_0, .ref wo, .ref mi, .ref hm, .ref mt, .int 0, .ref fv, .int 0, .int 0, .int 0, .int 0, .int 0, .int 0, .int (-1), .ref fr, ob_15, ob_16, ob_17, ob_18, ob_19, ob_20, ob_21, ob_22, ob_23, ob_24, ob_25, ob_26, ob_27, ob_28, ob_29, ob_30, ob_31, ob_32, ob_33, ob_34, .ref cd, ob_36, .ref my, .ref wi, .ref nb, .ref mv]))] := hD
  refine lv_istore_n (lv' := [(1, .int (-1)), (0, .ref ob)]) hx hb dX10_advance_55 rfl hl (by decide) rfl (fun ls hl => ?_)
  refine lv_iload_n hx hb dX10_advance_56 rfl (lv_at hl 0 rfl) ?_
  refine lv_iconst (v := (-1)) hx hb dX10_advance_57 (by decide) ?_
  refine lv_icmp_ne (tgt := 69) hx hb dX10_advance_58 (by decide) (fun c9 => absurd (by decide) c9) (fun _ => ?_)
  refine lv_aload_n hx hb dX10_advance_61 rfl (lv_at hl 1 rfl) ?_
  refine lv_iconst (v := 0) hx hb dX10_advance_62 (by decide) ?_
  refine va_put (D := G) (ci := 10) (v := .int 0) (ty := .int) (C := RX10) (T := TX10) (N := 41) hx hb hw0 inA_wsX100 tyX10 tyX10_ok nmX10 hown hK.1 hP hD hS 0 rfl rfl 10 (by decide) (hw0 _ m_426) (fun _ h9 => h9) rfl (by decide +kernel) rfl rfl (Nat.le_of_ble_eq_true rfl) dX10_advance_63 (fun H locs hP hD hS => ?_)
  have hP : va_P G vwCl [(ob, .inr (10, [ob_0, .ref wo, .ref mi, .ref hm, .ref mt, .int 0, .ref fv, .int 0, .int 0, .int 0, .int 0, .int 0, .int 0, .int (-1), .ref fr, ob_15, ob_16, ob_17, ob_18, ob_19, ob_20, ob_21, ob_22, ob_23, ob_24, ob_25, ob_26, ob_27, ob_28, ob_29, ob_30, ob_31, ob_32, ob_33, ob_34, .ref cd, ob_36, .ref my, .ref wi, .ref nb, .ref mv]))] H := hP
  have hD : va_D A [(ob, .inr (10, [ob_0, .ref wo, .ref mi, .ref hm, .ref mt, .int 0, .ref fv, .int 0, .int 0, .int 0, .int 0, .int 0, .int 0, .int (-1), .ref fr, ob_15, ob_16, ob_17, ob_18, ob_19, ob_20, ob_21, ob_22, ob_23, ob_24, ob_25, ob_26, ob_27, ob_28, ob_29, ob_30, ob_31, ob_32, ob_33, ob_34, .ref cd, ob_36, .ref my, .ref wi, .ref nb, .ref mv]))] := hD
  refine lv_goto (tgt := 240) hx hb dX10_advance_66 (by decide) ?_
  refine W.widen (k := 0) (n := 0) (Nat.le_of_ble_eq_true rfl) (Nat.le_of_ble_eq_true rfl) ?_
  exact W.vret hx hb hr (fun t ht hW => ⟨⟨([(ob, .inr (10, [ob_0, .ref wo, .ref mi, .ref hm, .ref mt, .int 0, .ref fv, .int 0, .int 0, .int 0, .int 0, .int 0, .int 0, .int (-1), .ref fr, ob_15, ob_16, ob_17, ob_18, ob_19, ob_20, ob_21, ob_22, ob_23, ob_24, ob_25, ob_26, ob_27, ob_28, ob_29, ob_30, ob_31, ob_32, ob_33, ob_34, .ref cd, ob_36, .ref my, .ref wi, .ref nb, .ref mv]))] : va_W), rfl, rfl, by rw [ht]; exact hP, hD⟩, hS.F ht⟩) hS.2.2 dX10_advance_240

set_option maxHeartbeats 4000000 in
set_option maxRecDepth 100000 in
theorem kX10_ofHouse (l : Launch) (G : va_G) (y : Nat → ClassId) (sz : Nat) (ob : Nat) (hh : Nat) (ob_0 : Value) (wo : Nat) (mi : Nat) (hm : Nat) (mt : Nat) (fv : Nat) (fr : Nat) (ob_15 : Value) (ob_16 : Value) (ob_17 : Value) (ob_18 : Value) (ob_19 : Value) (ob_20 : Value) (ob_21 : Value) (ob_22 : Value) (ob_23 : Value) (ob_24 : Value) (ob_25 : Value) (ob_26 : Value) (ob_27 : Value) (ob_28 : Value) (ob_29 : Value) (ob_30 : Value) (ob_31 : Value) (ob_32 : Value) (ob_33 : Value) (ob_34 : Value) (cd : Nat) (ob_36 : Value) (my : Nat) (wi : Nat) (nb : Nat) (mv : Nat) (fw : Nat → Int32) (hhh : hh < 16) : Met l yX10_ofHouse (Cond.code yX10_ofHouse cX10_ofHouse 3 (some .int) :: wAll) ({ frames := 0, cells := 0, slots := 0, locals := 0 }) (va_Pc [.ref ob, .int (nI (hh)), .int 8] (kp G y sz [(ob, .inr (10, [ob_0, .ref wo, .ref mi, .ref hm, .ref mt, .int 0, .ref fv, .int 0, .int 0, .int 0, .int 0, .int 0, .int 0, .int (-1), .ref fr, ob_15, ob_16, ob_17, ob_18, ob_19, ob_20, ob_21, ob_22, ob_23, ob_24, ob_25, ob_26, ob_27, ob_28, ob_29, ob_30, ob_31, ob_32, ob_33, ob_34, .ref cd, ob_36, .ref my, .ref wi, .ref nb, .ref mv])), (wo, .inl (y 1, 9080, .inl fw))])) (va_Qi (fun (r : Int32) (w : va_W) => (∃ (v_1 : Int32), r = v_1 ∧ w = [(ob, .inr (10, [ob_0, .ref wo, .ref mi, .ref hm, .ref mt, .int 0, .ref fv, .int 0, .int 0, .int 0, .int 0, .int 0, .int 0, .int (-1), .ref fr, ob_15, ob_16, ob_17, ob_18, ob_19, ob_20, ob_21, ob_22, ob_23, ob_24, ob_25, ob_26, ob_27, ob_28, ob_29, ob_30, ob_31, ob_32, ob_33, ob_34, .ref cd, ob_36, .ref my, .ref wi, .ref nb, .ref mv])), (wo, .inl (y 1, 9080, .inl fw))])) (kq G (va_A [(ob, .inr (10, [ob_0, .ref wo, .ref mi, .ref hm, .ref mt, .int 0, .ref fv, .int 0, .int 0, .int 0, .int 0, .int 0, .int 0, .int (-1), .ref fr, ob_15, ob_16, ob_17, ob_18, ob_19, ob_20, ob_21, ob_22, ob_23, ob_24, ob_25, ob_26, ob_27, ob_28, ob_29, ob_30, ob_31, ob_32, ob_33, ob_34, .ref cd, ob_36, .ref my, .ref wi, .ref nb, .ref mv])), (wo, .inl (y 1, 9080, .inl fw))] sz)) (va_A [(ob, .inr (10, [ob_0, .ref wo, .ref mi, .ref hm, .ref mt, .int 0, .ref fv, .int 0, .int 0, .int 0, .int 0, .int 0, .int 0, .int (-1), .ref fr, ob_15, ob_16, ob_17, ob_18, ob_19, ob_20, ob_21, ob_22, ob_23, ob_24, ob_25, ob_26, ob_27, ob_28, ob_29, ob_30, ob_31, ob_32, ob_33, ob_34, .ref cd, ob_36, .ref my, .ref wi, .ref nb, .ref mv])), (wo, .inl (y 1, 9080, .inl fw))] sz)) 0 0 (va_A [(ob, .inr (10, [ob_0, .ref wo, .ref mi, .ref hm, .ref mt, .int 0, .ref fv, .int 0, .int 0, .int 0, .int 0, .int 0, .int 0, .int (-1), .ref fr, ob_15, ob_16, ob_17, ob_18, ob_19, ob_20, ob_21, ob_22, ob_23, ob_24, ob_25, ob_26, ob_27, ob_28, ob_29, ob_30, ob_31, ob_32, ob_33, ob_34, .ref cd, ob_36, .ref my, .ref wi, .ref nb, .ref mv])), (wo, .inl (y 1, 9080, .inl fw))] sz) := by
  refine Met.ofW (cc := cX10_ofHouse) (maxL := 3) (ret := (some .int)) (by decide) rfl ?_
  intro p e s m args below meth c s₁ B hml hv
  obtain ⟨rfl, hsz, hP, hK, hD0⟩ := hv
  have hx := B.exec
  have hb := B.bytes
  have hr := B.returns
  have hw0 : ∀ w ∈ wAll, w.before _ s = true := fun w h => atoms_spec (ws := Cond.code yX10_ofHouse cX10_ofHouse 3 (some .int) :: wAll) B.pre w (List.mem_cons_of_mem _ h)
  have hown : s.vm.findClass RX10 = some m.cls := findClass_of_methodNamed B.named
  have hlocks := B.notSynchronized
  subst hsz
  have hD := hD0.self (sz := s.heap.size)
  generalize hAe : va_A [(ob, .inr (10, [ob_0, .ref wo, .ref mi, .ref hm, .ref mt, .int 0, .ref fv, .int 0, .int 0, .int 0, .int 0, .int 0, .int 0, .int (-1), .ref fr, ob_15, ob_16, ob_17, ob_18, ob_19, ob_20, ob_21, ob_22, ob_23, ob_24, ob_25, ob_26, ob_27, ob_28, ob_29, ob_30, ob_31, ob_32, ob_33, ob_34, .ref cd, ob_36, .ref my, .ref wi, .ref nb, .ref mv])), (wo, .inl (y 1, 9080, .inl fw))] s.heap.size = A at hD ⊢
  have hA : ∀ q : Nat, s.heap.size ≤ q → A q := fun q h => by rw [← hAe]; exact Or.inr h
  have hS : va_S A s.heap s.heap [] := va_S.rf
  have hP : va_P G vwCl [(ob, .inr (10, [ob_0, .ref wo, .ref mi, .ref hm, .ref mt, .int 0, .ref fv, .int 0, .int 0, .int 0, .int 0, .int 0, .int 0, .int (-1), .ref fr, ob_15, ob_16, ob_17, ob_18, ob_19, ob_20, ob_21, ob_22, ob_23, ob_24, ob_25, ob_26, ob_27, ob_28, ob_29, ob_30, ob_31, ob_32, ob_33, ob_34, .ref cd, ob_36, .ref my, .ref wi, .ref nb, .ref mv])), (wo, .inl (y 1, 9080, .inl fw))] s.heap := hP
  have hl := lv_entry ([.ref ob, .int (nI (hh)), .int 8]) (n := 3) (Nat.le_of_ble_eq_true rfl)
  rw [lg_entry_eq]
  generalize (lg_sl ([.ref ob, .int (nI (hh)), .int 8]) ++ List.replicate (3 - (lg_sl ([.ref ob, .int (nI (hh)), .int 8])).length) Slot.unset).toArray = ls at hl ⊢
  have hl : lv_has ls 3 [(0, .ref ob), (1, .int (nI (hh))), (2, .int 8)] := hl
  refine lv_aload_n hx hb dX10_ofHouse_0 rfl (lv_at hl 0 rfl) ?_
  refine va_get (D := G) (ci := 10) (v := .ref wo) (C := RX10) (T := TX10) (N := 41) hx hb hw0 inA_wsX100 hown hK.1 hP 0 rfl rfl 1 (by decide) (hw0 _ m_132) (fun _ h9 => h9) rfl dX10_ofHouse_1 ?_
  refine lv_bipush (v := 10) hx hb dX10_ofHouse_4 (by decide) ?_
  refine lv_bipush (v := 9) hx hb dX10_ofHouse_6 (by decide) ?_
  refine lv_iload_n hx hb dX10_ofHouse_8 rfl (lv_at hl 1 rfl) ?_
  refine lv_imul hx hb dX10_ofHouse_9 ?_
  refine lv_topi (fun v_1 ev_1 => ?_)
  obtain rfl : (nI ((9) * (hh))) = v_1 := (ev_1.trans (pk_mul (9) (hh))).symm
  refine lv_iadd hx hb dX10_ofHouse_10 ?_
  refine lv_topi (fun v_2 ev_2 => ?_)
  obtain rfl : (nI (10 + ((9) * (hh)))) = v_2 := (ev_2.trans (nI_add (10) ((9) * (hh)))).symm
  refine lv_iload_n hx hb dX10_ofHouse_11 rfl (lv_at hl 2 rfl) ?_
  refine lv_iadd hx hb dX10_ofHouse_12 ?_
  refine lv_topi (fun v_3 ev_3 => ?_)
  obtain rfl : (nI (10 + ((9) * (hh)) + 8)) = v_3 := (ev_3.trans (nI_add (10 + ((9) * (hh))) (8))).symm
  refine va_iald hx hb hK.1 hP 1 1 rfl rfl (vp_in_nI (n := 10 + ((9) * (hh)) + 8) (N := 9080) (by omega) (by decide)) dX10_ofHouse_13 ?_
  refine lv_topi (fun v_4 ev_4 => ?_)
  refine W.widen (k := 0) (n := 0) (Nat.le_of_ble_eq_true rfl) (Nat.le_of_ble_eq_true rfl) ?_
  exact W.iret (v := v_4) hx hb hr (fun t ht hW => ⟨⟨v_4, ([(ob, .inr (10, [ob_0, .ref wo, .ref mi, .ref hm, .ref mt, .int 0, .ref fv, .int 0, .int 0, .int 0, .int 0, .int 0, .int 0, .int (-1), .ref fr, ob_15, ob_16, ob_17, ob_18, ob_19, ob_20, ob_21, ob_22, ob_23, ob_24, ob_25, ob_26, ob_27, ob_28, ob_29, ob_30, ob_31, ob_32, ob_33, ob_34, .ref cd, ob_36, .ref my, .ref wi, .ref nb, .ref mv])), (wo, .inl (y 1, 9080, .inl fw))] : va_W), rfl, ⟨_, rfl, rfl⟩, by rw [ht]; exact hP, hD⟩, hS.F ht⟩) hS.2.2 dX10_ofHouse_14

set_option maxHeartbeats 4000000 in
set_option maxRecDepth 100000 in
theorem kX10_town (l : Launch) (G : va_G) (y : Nat → ClassId) (sz : Nat) (ob : Nat) (ob_0 : Value) (wo : Nat) (mi : Nat) (hm : Nat) (mt : Nat) (fv : Nat) (fr : Nat) (ob_15 : Value) (ob_16 : Value) (ob_17 : Value) (ob_18 : Value) (ob_19 : Value) (ob_20 : Value) (ob_21 : Value) (ob_22 : Value) (ob_23 : Value) (ob_24 : Value) (ob_25 : Value) (ob_26 : Value) (ob_27 : Value) (ob_28 : Value) (ob_29 : Value) (ob_30 : Value) (ob_31 : Value) (ob_32 : Value) (ob_33 : Value) (ob_34 : Value) (cd : Nat) (ob_36 : Value) (my : Nat) (wi : Nat) (nb : Nat) (mv : Nat) (fw : Nat → Int32) (z0 : fw 0 = 0) : Met l yX10_town (Cond.code yX10_town cX10_town 2 (some .int) :: wAll) ({ frames := 2, cells := 0, slots := 0, locals := 42 }) (va_Pc [.ref ob] (kp G y sz [(ob, .inr (10, [ob_0, .ref wo, .ref mi, .ref hm, .ref mt, .int 0, .ref fv, .int 0, .int 0, .int 0, .int 0, .int 0, .int 0, .int (-1), .ref fr, ob_15, ob_16, ob_17, ob_18, ob_19, ob_20, ob_21, ob_22, ob_23, ob_24, ob_25, ob_26, ob_27, ob_28, ob_29, ob_30, ob_31, ob_32, ob_33, ob_34, .ref cd, ob_36, .ref my, .ref wi, .ref nb, .ref mv])), (fr, .inl (y 1, 9080, .inl (fun _ => 0))), (wo, .inl (y 1, 9080, .inl fw))])) (va_Qi (fun (r : Int32) (_ : va_W) => r = 0) (kq G (va_A [(ob, .inr (10, [ob_0, .ref wo, .ref mi, .ref hm, .ref mt, .int 0, .ref fv, .int 0, .int 0, .int 0, .int 0, .int 0, .int 0, .int (-1), .ref fr, ob_15, ob_16, ob_17, ob_18, ob_19, ob_20, ob_21, ob_22, ob_23, ob_24, ob_25, ob_26, ob_27, ob_28, ob_29, ob_30, ob_31, ob_32, ob_33, ob_34, .ref cd, ob_36, .ref my, .ref wi, .ref nb, .ref mv])), (fr, .inl (y 1, 9080, .inl (fun _ => 0))), (wo, .inl (y 1, 9080, .inl fw))] sz)) (va_A [(ob, .inr (10, [ob_0, .ref wo, .ref mi, .ref hm, .ref mt, .int 0, .ref fv, .int 0, .int 0, .int 0, .int 0, .int 0, .int 0, .int (-1), .ref fr, ob_15, ob_16, ob_17, ob_18, ob_19, ob_20, ob_21, ob_22, ob_23, ob_24, ob_25, ob_26, ob_27, ob_28, ob_29, ob_30, ob_31, ob_32, ob_33, ob_34, .ref cd, ob_36, .ref my, .ref wi, .ref nb, .ref mv])), (fr, .inl (y 1, 9080, .inl (fun _ => 0))), (wo, .inl (y 1, 9080, .inl fw))] sz)) 0 0 (va_A [(ob, .inr (10, [ob_0, .ref wo, .ref mi, .ref hm, .ref mt, .int 0, .ref fv, .int 0, .int 0, .int 0, .int 0, .int 0, .int 0, .int (-1), .ref fr, ob_15, ob_16, ob_17, ob_18, ob_19, ob_20, ob_21, ob_22, ob_23, ob_24, ob_25, ob_26, ob_27, ob_28, ob_29, ob_30, ob_31, ob_32, ob_33, ob_34, .ref cd, ob_36, .ref my, .ref wi, .ref nb, .ref mv])), (fr, .inl (y 1, 9080, .inl (fun _ => 0))), (wo, .inl (y 1, 9080, .inl fw))] sz) := by
  refine Met.ofW (cc := cX10_town) (maxL := 2) (ret := (some .int)) (by decide) rfl ?_
  intro p e s m args below meth c s₁ B hml hv
  obtain ⟨rfl, hsz, hP, hK, hD0⟩ := hv
  have hx := B.exec
  have hb := B.bytes
  have hr := B.returns
  have hw0 : ∀ w ∈ wAll, w.before _ s = true := fun w h => atoms_spec (ws := Cond.code yX10_town cX10_town 2 (some .int) :: wAll) B.pre w (List.mem_cons_of_mem _ h)
  have hown : s.vm.findClass RX10 = some m.cls := findClass_of_methodNamed B.named
  have hlocks := B.notSynchronized
  subst hsz
  have hD := hD0.self (sz := s.heap.size)
  generalize hAe : va_A [(ob, .inr (10, [ob_0, .ref wo, .ref mi, .ref hm, .ref mt, .int 0, .ref fv, .int 0, .int 0, .int 0, .int 0, .int 0, .int 0, .int (-1), .ref fr, ob_15, ob_16, ob_17, ob_18, ob_19, ob_20, ob_21, ob_22, ob_23, ob_24, ob_25, ob_26, ob_27, ob_28, ob_29, ob_30, ob_31, ob_32, ob_33, ob_34, .ref cd, ob_36, .ref my, .ref wi, .ref nb, .ref mv])), (fr, .inl (y 1, 9080, .inl (fun _ => 0))), (wo, .inl (y 1, 9080, .inl fw))] s.heap.size = A at hD ⊢
  have hA : ∀ q : Nat, s.heap.size ≤ q → A q := fun q h => by rw [← hAe]; exact Or.inr h
  have hS : va_S A s.heap s.heap [] := va_S.rf
  have hP : va_P G vwCl [(ob, .inr (10, [ob_0, .ref wo, .ref mi, .ref hm, .ref mt, .int 0, .ref fv, .int 0, .int 0, .int 0, .int 0, .int 0, .int 0, .int (-1), .ref fr, ob_15, ob_16, ob_17, ob_18, ob_19, ob_20, ob_21, ob_22, ob_23, ob_24, ob_25, ob_26, ob_27, ob_28, ob_29, ob_30, ob_31, ob_32, ob_33, ob_34, .ref cd, ob_36, .ref my, .ref wi, .ref nb, .ref mv])), (fr, .inl (y 1, 9080, .inl (fun _ => 0))), (wo, .inl (y 1, 9080, .inl fw))] s.heap := hP
  have hl := lv_entry ([.ref ob]) (n := 2) (Nat.le_of_ble_eq_true rfl)
  rw [lg_entry_eq]
  generalize (lg_sl ([.ref ob]) ++ List.replicate (2 - (lg_sl ([.ref ob])).length) Slot.unset).toArray = ls at hl ⊢
  have hl : lv_has ls 2 [(0, .ref ob)] := hl
  refine lv_aload_n hx hb dX10_town_0 rfl (lv_at hl 0 rfl) ?_
  refine lv_aload_n hx hb dX10_town_1 rfl (lv_at hl 0 rfl) ?_
  refine va_get (D := G) (ci := 10) (v := .int 0) (C := RX10) (T := TX10) (N := 41) hx hb hw0 inA_wsX100 hown hK.1 hP 0 rfl rfl 5 (by decide) (hw0 _ m_393) (fun _ h9 => h9) rfl dX10_town_2 ?_
  refine va_put (D := G) (ci := 10) (v := .int 0) (ty := .int) (C := RX10) (T := TX10) (N := 41) hx hb hw0 inA_wsX100 tyX10 tyX10_ok nmX10 hown hK.1 hP hD hS 0 rfl rfl 7 (by decide) (hw0 _ m_418) (fun _ h9 => h9) rfl (by decide +kernel) rfl rfl (Nat.le_of_ble_eq_true rfl) dX10_town_5 (fun H locs hP hD hS => ?_)
  have hP : va_P G vwCl [(ob, .inr (10, [ob_0, .ref wo, .ref mi, .ref hm, .ref mt, .int 0, .ref fv, .int 0, .int 0, .int 0, .int 0, .int 0, .int 0, .int (-1), .ref fr, ob_15, ob_16, ob_17, ob_18, ob_19, ob_20, ob_21, ob_22, ob_23, ob_24, ob_25, ob_26, ob_27, ob_28, ob_29, ob_30, ob_31, ob_32, ob_33, ob_34, .ref cd, ob_36, .ref my, .ref wi, .ref nb, .ref mv])), (fr, .inl (y 1, 9080, .inl (fun _ => 0))), (wo, .inl (y 1, 9080, .inl fw))] H := hP
  have hD : va_D A [(ob, .inr (10, [ob_0, .ref wo, .ref mi, .ref hm, .ref mt, .int 0, .ref fv, .int 0, .int 0, .int 0, .int 0, .int 0, .int 0, .int (-1), .ref fr, ob_15, ob_16, ob_17, ob_18, ob_19, ob_20, ob_21, ob_22, ob_23, ob_24, ob_25, ob_26, ob_27, ob_28, ob_29, ob_30, ob_31, ob_32, ob_33, ob_34, .ref cd, ob_36, .ref my, .ref wi, .ref nb, .ref mv])), (fr, .inl (y 1, 9080, .inl (fun _ => 0))), (wo, .inl (y 1, 9080, .inl fw))] := hD
  refine lv_aload_n hx hb dX10_town_8 rfl (lv_at hl 0 rfl) ?_
  refine lv_iconst (v := 0) hx hb dX10_town_9 (by decide) ?_
  refine va_put (D := G) (ci := 10) (v := .int 0) (ty := .int) (C := RX10) (T := TX10) (N := 41) hx hb hw0 inA_wsX100 tyX10 tyX10_ok nmX10 hown hK.1 hP hD hS 0 rfl rfl 5 (by decide) (hw0 _ m_393) (fun _ h9 => h9) rfl (by decide +kernel) rfl rfl (Nat.le_of_ble_eq_true rfl) dX10_town_10 (fun H locs hP hD hS => ?_)
  have hP : va_P G vwCl [(ob, .inr (10, [ob_0, .ref wo, .ref mi, .ref hm, .ref mt, .int 0, .ref fv, .int 0, .int 0, .int 0, .int 0, .int 0, .int 0, .int (-1), .ref fr, ob_15, ob_16, ob_17, ob_18, ob_19, ob_20, ob_21, ob_22, ob_23, ob_24, ob_25, ob_26, ob_27, ob_28, ob_29, ob_30, ob_31, ob_32, ob_33, ob_34, .ref cd, ob_36, .ref my, .ref wi, .ref nb, .ref mv])), (fr, .inl (y 1, 9080, .inl (fun _ => 0))), (wo, .inl (y 1, 9080, .inl fw))] H := hP
  have hD : va_D A [(ob, .inr (10, [ob_0, .ref wo, .ref mi, .ref hm, .ref mt, .int 0, .ref fv, .int 0, .int 0, .int 0, .int 0, .int 0, .int 0, .int (-1), .ref fr, ob_15, ob_16, ob_17, ob_18, ob_19, ob_20, ob_21, ob_22, ob_23, ob_24, ob_25, ob_26, ob_27, ob_28, ob_29, ob_30, ob_31, ob_32, ob_33, ob_34, .ref cd, ob_36, .ref my, .ref wi, .ref nb, .ref mv])), (fr, .inl (y 1, 9080, .inl (fun _ => 0))), (wo, .inl (y 1, 9080, .inl fw))] := hD
  refine lv_aload_n hx hb dX10_town_13 rfl (lv_at hl 0 rfl) ?_
  refine lv_iconst (v := 0) hx hb dX10_town_14 (by decide) ?_
  refine va_put (D := G) (ci := 10) (v := .int 0) (ty := .int) (C := RX10) (T := TX10) (N := 41) hx hb hw0 inA_wsX100 tyX10 tyX10_ok nmX10 hown hK.1 hP hD hS 0 rfl rfl 8 (by decide) (hw0 _ m_421) (fun _ h9 => h9) rfl (by decide +kernel) rfl rfl (Nat.le_of_ble_eq_true rfl) dX10_town_15 (fun H locs hP hD hS => ?_)
  have hP : va_P G vwCl [(ob, .inr (10, [ob_0, .ref wo, .ref mi, .ref hm, .ref mt, .int 0, .ref fv, .int 0, .int 0, .int 0, .int 0, .int 0, .int 0, .int (-1), .ref fr, ob_15, ob_16, ob_17, ob_18, ob_19, ob_20, ob_21, ob_22, ob_23, ob_24, ob_25, ob_26, ob_27, ob_28, ob_29, ob_30, ob_31, ob_32, ob_33, ob_34, .ref cd, ob_36, .ref my, .ref wi, .ref nb, .ref mv])), (fr, .inl (y 1, 9080, .inl (fun _ => 0))), (wo, .inl (y 1, 9080, .inl fw))] H := hP
  have hD : va_D A [(ob, .inr (10, [ob_0, .ref wo, .ref mi, .ref hm, .ref mt, .int 0, .ref fv, .int 0, .int 0, .int 0, .int 0, .int 0, .int 0, .int (-1), .ref fr, ob_15, ob_16, ob_17, ob_18, ob_19, ob_20, ob_21, ob_22, ob_23, ob_24, ob_25, ob_26, ob_27, ob_28, ob_29, ob_30, ob_31, ob_32, ob_33, ob_34, .ref cd, ob_36, .ref my, .ref wi, .ref nb, .ref mv])), (fr, .inl (y 1, 9080, .inl (fun _ => 0))), (wo, .inl (y 1, 9080, .inl fw))] := hD
  refine lv_aload_n hx hb dX10_town_18 rfl (lv_at hl 0 rfl) ?_
  refine lv_iconst (v := 0) hx hb dX10_town_19 (by decide) ?_
  refine va_put (D := G) (ci := 10) (v := .int 0) (ty := .int) (C := RX10) (T := TX10) (N := 41) hx hb hw0 inA_wsX100 tyX10 tyX10_ok nmX10 hown hK.1 hP hD hS 0 rfl rfl 12 (by decide) (hw0 _ m_395) (fun _ h9 => h9) rfl (by decide +kernel) rfl rfl (Nat.le_of_ble_eq_true rfl) dX10_town_20 (fun H locs hP hD hS => ?_)
  have hP : va_P G vwCl [(ob, .inr (10, [ob_0, .ref wo, .ref mi, .ref hm, .ref mt, .int 0, .ref fv, .int 0, .int 0, .int 0, .int 0, .int 0, .int 0, .int (-1), .ref fr, ob_15, ob_16, ob_17, ob_18, ob_19, ob_20, ob_21, ob_22, ob_23, ob_24, ob_25, ob_26, ob_27, ob_28, ob_29, ob_30, ob_31, ob_32, ob_33, ob_34, .ref cd, ob_36, .ref my, .ref wi, .ref nb, .ref mv])), (fr, .inl (y 1, 9080, .inl (fun _ => 0))), (wo, .inl (y 1, 9080, .inl fw))] H := hP
  have hD : va_D A [(ob, .inr (10, [ob_0, .ref wo, .ref mi, .ref hm, .ref mt, .int 0, .ref fv, .int 0, .int 0, .int 0, .int 0, .int 0, .int 0, .int (-1), .ref fr, ob_15, ob_16, ob_17, ob_18, ob_19, ob_20, ob_21, ob_22, ob_23, ob_24, ob_25, ob_26, ob_27, ob_28, ob_29, ob_30, ob_31, ob_32, ob_33, ob_34, .ref cd, ob_36, .ref my, .ref wi, .ref nb, .ref mv])), (fr, .inl (y 1, 9080, .inl (fun _ => 0))), (wo, .inl (y 1, 9080, .inl fw))] := hD
  refine lv_aload_n hx hb dX10_town_23 rfl (lv_at hl 0 rfl) ?_
  refine lv_iconst (v := (-1)) hx hb dX10_town_24 (by decide) ?_
  refine va_put (D := G) (ci := 10) (v := .int (-1)) (ty := .int) (C := RX10) (T := TX10) (N := 41) hx hb hw0 inA_wsX100 tyX10 tyX10_ok nmX10 hown hK.1 hP hD hS 0 rfl rfl 13 (by decide) (hw0 _ m_138) (fun _ h9 => h9) rfl (by decide +kernel) rfl rfl (Nat.le_of_ble_eq_true rfl) dX10_town_25 (fun H locs hP hD hS => ?_)
  have hP : va_P G vwCl [(ob, .inr (10, [ob_0, .ref wo, .ref mi, .ref hm, .ref mt, .int 0, .ref fv, .int 0, .int 0, .int 0, .int 0, .int 0, .int 0, .int (-1), .ref fr, ob_15, ob_16, ob_17, ob_18, ob_19, ob_20, ob_21, ob_22, ob_23, ob_24, ob_25, ob_26, ob_27, ob_28, ob_29, ob_30, ob_31, ob_32, ob_33, ob_34, .ref cd, ob_36, .ref my, .ref wi, .ref nb, .ref mv])), (fr, .inl (y 1, 9080, .inl (fun _ => 0))), (wo, .inl (y 1, 9080, .inl fw))] H := hP
  have hD : va_D A [(ob, .inr (10, [ob_0, .ref wo, .ref mi, .ref hm, .ref mt, .int 0, .ref fv, .int 0, .int 0, .int 0, .int 0, .int 0, .int 0, .int (-1), .ref fr, ob_15, ob_16, ob_17, ob_18, ob_19, ob_20, ob_21, ob_22, ob_23, ob_24, ob_25, ob_26, ob_27, ob_28, ob_29, ob_30, ob_31, ob_32, ob_33, ob_34, .ref cd, ob_36, .ref my, .ref wi, .ref nb, .ref mv])), (fr, .inl (y 1, 9080, .inl (fun _ => 0))), (wo, .inl (y 1, 9080, .inl fw))] := hD
  refine lv_iconst (v := 0) hx hb dX10_town_28 (by decide) ?_
  refine lv_istore_n (lv' := [(1, .int 0), (0, .ref ob)]) hx hb dX10_town_29 rfl hl (by decide) rfl (fun ls hl => ?_)
  refine loopW (σ := (Nat → Int32)) (fun n x H locs ls => ∃ i_2 : Nat, i_2 + n = 9080 ∧ va_P G vwCl [(ob, .inr (10, [ob_0, .ref wo, .ref mi, .ref hm, .ref mt, .int 0, .ref fv, .int 0, .int 0, .int 0, .int 0, .int 0, .int 0, .int (-1), .ref fr, ob_15, ob_16, ob_17, ob_18, ob_19, ob_20, ob_21, ob_22, ob_23, ob_24, ob_25, ob_26, ob_27, ob_28, ob_29, ob_30, ob_31, ob_32, ob_33, ob_34, .ref cd, ob_36, .ref my, .ref wi, .ref nb, .ref mv])), (fr, .inl (y 1, 9080, .inl (x))), (wo, .inl (y 1, 9080, .inl fw))] H ∧ va_D A [(ob, .inr (10, [ob_0, .ref wo, .ref mi, .ref hm, .ref mt, .int 0, .ref fv, .int 0, .int 0, .int 0, .int 0, .int 0, .int 0, .int (-1), .ref fr, ob_15, ob_16, ob_17, ob_18, ob_19, ob_20, ob_21, ob_22, ob_23, ob_24, ob_25, ob_26, ob_27, ob_28, ob_29, ob_30, ob_31, ob_32, ob_33, ob_34, .ref cd, ob_36, .ref my, .ref wi, .ref nb, .ref mv])), (fr, .inl (y 1, 9080, .inl (x))), (wo, .inl (y 1, 9080, .inl fw))] ∧ va_S A s.heap H locs ∧ lv_has ls 2 [(1, .int (nI (i_2))), (0, .ref ob)] ∧ x 0 = 0) ?_ ?_ 9080 ((fun _ => 0)) ⟨0, by omega, hP, hD, hS, lv_sub hl [0, 1] rfl, rfl⟩
  · rintro f_3 H locs ls ⟨i_5, hi9, hP, hD, hS, hl, zf_30⟩
    obtain rfl : i_5 = 9080 := by omega
    have hP : va_P G vwCl [(ob, .inr (10, [ob_0, .ref wo, .ref mi, .ref hm, .ref mt, .int 0, .ref fv, .int 0, .int 0, .int 0, .int 0, .int 0, .int 0, .int (-1), .ref fr, ob_15, ob_16, ob_17, ob_18, ob_19, ob_20, ob_21, ob_22, ob_23, ob_24, ob_25, ob_26, ob_27, ob_28, ob_29, ob_30, ob_31, ob_32, ob_33, ob_34, .ref cd, ob_36, .ref my, .ref wi, .ref nb, .ref mv])), (fr, .inl (y 1, 9080, .inl f_3)), (wo, .inl (y 1, 9080, .inl fw))] H := hP
    have hD : va_D A [(ob, .inr (10, [ob_0, .ref wo, .ref mi, .ref hm, .ref mt, .int 0, .ref fv, .int 0, .int 0, .int 0, .int 0, .int 0, .int 0, .int (-1), .ref fr, ob_15, ob_16, ob_17, ob_18, ob_19, ob_20, ob_21, ob_22, ob_23, ob_24, ob_25, ob_26, ob_27, ob_28, ob_29, ob_30, ob_31, ob_32, ob_33, ob_34, .ref cd, ob_36, .ref my, .ref wi, .ref nb, .ref mv])), (fr, .inl (y 1, 9080, .inl f_3)), (wo, .inl (y 1, 9080, .inl fw))] := hD
    have hl : lv_has ls 2 [(1, .int 9080), (0, .ref ob)] := hl
    refine lv_iload_n hx hb dX10_town_30 rfl (lv_at hl 0 rfl) ?_
    refine lv_sipush (v := 9080) hx hb dX10_town_31 (by decide) ?_
    refine lv_icmp_ge (tgt := 50) hx hb dX10_town_34 (by decide) (fun _ => ?_) (fun c9 => absurd (by decide) c9)
    refine lv_aload_n hx hb dX10_town_50 rfl (lv_at hl 1 rfl) ?_
    refine va_get (D := G) (ci := 10) (v := .ref fr) (C := RX10) (T := TX10) (N := 41) hx hb hw0 inA_wsX100 hown hK.1 hP 0 rfl rfl 14 (by decide) (hw0 _ m_139) (fun _ h9 => h9) rfl dX10_town_51 ?_
    refine lv_iconst (v := 5) hx hb dX10_town_54 (by decide) ?_
    refine lv_iconst (v := 3) hx hb dX10_town_55 (by decide) ?_
    refine va_iast hx hb hK.1 hP hD hS 1 1 rfl rfl (vp_in_nI (n := 5) (N := 9080) (by decide) (by decide)) dX10_town_56 (fun H locs hP hD hS => ?_)
    have hP : va_P G vwCl [(ob, .inr (10, [ob_0, .ref wo, .ref mi, .ref hm, .ref mt, .int 0, .ref fv, .int 0, .int 0, .int 0, .int 0, .int 0, .int 0, .int (-1), .ref fr, ob_15, ob_16, ob_17, ob_18, ob_19, ob_20, ob_21, ob_22, ob_23, ob_24, ob_25, ob_26, ob_27, ob_28, ob_29, ob_30, ob_31, ob_32, ob_33, ob_34, .ref cd, ob_36, .ref my, .ref wi, .ref nb, .ref mv])), (fr, .inl (y 1, 9080, .inl (upd f_3 5 3))), (wo, .inl (y 1, 9080, .inl fw))] H := hP
    have hD : va_D A [(ob, .inr (10, [ob_0, .ref wo, .ref mi, .ref hm, .ref mt, .int 0, .ref fv, .int 0, .int 0, .int 0, .int 0, .int 0, .int 0, .int (-1), .ref fr, ob_15, ob_16, ob_17, ob_18, ob_19, ob_20, ob_21, ob_22, ob_23, ob_24, ob_25, ob_26, ob_27, ob_28, ob_29, ob_30, ob_31, ob_32, ob_33, ob_34, .ref cd, ob_36, .ref my, .ref wi, .ref nb, .ref mv])), (fr, .inl (y 1, 9080, .inl (upd f_3 5 3))), (wo, .inl (y 1, 9080, .inl fw))] := hD
    refine lv_aload_n hx hb dX10_town_57 rfl (lv_at hl 1 rfl) ?_
    refine cVv (As := []) (rest := []) ⟨hx, hb, hml, hown, hw0⟩ hA hK hP hD hS [0] [1, 2] [(ob, .inr (10, [ob_0, .ref wo, .ref mi, .ref hm, .ref mt, .int 0, .ref fv, .int 0, .int 0, .int 0, .int 0, .int 0, .int 0, .int (-1), .ref fr, ob_15, ob_16, ob_17, ob_18, ob_19, ob_20, ob_21, ob_22, ob_23, ob_24, ob_25, ob_26, ob_27, ob_28, ob_29, ob_30, ob_31, ob_32, ob_33, ob_34, .ref cd, ob_36, .ref my, .ref wi, .ref nb, .ref mv]))] [(fr, .inl (y 1, 9080, .inl (upd f_3 5 3))), (wo, .inl (y 1, 9080, .inl fw))] rfl rfl (by decide) (by decide) (by decide) (kX10_advance l G y _ ob (ob_0) wo mi hm mt fv fr (ob_15) (ob_16) (ob_17) (ob_18) (ob_19) (ob_20) (ob_21) (ob_22) (ob_23) (ob_24) (ob_25) (ob_26) (ob_27) (ob_28) (ob_29) (ob_30) (ob_31) (ob_32) (ob_33) (ob_34) cd (ob_36) my wi nb mv ) ⟨(callB_of 0 hw0 (gA m_427) rfl rfl rfl (hw0 _ m_166) (hw0 _ m_429) (by decide +kernel) ⟨Nat.le_of_ble_eq_true rfl, Nat.le_of_ble_eq_true rfl⟩), (hw0 _ m_430), (hw0 _ m_431)⟩ (ci := 10) (q := (RX10, TX10, 41)) rfl rfl rfl hl.1 (Nat.le_of_ble_eq_true rfl) dX10_town_58 ⟨Nat.le_of_ble_eq_true rfl, Nat.le_of_ble_eq_true rfl⟩ (fun w_7 H locs hw_7 hP hD hS => ?_)
    obtain rfl := hw_7
    have hP : va_P G vwCl [(fr, .inl (y 1, 9080, .inl (upd f_3 5 3))), (wo, .inl (y 1, 9080, .inl fw)), (ob, .inr (10, [ob_0, .ref wo, .ref mi, .ref hm, .ref mt, .int 0, .ref fv, .int 0, .int 0, .int 0, .int 0, .int 0, .int 0, .int (-1), .ref fr, ob_15, ob_16, ob_17, ob_18, ob_19, ob_20, ob_21, ob_22, ob_23, ob_24, ob_25, ob_26, ob_27, ob_28, ob_29, ob_30, ob_31, ob_32, ob_33, ob_34, .ref cd, ob_36, .ref my, .ref wi, .ref nb, .ref mv]))] H := hP
    have hD : va_D A [(fr, .inl (y 1, 9080, .inl (upd f_3 5 3))), (wo, .inl (y 1, 9080, .inl fw)), (ob, .inr (10, [ob_0, .ref wo, .ref mi, .ref hm, .ref mt, .int 0, .ref fv, .int 0, .int 0, .int 0, .int 0, .int 0, .int 0, .int (-1), .ref fr, ob_15, ob_16, ob_17, ob_18, ob_19, ob_20, ob_21, ob_22, ob_23, ob_24, ob_25, ob_26, ob_27, ob_28, ob_29, ob_30, ob_31, ob_32, ob_33, ob_34, .ref cd, ob_36, .ref my, .ref wi, .ref nb, .ref mv]))] := hD
    refine lv_aload_n hx hb dX10_town_61 rfl (lv_at hl 1 rfl) ?_
    refine cVi (As := []) (rest := []) ⟨hx, hb, hml, hown, hw0⟩ hA hK hP hD hS [2] [0, 1] [(ob, .inr (10, [ob_0, .ref wo, .ref mi, .ref hm, .ref mt, .int 0, .ref fv, .int 0, .int 0, .int 0, .int 0, .int 0, .int 0, .int (-1), .ref fr, ob_15, ob_16, ob_17, ob_18, ob_19, ob_20, ob_21, ob_22, ob_23, ob_24, ob_25, ob_26, ob_27, ob_28, ob_29, ob_30, ob_31, ob_32, ob_33, ob_34, .ref cd, ob_36, .ref my, .ref wi, .ref nb, .ref mv]))] [(fr, .inl (y 1, 9080, .inl (upd f_3 5 3))), (wo, .inl (y 1, 9080, .inl fw))] rfl rfl (by decide) (by decide) (by decide) (kX10_good l G y _ ob (ob_0) wo mi hm mt fv fr (ob_15) (ob_16) (ob_17) (ob_18) (ob_19) (ob_20) (ob_21) (ob_22) (ob_23) (ob_24) (ob_25) (ob_26) (ob_27) (ob_28) (ob_29) (ob_30) (ob_31) (ob_32) (ob_33) (ob_34) cd (ob_36) my wi nb mv ) ⟨(callB_of 0 hw0 (gA m_420) rfl rfl rfl (hw0 _ m_166) (hw0 _ m_432) (by decide +kernel) ⟨Nat.le_of_ble_eq_true rfl, Nat.le_of_ble_eq_true rfl⟩), (hw0 _ m_433), (hw0 _ m_434)⟩ (ci := 10) (q := (RX10, TX10, 41)) rfl rfl rfl hl.1 (Nat.le_of_ble_eq_true rfl) dX10_town_62 ⟨Nat.le_of_ble_eq_true rfl, Nat.le_of_ble_eq_true rfl⟩ (fun r_8 w_8 H locs hw_8 hP hD hS => ?_)
    obtain ⟨rfl, rfl⟩ := hw_8
    have hP : va_P G vwCl [(fr, .inl (y 1, 9080, .inl (upd f_3 5 3))), (wo, .inl (y 1, 9080, .inl fw)), (ob, .inr (10, [ob_0, .ref wo, .ref mi, .ref hm, .ref mt, .int 0, .ref fv, .int 0, .int 0, .int 0, .int 0, .int 0, .int 0, .int (-1), .ref fr, ob_15, ob_16, ob_17, ob_18, ob_19, ob_20, ob_21, ob_22, ob_23, ob_24, ob_25, ob_26, ob_27, ob_28, ob_29, ob_30, ob_31, ob_32, ob_33, ob_34, .ref cd, ob_36, .ref my, .ref wi, .ref nb, .ref mv]))] H := hP
    have hD : va_D A [(fr, .inl (y 1, 9080, .inl (upd f_3 5 3))), (wo, .inl (y 1, 9080, .inl fw)), (ob, .inr (10, [ob_0, .ref wo, .ref mi, .ref hm, .ref mt, .int 0, .ref fv, .int 0, .int 0, .int 0, .int 0, .int 0, .int 0, .int (-1), .ref fr, ob_15, ob_16, ob_17, ob_18, ob_19, ob_20, ob_21, ob_22, ob_23, ob_24, ob_25, ob_26, ob_27, ob_28, ob_29, ob_30, ob_31, ob_32, ob_33, ob_34, .ref cd, ob_36, .ref my, .ref wi, .ref nb, .ref mv]))] := hD
    refine lv_if_eq (tgt := 82) hx hb dX10_town_65 (by decide) (fun c9 => absurd c9 (by decide)) (fun _ => ?_)
    refine lv_aload_n hx hb dX10_town_68 rfl (lv_at hl 1 rfl) ?_
    refine va_get (D := G) (ci := 10) (v := .int 0) (C := RX10) (T := TX10) (N := 41) hx hb hw0 inA_wsX100 hown hK.1 hP 2 rfl rfl 10 (by decide) (hw0 _ m_426) (fun _ h9 => h9) rfl dX10_town_69 ?_
    refine lv_if_eq (tgt := 82) hx hb dX10_town_72 (by decide) (fun _ => ?_) (fun c9 => absurd (by decide) c9)
    refine lv_aload_n hx hb dX10_town_82 rfl (lv_at hl 1 rfl) ?_
    refine cVi (As := []) (rest := []) ⟨hx, hb, hml, hown, hw0⟩ hA hK hP hD hS [2] [0, 1] [(ob, .inr (10, [ob_0, .ref wo, .ref mi, .ref hm, .ref mt, .int 0, .ref fv, .int 0, .int 0, .int 0, .int 0, .int 0, .int 0, .int (-1), .ref fr, ob_15, ob_16, ob_17, ob_18, ob_19, ob_20, ob_21, ob_22, ob_23, ob_24, ob_25, ob_26, ob_27, ob_28, ob_29, ob_30, ob_31, ob_32, ob_33, ob_34, .ref cd, ob_36, .ref my, .ref wi, .ref nb, .ref mv]))] [(fr, .inl (y 1, 9080, .inl (upd f_3 5 3))), (wo, .inl (y 1, 9080, .inl fw))] rfl rfl (by decide) (by decide) (by decide) (kX10_good l G y _ ob (ob_0) wo mi hm mt fv fr (ob_15) (ob_16) (ob_17) (ob_18) (ob_19) (ob_20) (ob_21) (ob_22) (ob_23) (ob_24) (ob_25) (ob_26) (ob_27) (ob_28) (ob_29) (ob_30) (ob_31) (ob_32) (ob_33) (ob_34) cd (ob_36) my wi nb mv ) ⟨(callB_of 0 hw0 (gA m_420) rfl rfl rfl (hw0 _ m_166) (hw0 _ m_432) (by decide +kernel) ⟨Nat.le_of_ble_eq_true rfl, Nat.le_of_ble_eq_true rfl⟩), (hw0 _ m_433), (hw0 _ m_434)⟩ (ci := 10) (q := (RX10, TX10, 41)) rfl rfl rfl hl.1 (Nat.le_of_ble_eq_true rfl) dX10_town_83 ⟨Nat.le_of_ble_eq_true rfl, Nat.le_of_ble_eq_true rfl⟩ (fun r_9 w_9 H locs hw_9 hP hD hS => ?_)
    obtain ⟨rfl, rfl⟩ := hw_9
    have hP : va_P G vwCl [(fr, .inl (y 1, 9080, .inl (upd f_3 5 3))), (wo, .inl (y 1, 9080, .inl fw)), (ob, .inr (10, [ob_0, .ref wo, .ref mi, .ref hm, .ref mt, .int 0, .ref fv, .int 0, .int 0, .int 0, .int 0, .int 0, .int 0, .int (-1), .ref fr, ob_15, ob_16, ob_17, ob_18, ob_19, ob_20, ob_21, ob_22, ob_23, ob_24, ob_25, ob_26, ob_27, ob_28, ob_29, ob_30, ob_31, ob_32, ob_33, ob_34, .ref cd, ob_36, .ref my, .ref wi, .ref nb, .ref mv]))] H := hP
    have hD : va_D A [(fr, .inl (y 1, 9080, .inl (upd f_3 5 3))), (wo, .inl (y 1, 9080, .inl fw)), (ob, .inr (10, [ob_0, .ref wo, .ref mi, .ref hm, .ref mt, .int 0, .ref fv, .int 0, .int 0, .int 0, .int 0, .int 0, .int 0, .int (-1), .ref fr, ob_15, ob_16, ob_17, ob_18, ob_19, ob_20, ob_21, ob_22, ob_23, ob_24, ob_25, ob_26, ob_27, ob_28, ob_29, ob_30, ob_31, ob_32, ob_33, ob_34, .ref cd, ob_36, .ref my, .ref wi, .ref nb, .ref mv]))] := hD
    refine lv_if_ne (tgt := 92) hx hb dX10_town_86 (by decide) (fun _ => ?_) (fun c9 => absurd c9 (by decide))
    refine lv_iconst (v := 0) hx hb dX10_town_92 (by decide) ?_
    refine lv_istore_n (lv' := [(1, .int 0), (0, .ref ob)]) hx hb dX10_town_93 rfl hl (by decide) rfl (fun ls hl => ?_)
    refine loopW (σ := (Nat → Int32)) (fun n x H locs ls => ∃ i_11 : Nat, i_11 + n = 9080 ∧ va_P G vwCl [(fr, .inl (y 1, 9080, .inl (upd f_3 5 3))), (wo, .inl (y 1, 9080, .inl (x))), (ob, .inr (10, [ob_0, .ref wo, .ref mi, .ref hm, .ref mt, .int 0, .ref fv, .int 0, .int 0, .int 0, .int 0, .int 0, .int 0, .int (-1), .ref fr, ob_15, ob_16, ob_17, ob_18, ob_19, ob_20, ob_21, ob_22, ob_23, ob_24, ob_25, ob_26, ob_27, ob_28, ob_29, ob_30, ob_31, ob_32, ob_33, ob_34, .ref cd, ob_36, .ref my, .ref wi, .ref nb, .ref mv]))] H ∧ va_D A [(fr, .inl (y 1, 9080, .inl (upd f_3 5 3))), (wo, .inl (y 1, 9080, .inl (x))), (ob, .inr (10, [ob_0, .ref wo, .ref mi, .ref hm, .ref mt, .int 0, .ref fv, .int 0, .int 0, .int 0, .int 0, .int 0, .int 0, .int (-1), .ref fr, ob_15, ob_16, ob_17, ob_18, ob_19, ob_20, ob_21, ob_22, ob_23, ob_24, ob_25, ob_26, ob_27, ob_28, ob_29, ob_30, ob_31, ob_32, ob_33, ob_34, .ref cd, ob_36, .ref my, .ref wi, .ref nb, .ref mv]))] ∧ va_S A s.heap H locs ∧ lv_has ls 2 [(1, .int (nI (i_11))), (0, .ref ob)] ∧ x 0 = 0) ?_ ?_ 9080 (fw) ⟨0, by omega, hP, hD, hS, lv_sub hl [0, 1] rfl, z0⟩
    · rintro f_12 H locs ls ⟨i_14, hi9, hP, hD, hS, hl, zf_120⟩
      obtain rfl : i_14 = 9080 := by omega
      have hP : va_P G vwCl [(fr, .inl (y 1, 9080, .inl (upd f_3 5 3))), (wo, .inl (y 1, 9080, .inl f_12)), (ob, .inr (10, [ob_0, .ref wo, .ref mi, .ref hm, .ref mt, .int 0, .ref fv, .int 0, .int 0, .int 0, .int 0, .int 0, .int 0, .int (-1), .ref fr, ob_15, ob_16, ob_17, ob_18, ob_19, ob_20, ob_21, ob_22, ob_23, ob_24, ob_25, ob_26, ob_27, ob_28, ob_29, ob_30, ob_31, ob_32, ob_33, ob_34, .ref cd, ob_36, .ref my, .ref wi, .ref nb, .ref mv]))] H := hP
      have hD : va_D A [(fr, .inl (y 1, 9080, .inl (upd f_3 5 3))), (wo, .inl (y 1, 9080, .inl f_12)), (ob, .inr (10, [ob_0, .ref wo, .ref mi, .ref hm, .ref mt, .int 0, .ref fv, .int 0, .int 0, .int 0, .int 0, .int 0, .int 0, .int (-1), .ref fr, ob_15, ob_16, ob_17, ob_18, ob_19, ob_20, ob_21, ob_22, ob_23, ob_24, ob_25, ob_26, ob_27, ob_28, ob_29, ob_30, ob_31, ob_32, ob_33, ob_34, .ref cd, ob_36, .ref my, .ref wi, .ref nb, .ref mv]))] := hD
      have hl : lv_has ls 2 [(1, .int 9080), (0, .ref ob)] := hl
      refine lv_iload_n hx hb dX10_town_94 rfl (lv_at hl 0 rfl) ?_
      refine lv_sipush (v := 9080) hx hb dX10_town_95 (by decide) ?_
      refine lv_icmp_ge (tgt := 119) hx hb dX10_town_98 (by decide) (fun _ => ?_) (fun c9 => absurd (by decide) c9)
      refine lv_iconst (v := 0) hx hb dX10_town_119 (by decide) ?_
      refine lv_istore_n (lv' := [(1, .int 0), (0, .ref ob)]) hx hb dX10_town_120 rfl hl (by decide) rfl (fun ls hl => ?_)
      refine loopW (σ := (Nat → Int32)) (fun n x H locs ls => ∃ i_17 : Nat, i_17 + n = 16 ∧ va_P G vwCl [(fr, .inl (y 1, 9080, .inl (upd f_3 5 3))), (wo, .inl (y 1, 9080, .inl (x))), (ob, .inr (10, [ob_0, .ref wo, .ref mi, .ref hm, .ref mt, .int 0, .ref fv, .int 0, .int 0, .int 0, .int 0, .int 0, .int 0, .int (-1), .ref fr, ob_15, ob_16, ob_17, ob_18, ob_19, ob_20, ob_21, ob_22, ob_23, ob_24, ob_25, ob_26, ob_27, ob_28, ob_29, ob_30, ob_31, ob_32, ob_33, ob_34, .ref cd, ob_36, .ref my, .ref wi, .ref nb, .ref mv]))] H ∧ va_D A [(fr, .inl (y 1, 9080, .inl (upd f_3 5 3))), (wo, .inl (y 1, 9080, .inl (x))), (ob, .inr (10, [ob_0, .ref wo, .ref mi, .ref hm, .ref mt, .int 0, .ref fv, .int 0, .int 0, .int 0, .int 0, .int 0, .int 0, .int (-1), .ref fr, ob_15, ob_16, ob_17, ob_18, ob_19, ob_20, ob_21, ob_22, ob_23, ob_24, ob_25, ob_26, ob_27, ob_28, ob_29, ob_30, ob_31, ob_32, ob_33, ob_34, .ref cd, ob_36, .ref my, .ref wi, .ref nb, .ref mv]))] ∧ va_S A s.heap H locs ∧ lv_has ls 2 [(1, .int (nI (i_17))), (0, .ref ob)] ∧ x 0 = 0) ?_ ?_ 16 (f_12) ⟨0, by omega, hP, hD, hS, lv_sub hl [0, 1] rfl, zf_120⟩
      · rintro f_18 H locs ls ⟨i_20, hi9, hP, hD, hS, hl, zf_180⟩
        obtain rfl : i_20 = 16 := by omega
        have hP : va_P G vwCl [(fr, .inl (y 1, 9080, .inl (upd f_3 5 3))), (wo, .inl (y 1, 9080, .inl f_18)), (ob, .inr (10, [ob_0, .ref wo, .ref mi, .ref hm, .ref mt, .int 0, .ref fv, .int 0, .int 0, .int 0, .int 0, .int 0, .int 0, .int (-1), .ref fr, ob_15, ob_16, ob_17, ob_18, ob_19, ob_20, ob_21, ob_22, ob_23, ob_24, ob_25, ob_26, ob_27, ob_28, ob_29, ob_30, ob_31, ob_32, ob_33, ob_34, .ref cd, ob_36, .ref my, .ref wi, .ref nb, .ref mv]))] H := hP
        have hD : va_D A [(fr, .inl (y 1, 9080, .inl (upd f_3 5 3))), (wo, .inl (y 1, 9080, .inl f_18)), (ob, .inr (10, [ob_0, .ref wo, .ref mi, .ref hm, .ref mt, .int 0, .ref fv, .int 0, .int 0, .int 0, .int 0, .int 0, .int 0, .int (-1), .ref fr, ob_15, ob_16, ob_17, ob_18, ob_19, ob_20, ob_21, ob_22, ob_23, ob_24, ob_25, ob_26, ob_27, ob_28, ob_29, ob_30, ob_31, ob_32, ob_33, ob_34, .ref cd, ob_36, .ref my, .ref wi, .ref nb, .ref mv]))] := hD
        have hl : lv_has ls 2 [(1, .int 16), (0, .ref ob)] := hl
        refine lv_iload_n hx hb dX10_town_121 rfl (lv_at hl 0 rfl) ?_
        refine lv_bipush (v := 16) hx hb dX10_town_122 (by decide) ?_
        refine lv_icmp_ge (tgt := 150) hx hb dX10_town_124 (by decide) (fun _ => ?_) (fun c9 => absurd (by decide) c9)
        refine lv_aload_n hx hb dX10_town_150 rfl (lv_at hl 1 rfl) ?_
        refine va_get (D := G) (ci := 10) (v := .ref wo) (C := RX10) (T := TX10) (N := 41) hx hb hw0 inA_wsX100 hown hK.1 hP 2 rfl rfl 1 (by decide) (hw0 _ m_132) (fun _ h9 => h9) rfl dX10_town_151 ?_
        refine lv_iconst (v := 0) hx hb dX10_town_154 (by decide) ?_
        refine va_iald hx hb hK.1 hP 1 1 rfl rfl (vp_in_nI (n := 0) (N := 9080) (by decide) (by decide)) dX10_town_155 ?_
        refine lv_topi (fun v_22 ev_22 => ?_)
        obtain rfl : 0 = v_22 := (ev_22.trans (zf_180)).symm
        refine W.widen (k := 0) (n := 0) (Nat.le_of_ble_eq_true rfl) (Nat.le_of_ble_eq_true rfl) ?_
        exact W.iret (v := 0) hx hb hr (fun t ht hW => ⟨⟨0, _, rfl, rfl, by rw [ht]; exact hP, hD⟩, hS.F ht⟩) hS.2.2 dX10_town_156
      · rintro n_24 ih_26 f_23 H locs ls ⟨i_25, hi_i_25, hP, hD, hS, hl, zf_230⟩
        have hb_i_25 : i_25 < 16 := by omega
        have hP : va_P G vwCl [(fr, .inl (y 1, 9080, .inl (upd f_3 5 3))), (wo, .inl (y 1, 9080, .inl f_23)), (ob, .inr (10, [ob_0, .ref wo, .ref mi, .ref hm, .ref mt, .int 0, .ref fv, .int 0, .int 0, .int 0, .int 0, .int 0, .int 0, .int (-1), .ref fr, ob_15, ob_16, ob_17, ob_18, ob_19, ob_20, ob_21, ob_22, ob_23, ob_24, ob_25, ob_26, ob_27, ob_28, ob_29, ob_30, ob_31, ob_32, ob_33, ob_34, .ref cd, ob_36, .ref my, .ref wi, .ref nb, .ref mv]))] H := hP
        have hD : va_D A [(fr, .inl (y 1, 9080, .inl (upd f_3 5 3))), (wo, .inl (y 1, 9080, .inl f_23)), (ob, .inr (10, [ob_0, .ref wo, .ref mi, .ref hm, .ref mt, .int 0, .ref fv, .int 0, .int 0, .int 0, .int 0, .int 0, .int 0, .int (-1), .ref fr, ob_15, ob_16, ob_17, ob_18, ob_19, ob_20, ob_21, ob_22, ob_23, ob_24, ob_25, ob_26, ob_27, ob_28, ob_29, ob_30, ob_31, ob_32, ob_33, ob_34, .ref cd, ob_36, .ref my, .ref wi, .ref nb, .ref mv]))] := hD
        have hl : lv_has ls 2 [(1, .int (nI (i_25))), (0, .ref ob)] := hl
        refine lv_iload_n hx hb dX10_town_121 rfl (lv_at hl 0 rfl) ?_
        refine lv_bipush (v := 16) hx hb dX10_town_122 (by decide) ?_
        refine lv_icmp_ge (tgt := 150) hx hb dX10_town_124 (by decide) (fun c9 => absurd c9 (nI_ge (a := i_25) (b := 16) (by omega) (by omega))) (fun _ => ?_)
        refine lv_aload_n hx hb dX10_town_127 rfl (lv_at hl 1 rfl) ?_
        refine va_get (D := G) (ci := 10) (v := .ref wo) (C := RX10) (T := TX10) (N := 41) hx hb hw0 inA_wsX100 hown hK.1 hP 2 rfl rfl 1 (by decide) (hw0 _ m_132) (fun _ h9 => h9) rfl dX10_town_128 ?_
        refine lv_sipush (v := 1864) hx hb dX10_town_131 (by decide) ?_
        refine lv_iload_n hx hb dX10_town_134 rfl (lv_at hl 0 rfl) ?_
        refine lv_iadd hx hb dX10_town_135 ?_
        refine lv_topi (fun v_27 ev_27 => ?_)
        obtain rfl : (nI (1864 + i_25)) = v_27 := (ev_27.trans (nI_add (1864) (i_25))).symm
        refine lv_aload_n hx hb dX10_town_136 rfl (lv_at hl 1 rfl) ?_
        refine lv_iload_n hx hb dX10_town_137 rfl (lv_at hl 0 rfl) ?_
        refine lv_bipush (v := 8) hx hb dX10_town_138 (by decide) ?_
        refine cVi (As := [.int (nI (i_25)), .int 8]) (rest := [.int (nI (1864 + i_25)), .ref wo]) ⟨hx, hb, hml, hown, hw0⟩ hA hK hP hD hS [2, 1] [0] [(ob, .inr (10, [ob_0, .ref wo, .ref mi, .ref hm, .ref mt, .int 0, .ref fv, .int 0, .int 0, .int 0, .int 0, .int 0, .int 0, .int (-1), .ref fr, ob_15, ob_16, ob_17, ob_18, ob_19, ob_20, ob_21, ob_22, ob_23, ob_24, ob_25, ob_26, ob_27, ob_28, ob_29, ob_30, ob_31, ob_32, ob_33, ob_34, .ref cd, ob_36, .ref my, .ref wi, .ref nb, .ref mv])), (wo, .inl (y 1, 9080, .inl f_23))] [(fr, .inl (y 1, 9080, .inl (upd f_3 5 3)))] rfl rfl (by decide) (by decide) (by decide) (kX10_ofHouse l G y _ ob i_25 (ob_0) wo mi hm mt fv fr (ob_15) (ob_16) (ob_17) (ob_18) (ob_19) (ob_20) (ob_21) (ob_22) (ob_23) (ob_24) (ob_25) (ob_26) (ob_27) (ob_28) (ob_29) (ob_30) (ob_31) (ob_32) (ob_33) (ob_34) cd (ob_36) my wi nb mv f_23 (by omega)) ⟨(callB_of 2 hw0 (gA m_428) rfl rfl rfl (hw0 _ m_166) (hw0 _ m_435) (by decide +kernel) ⟨Nat.le_of_ble_eq_true rfl, Nat.le_of_ble_eq_true rfl⟩), (hw0 _ m_436), (hw0 _ m_437)⟩ (ci := 10) (q := (RX10, TX10, 41)) rfl rfl rfl hl.1 (Nat.le_of_ble_eq_true rfl) dX10_town_140 ⟨Nat.le_of_ble_eq_true rfl, Nat.le_of_ble_eq_true rfl⟩ (fun r_28 w_28 H locs hw_28 hP hD hS => ?_)
        obtain ⟨v_29, er_28, rfl⟩ := hw_28
        subst r_28
        have hP : va_P G vwCl [(fr, .inl (y 1, 9080, .inl (upd f_3 5 3))), (ob, .inr (10, [ob_0, .ref wo, .ref mi, .ref hm, .ref mt, .int 0, .ref fv, .int 0, .int 0, .int 0, .int 0, .int 0, .int 0, .int (-1), .ref fr, ob_15, ob_16, ob_17, ob_18, ob_19, ob_20, ob_21, ob_22, ob_23, ob_24, ob_25, ob_26, ob_27, ob_28, ob_29, ob_30, ob_31, ob_32, ob_33, ob_34, .ref cd, ob_36, .ref my, .ref wi, .ref nb, .ref mv])), (wo, .inl (y 1, 9080, .inl f_23))] H := hP
        have hD : va_D A [(fr, .inl (y 1, 9080, .inl (upd f_3 5 3))), (ob, .inr (10, [ob_0, .ref wo, .ref mi, .ref hm, .ref mt, .int 0, .ref fv, .int 0, .int 0, .int 0, .int 0, .int 0, .int 0, .int (-1), .ref fr, ob_15, ob_16, ob_17, ob_18, ob_19, ob_20, ob_21, ob_22, ob_23, ob_24, ob_25, ob_26, ob_27, ob_28, ob_29, ob_30, ob_31, ob_32, ob_33, ob_34, .ref cd, ob_36, .ref my, .ref wi, .ref nb, .ref mv])), (wo, .inl (y 1, 9080, .inl f_23))] := hD
        refine va_iast hx hb hK.1 hP hD hS 2 1 rfl rfl (vp_in_nI (n := 1864 + i_25) (N := 9080) (by omega) (by decide)) dX10_town_143 (fun H locs hP hD hS => ?_)
        generalize hf_30 : (upd f_23 ((nI (1864 + i_25)) : Int32).toNatClampNeg v_29) = f_30 at hP hD
        have zf_30 : f_30 0 = 0 := by rw [← hf_30]; exact up_ne (by rw [nI_clamp (by omega)]; omega) zf_230
        have hP : va_P G vwCl [(fr, .inl (y 1, 9080, .inl (upd f_3 5 3))), (ob, .inr (10, [ob_0, .ref wo, .ref mi, .ref hm, .ref mt, .int 0, .ref fv, .int 0, .int 0, .int 0, .int 0, .int 0, .int 0, .int (-1), .ref fr, ob_15, ob_16, ob_17, ob_18, ob_19, ob_20, ob_21, ob_22, ob_23, ob_24, ob_25, ob_26, ob_27, ob_28, ob_29, ob_30, ob_31, ob_32, ob_33, ob_34, .ref cd, ob_36, .ref my, .ref wi, .ref nb, .ref mv])), (wo, .inl (y 1, 9080, .inl f_30))] H := hP
        have hD : va_D A [(fr, .inl (y 1, 9080, .inl (upd f_3 5 3))), (ob, .inr (10, [ob_0, .ref wo, .ref mi, .ref hm, .ref mt, .int 0, .ref fv, .int 0, .int 0, .int 0, .int 0, .int 0, .int 0, .int (-1), .ref fr, ob_15, ob_16, ob_17, ob_18, ob_19, ob_20, ob_21, ob_22, ob_23, ob_24, ob_25, ob_26, ob_27, ob_28, ob_29, ob_30, ob_31, ob_32, ob_33, ob_34, .ref cd, ob_36, .ref my, .ref wi, .ref nb, .ref mv])), (wo, .inl (y 1, 9080, .inl f_30))] := hD
        refine lv_iinc (v := (nI (i_25 + 1))) (lv' := [(1, .int (nI (i_25 + 1))), (0, .ref ob)]) hx hb dX10_town_144 hl (k := 0) rfl (by exact nI_1 _) (by decide) rfl (fun ls hl => ?_)
        refine lv_goto (tgt := 121) hx hb dX10_town_147 (by decide) ?_
        have hP : va_P G vwCl [(fr, .inl (y 1, 9080, .inl (upd f_3 5 3))), (wo, .inl (y 1, 9080, .inl f_30)), (ob, .inr (10, [ob_0, .ref wo, .ref mi, .ref hm, .ref mt, .int 0, .ref fv, .int 0, .int 0, .int 0, .int 0, .int 0, .int 0, .int (-1), .ref fr, ob_15, ob_16, ob_17, ob_18, ob_19, ob_20, ob_21, ob_22, ob_23, ob_24, ob_25, ob_26, ob_27, ob_28, ob_29, ob_30, ob_31, ob_32, ob_33, ob_34, .ref cd, ob_36, .ref my, .ref wi, .ref nb, .ref mv]))] H := P_map hP [0, 2, 1] rfl
        have hD : va_D A [(fr, .inl (y 1, 9080, .inl (upd f_3 5 3))), (wo, .inl (y 1, 9080, .inl f_30)), (ob, .inr (10, [ob_0, .ref wo, .ref mi, .ref hm, .ref mt, .int 0, .ref fv, .int 0, .int 0, .int 0, .int 0, .int 0, .int 0, .int (-1), .ref fr, ob_15, ob_16, ob_17, ob_18, ob_19, ob_20, ob_21, ob_22, ob_23, ob_24, ob_25, ob_26, ob_27, ob_28, ob_29, ob_30, ob_31, ob_32, ob_33, ob_34, .ref cd, ob_36, .ref my, .ref wi, .ref nb, .ref mv]))] := hD.sub [0, 2, 1] (by decide) rfl
        exact ih_26 _ H locs ls ⟨i_25 + 1, by omega, hP, hD, hS, lv_sub hl [0, 1] rfl, zf_30⟩
    · rintro n_32 ih_34 f_31 H locs ls ⟨i_33, hi_i_33, hP, hD, hS, hl, zf_310⟩
      have hb_i_33 : i_33 < 9080 := by omega
      have hP : va_P G vwCl [(fr, .inl (y 1, 9080, .inl (upd f_3 5 3))), (wo, .inl (y 1, 9080, .inl f_31)), (ob, .inr (10, [ob_0, .ref wo, .ref mi, .ref hm, .ref mt, .int 0, .ref fv, .int 0, .int 0, .int 0, .int 0, .int 0, .int 0, .int (-1), .ref fr, ob_15, ob_16, ob_17, ob_18, ob_19, ob_20, ob_21, ob_22, ob_23, ob_24, ob_25, ob_26, ob_27, ob_28, ob_29, ob_30, ob_31, ob_32, ob_33, ob_34, .ref cd, ob_36, .ref my, .ref wi, .ref nb, .ref mv]))] H := hP
      have hD : va_D A [(fr, .inl (y 1, 9080, .inl (upd f_3 5 3))), (wo, .inl (y 1, 9080, .inl f_31)), (ob, .inr (10, [ob_0, .ref wo, .ref mi, .ref hm, .ref mt, .int 0, .ref fv, .int 0, .int 0, .int 0, .int 0, .int 0, .int 0, .int (-1), .ref fr, ob_15, ob_16, ob_17, ob_18, ob_19, ob_20, ob_21, ob_22, ob_23, ob_24, ob_25, ob_26, ob_27, ob_28, ob_29, ob_30, ob_31, ob_32, ob_33, ob_34, .ref cd, ob_36, .ref my, .ref wi, .ref nb, .ref mv]))] := hD
      have hl : lv_has ls 2 [(1, .int (nI (i_33))), (0, .ref ob)] := hl
      refine lv_iload_n hx hb dX10_town_94 rfl (lv_at hl 0 rfl) ?_
      refine lv_sipush (v := 9080) hx hb dX10_town_95 (by decide) ?_
      refine lv_icmp_ge (tgt := 119) hx hb dX10_town_98 (by decide) (fun c9 => absurd c9 (nI_ge (a := i_33) (b := 9080) (by omega) (by omega))) (fun _ => ?_)
      refine lv_aload_n hx hb dX10_town_101 rfl (lv_at hl 1 rfl) ?_
      refine va_get (D := G) (ci := 10) (v := .ref wo) (C := RX10) (T := TX10) (N := 41) hx hb hw0 inA_wsX100 hown hK.1 hP 2 rfl rfl 1 (by decide) (hw0 _ m_132) (fun _ h9 => h9) rfl dX10_town_102 ?_
      refine lv_iload_n hx hb dX10_town_105 rfl (lv_at hl 0 rfl) ?_
      refine lv_aload_n hx hb dX10_town_106 rfl (lv_at hl 1 rfl) ?_
      refine va_get (D := G) (ci := 10) (v := .ref fr) (C := RX10) (T := TX10) (N := 41) hx hb hw0 inA_wsX100 hown hK.1 hP 2 rfl rfl 14 (by decide) (hw0 _ m_139) (fun _ h9 => h9) rfl dX10_town_107 ?_
      refine lv_iload_n hx hb dX10_town_110 rfl (lv_at hl 0 rfl) ?_
      refine va_iald hx hb hK.1 hP 0 1 rfl rfl (vp_in_nI (n := i_33) (N := 9080) (by omega) (by decide)) dX10_town_111 ?_
      refine lv_topi (fun v_35 ev_35 => ?_)
      refine va_iast hx hb hK.1 hP hD hS 1 1 rfl rfl (vp_in_nI (n := i_33) (N := 9080) (by omega) (by decide)) dX10_town_112 (fun H locs hP hD hS => ?_)
      generalize hf_36 : (upd f_31 ((nI (i_33)) : Int32).toNatClampNeg v_35) = f_36 at hP hD
      have zf_36 : f_36 0 = 0 := by rw [← hf_36]; exact up_el ev_35 zf_310 zf_30
      have hP : va_P G vwCl [(fr, .inl (y 1, 9080, .inl (upd f_3 5 3))), (wo, .inl (y 1, 9080, .inl f_36)), (ob, .inr (10, [ob_0, .ref wo, .ref mi, .ref hm, .ref mt, .int 0, .ref fv, .int 0, .int 0, .int 0, .int 0, .int 0, .int 0, .int (-1), .ref fr, ob_15, ob_16, ob_17, ob_18, ob_19, ob_20, ob_21, ob_22, ob_23, ob_24, ob_25, ob_26, ob_27, ob_28, ob_29, ob_30, ob_31, ob_32, ob_33, ob_34, .ref cd, ob_36, .ref my, .ref wi, .ref nb, .ref mv]))] H := hP
      have hD : va_D A [(fr, .inl (y 1, 9080, .inl (upd f_3 5 3))), (wo, .inl (y 1, 9080, .inl f_36)), (ob, .inr (10, [ob_0, .ref wo, .ref mi, .ref hm, .ref mt, .int 0, .ref fv, .int 0, .int 0, .int 0, .int 0, .int 0, .int 0, .int (-1), .ref fr, ob_15, ob_16, ob_17, ob_18, ob_19, ob_20, ob_21, ob_22, ob_23, ob_24, ob_25, ob_26, ob_27, ob_28, ob_29, ob_30, ob_31, ob_32, ob_33, ob_34, .ref cd, ob_36, .ref my, .ref wi, .ref nb, .ref mv]))] := hD
      refine lv_iinc (v := (nI (i_33 + 1))) (lv' := [(1, .int (nI (i_33 + 1))), (0, .ref ob)]) hx hb dX10_town_113 hl (k := 0) rfl (by exact nI_1 _) (by decide) rfl (fun ls hl => ?_)
      refine lv_goto (tgt := 94) hx hb dX10_town_116 (by decide) ?_
      exact ih_34 _ H locs ls ⟨i_33 + 1, by omega, hP, hD, hS, lv_sub hl [0, 1] rfl, zf_36⟩
  · rintro n_38 ih_40 f_37 H locs ls ⟨i_39, hi_i_39, hP, hD, hS, hl, zf_370⟩
    have hb_i_39 : i_39 < 9080 := by omega
    have hP : va_P G vwCl [(ob, .inr (10, [ob_0, .ref wo, .ref mi, .ref hm, .ref mt, .int 0, .ref fv, .int 0, .int 0, .int 0, .int 0, .int 0, .int 0, .int (-1), .ref fr, ob_15, ob_16, ob_17, ob_18, ob_19, ob_20, ob_21, ob_22, ob_23, ob_24, ob_25, ob_26, ob_27, ob_28, ob_29, ob_30, ob_31, ob_32, ob_33, ob_34, .ref cd, ob_36, .ref my, .ref wi, .ref nb, .ref mv])), (fr, .inl (y 1, 9080, .inl f_37)), (wo, .inl (y 1, 9080, .inl fw))] H := hP
    have hD : va_D A [(ob, .inr (10, [ob_0, .ref wo, .ref mi, .ref hm, .ref mt, .int 0, .ref fv, .int 0, .int 0, .int 0, .int 0, .int 0, .int 0, .int (-1), .ref fr, ob_15, ob_16, ob_17, ob_18, ob_19, ob_20, ob_21, ob_22, ob_23, ob_24, ob_25, ob_26, ob_27, ob_28, ob_29, ob_30, ob_31, ob_32, ob_33, ob_34, .ref cd, ob_36, .ref my, .ref wi, .ref nb, .ref mv])), (fr, .inl (y 1, 9080, .inl f_37)), (wo, .inl (y 1, 9080, .inl fw))] := hD
    have hl : lv_has ls 2 [(1, .int (nI (i_39))), (0, .ref ob)] := hl
    refine lv_iload_n hx hb dX10_town_30 rfl (lv_at hl 0 rfl) ?_
    refine lv_sipush (v := 9080) hx hb dX10_town_31 (by decide) ?_
    refine lv_icmp_ge (tgt := 50) hx hb dX10_town_34 (by decide) (fun c9 => absurd c9 (nI_ge (a := i_39) (b := 9080) (by omega) (by omega))) (fun _ => ?_)
    refine lv_aload_n hx hb dX10_town_37 rfl (lv_at hl 1 rfl) ?_
    refine va_get (D := G) (ci := 10) (v := .ref fr) (C := RX10) (T := TX10) (N := 41) hx hb hw0 inA_wsX100 hown hK.1 hP 0 rfl rfl 14 (by decide) (hw0 _ m_139) (fun _ h9 => h9) rfl dX10_town_38 ?_
    refine lv_iload_n hx hb dX10_town_41 rfl (lv_at hl 0 rfl) ?_
    refine lv_iconst (v := 0) hx hb dX10_town_42 (by decide) ?_
    refine va_iast hx hb hK.1 hP hD hS 1 1 rfl rfl (vp_in_nI (n := i_39) (N := 9080) (by omega) (by decide)) dX10_town_43 (fun H locs hP hD hS => ?_)
    generalize hf_41 : (upd f_37 ((nI (i_39)) : Int32).toNatClampNeg 0) = f_41 at hP hD
    have zf_41 : f_41 0 = 0 := by rw [← hf_41]; exact up_v0 zf_370
    have hP : va_P G vwCl [(ob, .inr (10, [ob_0, .ref wo, .ref mi, .ref hm, .ref mt, .int 0, .ref fv, .int 0, .int 0, .int 0, .int 0, .int 0, .int 0, .int (-1), .ref fr, ob_15, ob_16, ob_17, ob_18, ob_19, ob_20, ob_21, ob_22, ob_23, ob_24, ob_25, ob_26, ob_27, ob_28, ob_29, ob_30, ob_31, ob_32, ob_33, ob_34, .ref cd, ob_36, .ref my, .ref wi, .ref nb, .ref mv])), (fr, .inl (y 1, 9080, .inl f_41)), (wo, .inl (y 1, 9080, .inl fw))] H := hP
    have hD : va_D A [(ob, .inr (10, [ob_0, .ref wo, .ref mi, .ref hm, .ref mt, .int 0, .ref fv, .int 0, .int 0, .int 0, .int 0, .int 0, .int 0, .int (-1), .ref fr, ob_15, ob_16, ob_17, ob_18, ob_19, ob_20, ob_21, ob_22, ob_23, ob_24, ob_25, ob_26, ob_27, ob_28, ob_29, ob_30, ob_31, ob_32, ob_33, ob_34, .ref cd, ob_36, .ref my, .ref wi, .ref nb, .ref mv])), (fr, .inl (y 1, 9080, .inl f_41)), (wo, .inl (y 1, 9080, .inl fw))] := hD
    refine lv_iinc (v := (nI (i_39 + 1))) (lv' := [(1, .int (nI (i_39 + 1))), (0, .ref ob)]) hx hb dX10_town_44 hl (k := 0) rfl (by exact nI_1 _) (by decide) rfl (fun ls hl => ?_)
    refine lv_goto (tgt := 30) hx hb dX10_town_47 (by decide) ?_
    exact ih_40 _ H locs ls ⟨i_39 + 1, by omega, hP, hD, hS, lv_sub hl [0, 1] rfl, zf_41⟩
