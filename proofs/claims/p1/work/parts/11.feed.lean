set_option maxHeartbeats 4000000 in
set_option maxRecDepth 100000 in
theorem kX9_feedNumber (l : Launch) (G : va_G) (y : Nat → ClassId) (sz : Nat) (ob : Nat) (a1 : Int32) (tp : Nat) (tz : Nat) (rd : Nat) (sa : Nat) (im : Nat) (sl : Nat) (ro : Nat) (wy : Nat) (od : Nat) (ok : Nat) (f0 : Nat → Int32) (htz : tz ≤ 16) : Met l yX9_feedNumber (Cond.code yX9_feedNumber cX9_feedNumber 3 none :: wAll) ({ frames := 0, cells := 0, slots := 0, locals := 0 }) (va_Pc [.ref ob, .int a1] (kp G y sz [(ob, .inr (9, [.ref tp, .int (nI (tz)), .ref rd, .ref sa, .ref im, .ref sl, .ref ro, .ref wy, .ref od, .ref ok])), (tp, .inl (y 0, 1400, .inl f0))])) (va_Qv (fun (w : va_W) => (∃ (f_1 : Nat → Int32), w = [(ob, .inr (9, [.ref tp, .int (nI (tz + 1 + 1 + 1 + 1)), .ref rd, .ref sa, .ref im, .ref sl, .ref ro, .ref wy, .ref od, .ref ok])), (tp, .inl (y 0, 1400, .inl f_1))])) (kq G (va_A [(ob, .inr (9, [.ref tp, .int (nI (tz)), .ref rd, .ref sa, .ref im, .ref sl, .ref ro, .ref wy, .ref od, .ref ok])), (tp, .inl (y 0, 1400, .inl f0))] sz)) (va_A [(ob, .inr (9, [.ref tp, .int (nI (tz)), .ref rd, .ref sa, .ref im, .ref sl, .ref ro, .ref wy, .ref od, .ref ok])), (tp, .inl (y 0, 1400, .inl f0))] sz)) 0 0 (va_A [(ob, .inr (9, [.ref tp, .int (nI (tz)), .ref rd, .ref sa, .ref im, .ref sl, .ref ro, .ref wy, .ref od, .ref ok])), (tp, .inl (y 0, 1400, .inl f0))] sz) := by
  refine Met.ofW (cc := cX9_feedNumber) (maxL := 3) (ret := none) (by decide) rfl ?_
  intro p e s m args below meth c s₁ B hml hv
  obtain ⟨rfl, hsz, hP, hK, hD0⟩ := hv
  have hx := B.exec
  have hb := B.bytes
  have hr := B.returns
  have hw0 : ∀ w ∈ wAll, w.before _ s = true := fun w h => atoms_spec (ws := Cond.code yX9_feedNumber cX9_feedNumber 3 none :: wAll) B.pre w (List.mem_cons_of_mem _ h)
  have hown : s.vm.findClass RX9 = some m.cls := findClass_of_methodNamed B.named
  have hlocks := B.notSynchronized
  subst hsz
  have hD := hD0.self (sz := s.heap.size)
  generalize hAe : va_A [(ob, .inr (9, [.ref tp, .int (nI (tz)), .ref rd, .ref sa, .ref im, .ref sl, .ref ro, .ref wy, .ref od, .ref ok])), (tp, .inl (y 0, 1400, .inl f0))] s.heap.size = A at hD ⊢
  have hA : ∀ q : Nat, s.heap.size ≤ q → A q := fun q h => by rw [← hAe]; exact Or.inr h
  have hS : va_S A s.heap s.heap [] := va_S.rf
  have hP : va_P G vwCl [(ob, .inr (9, [.ref tp, .int (nI (tz)), .ref rd, .ref sa, .ref im, .ref sl, .ref ro, .ref wy, .ref od, .ref ok])), (tp, .inl (y 0, 1400, .inl f0))] s.heap := hP
  have hl := lv_entry ([.ref ob, .int a1]) (n := 3) (Nat.le_of_ble_eq_true rfl)
  rw [lg_entry_eq]
  generalize (lg_sl ([.ref ob, .int a1]) ++ List.replicate (3 - (lg_sl ([.ref ob, .int a1])).length) Slot.unset).toArray = ls at hl ⊢
  have hl : lv_has ls 3 [(0, .ref ob), (1, .int a1)] := hl
  refine lv_bipush (v := 24) hx hb dX9_feedNumber_0 (by decide) ?_
  refine lv_istore_n (lv' := [(2, .int 24), (0, .ref ob), (1, .int a1)]) hx hb dX9_feedNumber_2 rfl hl (by decide) rfl (fun ls hl => ?_)
  refine lv_iload_n hx hb dX9_feedNumber_3 rfl (lv_at hl 0 rfl) ?_
  refine lv_if_lt (tgt := 46) hx hb dX9_feedNumber_4 (by decide) (fun c9 => absurd c9 (by decide)) (fun _ => ?_)
  refine lv_aload_n hx hb dX9_feedNumber_7 rfl (lv_at hl 1 rfl) ?_
  refine va_get (D := G) (ci := 9) (v := .int (nI (tz))) (C := RX9) (T := TX9) (N := 10) hx hb hw0 inA_wsX90 hown hK.1 hP 0 rfl rfl 1 (by decide) (hw0 _ m_216) (fun _ h9 => h9) rfl dX9_feedNumber_8 ?_
  refine lv_sipush (v := 1400) hx hb dX9_feedNumber_11 (by decide) ?_
  refine lv_icmp_ge (tgt := 46) hx hb dX9_feedNumber_14 (by decide) (fun c9 => absurd c9 (nI_ge (a := tz) (b := 1400) (by omega) (by omega))) (fun _ => ?_)
  refine lv_aload_n hx hb dX9_feedNumber_17 rfl (lv_at hl 1 rfl) ?_
  refine va_get (D := G) (ci := 9) (v := .ref tp) (C := RX9) (T := TX9) (N := 10) hx hb hw0 inA_wsX90 hown hK.1 hP 0 rfl rfl 0 (by decide) (hw0 _ m_100) (fun _ h9 => h9) rfl dX9_feedNumber_18 ?_
  refine lv_aload_n hx hb dX9_feedNumber_21 rfl (lv_at hl 1 rfl) ?_
  refine va_get (D := G) (ci := 9) (v := .int (nI (tz))) (C := RX9) (T := TX9) (N := 10) hx hb hw0 inA_wsX90 hown hK.1 hP 0 rfl rfl 1 (by decide) (hw0 _ m_216) (fun _ h9 => h9) rfl dX9_feedNumber_22 ?_
  refine lv_iload_n hx hb dX9_feedNumber_25 rfl (lv_at hl 2 rfl) ?_
  refine lv_iload_n hx hb dX9_feedNumber_26 rfl (lv_at hl 0 rfl) ?_
  refine lv_ishr hx hb dX9_feedNumber_27 ?_
  refine lv_topi (fun v_1 ev_1 => ?_)
  refine lv_i2b hx hb dX9_feedNumber_28 rfl ?_
  refine lv_topi (fun v_2 ev_2 => ?_)
  refine va_bast hx hb hK.1 hP hD hS 1 0 rfl rfl (vp_in_nI (n := tz) (N := 1400) (by omega) (by decide)) dX9_feedNumber_29 (fun H locs hP hD hS => ?_)
  generalize (upd f0 ((nI (tz)) : Int32).toNatClampNeg (vp_nar .byte v_2)) = f_3 at hP hD
  have hP : va_P G vwCl [(ob, .inr (9, [.ref tp, .int (nI (tz)), .ref rd, .ref sa, .ref im, .ref sl, .ref ro, .ref wy, .ref od, .ref ok])), (tp, .inl (y 0, 1400, .inl f_3))] H := hP
  have hD : va_D A [(ob, .inr (9, [.ref tp, .int (nI (tz)), .ref rd, .ref sa, .ref im, .ref sl, .ref ro, .ref wy, .ref od, .ref ok])), (tp, .inl (y 0, 1400, .inl f_3))] := hD
  refine lv_aload_n hx hb dX9_feedNumber_30 rfl (lv_at hl 1 rfl) ?_
  refine lv_dup hx hb dX9_feedNumber_31 rfl ?_
  refine va_get (D := G) (ci := 9) (v := .int (nI (tz))) (C := RX9) (T := TX9) (N := 10) hx hb hw0 inA_wsX90 hown hK.1 hP 0 rfl rfl 1 (by decide) (hw0 _ m_216) (fun _ h9 => h9) rfl dX9_feedNumber_32 ?_
  refine lv_iconst (v := 1) hx hb dX9_feedNumber_35 (by decide) ?_
  refine lv_iadd hx hb dX9_feedNumber_36 ?_
  refine lv_topi (fun v_4 ev_4 => ?_)
  obtain rfl : (nI (tz + 1)) = v_4 := (ev_4.trans (nI_add (tz) (1))).symm
  refine va_put (D := G) (ci := 9) (v := .int (nI (tz + 1))) (ty := .int) (C := RX9) (T := TX9) (N := 10) hx hb hw0 inA_wsX90 tyX9 tyX9_ok nmX9 hown hK.1 hP hD hS 0 rfl rfl 1 (by decide) (hw0 _ m_216) (fun _ h9 => h9) rfl (by decide +kernel) rfl rfl (Nat.le_of_ble_eq_true rfl) dX9_feedNumber_37 (fun H locs hP hD hS => ?_)
  have hP : va_P G vwCl [(ob, .inr (9, [.ref tp, .int (nI (tz + 1)), .ref rd, .ref sa, .ref im, .ref sl, .ref ro, .ref wy, .ref od, .ref ok])), (tp, .inl (y 0, 1400, .inl f_3))] H := hP
  have hD : va_D A [(ob, .inr (9, [.ref tp, .int (nI (tz + 1)), .ref rd, .ref sa, .ref im, .ref sl, .ref ro, .ref wy, .ref od, .ref ok])), (tp, .inl (y 0, 1400, .inl f_3))] := hD
  refine lv_iinc (v := 16) (lv' := [(2, .int 16), (0, .ref ob), (1, .int a1)]) hx hb dX9_feedNumber_40 hl (k := 0) rfl (by decide) (by decide) rfl (fun ls hl => ?_)
  refine lv_goto (tgt := 3) hx hb dX9_feedNumber_43 (by decide) ?_
  refine lv_iload_n hx hb dX9_feedNumber_3 rfl (lv_at hl 0 rfl) ?_
  refine lv_if_lt (tgt := 46) hx hb dX9_feedNumber_4 (by decide) (fun c9 => absurd c9 (by decide)) (fun _ => ?_)
  refine lv_aload_n hx hb dX9_feedNumber_7 rfl (lv_at hl 1 rfl) ?_
  refine va_get (D := G) (ci := 9) (v := .int (nI (tz + 1))) (C := RX9) (T := TX9) (N := 10) hx hb hw0 inA_wsX90 hown hK.1 hP 0 rfl rfl 1 (by decide) (hw0 _ m_216) (fun _ h9 => h9) rfl dX9_feedNumber_8 ?_
  refine lv_sipush (v := 1400) hx hb dX9_feedNumber_11 (by decide) ?_
  refine lv_icmp_ge (tgt := 46) hx hb dX9_feedNumber_14 (by decide) (fun c9 => absurd c9 (nI_ge (a := tz + 1) (b := 1400) (by omega) (by omega))) (fun _ => ?_)
  refine lv_aload_n hx hb dX9_feedNumber_17 rfl (lv_at hl 1 rfl) ?_
  refine va_get (D := G) (ci := 9) (v := .ref tp) (C := RX9) (T := TX9) (N := 10) hx hb hw0 inA_wsX90 hown hK.1 hP 0 rfl rfl 0 (by decide) (hw0 _ m_100) (fun _ h9 => h9) rfl dX9_feedNumber_18 ?_
  refine lv_aload_n hx hb dX9_feedNumber_21 rfl (lv_at hl 1 rfl) ?_
  refine va_get (D := G) (ci := 9) (v := .int (nI (tz + 1))) (C := RX9) (T := TX9) (N := 10) hx hb hw0 inA_wsX90 hown hK.1 hP 0 rfl rfl 1 (by decide) (hw0 _ m_216) (fun _ h9 => h9) rfl dX9_feedNumber_22 ?_
  refine lv_iload_n hx hb dX9_feedNumber_25 rfl (lv_at hl 2 rfl) ?_
  refine lv_iload_n hx hb dX9_feedNumber_26 rfl (lv_at hl 0 rfl) ?_
  refine lv_ishr hx hb dX9_feedNumber_27 ?_
  refine lv_topi (fun v_5 ev_5 => ?_)
  refine lv_i2b hx hb dX9_feedNumber_28 rfl ?_
  refine lv_topi (fun v_6 ev_6 => ?_)
  refine va_bast hx hb hK.1 hP hD hS 1 0 rfl rfl (vp_in_nI (n := tz + 1) (N := 1400) (by omega) (by decide)) dX9_feedNumber_29 (fun H locs hP hD hS => ?_)
  generalize (upd f_3 ((nI (tz + 1)) : Int32).toNatClampNeg (vp_nar .byte v_6)) = f_7 at hP hD
  have hP : va_P G vwCl [(ob, .inr (9, [.ref tp, .int (nI (tz + 1)), .ref rd, .ref sa, .ref im, .ref sl, .ref ro, .ref wy, .ref od, .ref ok])), (tp, .inl (y 0, 1400, .inl f_7))] H := hP
  have hD : va_D A [(ob, .inr (9, [.ref tp, .int (nI (tz + 1)), .ref rd, .ref sa, .ref im, .ref sl, .ref ro, .ref wy, .ref od, .ref ok])), (tp, .inl (y 0, 1400, .inl f_7))] := hD
  refine lv_aload_n hx hb dX9_feedNumber_30 rfl (lv_at hl 1 rfl) ?_
  refine lv_dup hx hb dX9_feedNumber_31 rfl ?_
  refine va_get (D := G) (ci := 9) (v := .int (nI (tz + 1))) (C := RX9) (T := TX9) (N := 10) hx hb hw0 inA_wsX90 hown hK.1 hP 0 rfl rfl 1 (by decide) (hw0 _ m_216) (fun _ h9 => h9) rfl dX9_feedNumber_32 ?_
  refine lv_iconst (v := 1) hx hb dX9_feedNumber_35 (by decide) ?_
  refine lv_iadd hx hb dX9_feedNumber_36 ?_
  refine lv_topi (fun v_8 ev_8 => ?_)
  obtain rfl : (nI (tz + 1 + 1)) = v_8 := (ev_8.trans (nI_add (tz + 1) (1))).symm
  refine va_put (D := G) (ci := 9) (v := .int (nI (tz + 1 + 1))) (ty := .int) (C := RX9) (T := TX9) (N := 10) hx hb hw0 inA_wsX90 tyX9 tyX9_ok nmX9 hown hK.1 hP hD hS 0 rfl rfl 1 (by decide) (hw0 _ m_216) (fun _ h9 => h9) rfl (by decide +kernel) rfl rfl (Nat.le_of_ble_eq_true rfl) dX9_feedNumber_37 (fun H locs hP hD hS => ?_)
  have hP : va_P G vwCl [(ob, .inr (9, [.ref tp, .int (nI (tz + 1 + 1)), .ref rd, .ref sa, .ref im, .ref sl, .ref ro, .ref wy, .ref od, .ref ok])), (tp, .inl (y 0, 1400, .inl f_7))] H := hP
  have hD : va_D A [(ob, .inr (9, [.ref tp, .int (nI (tz + 1 + 1)), .ref rd, .ref sa, .ref im, .ref sl, .ref ro, .ref wy, .ref od, .ref ok])), (tp, .inl (y 0, 1400, .inl f_7))] := hD
  refine lv_iinc (v := 8) (lv' := [(2, .int 8), (0, .ref ob), (1, .int a1)]) hx hb dX9_feedNumber_40 hl (k := 0) rfl (by decide) (by decide) rfl (fun ls hl => ?_)
  refine lv_goto (tgt := 3) hx hb dX9_feedNumber_43 (by decide) ?_
  refine lv_iload_n hx hb dX9_feedNumber_3 rfl (lv_at hl 0 rfl) ?_
  refine lv_if_lt (tgt := 46) hx hb dX9_feedNumber_4 (by decide) (fun c9 => absurd c9 (by decide)) (fun _ => ?_)
  refine lv_aload_n hx hb dX9_feedNumber_7 rfl (lv_at hl 1 rfl) ?_
  refine va_get (D := G) (ci := 9) (v := .int (nI (tz + 1 + 1))) (C := RX9) (T := TX9) (N := 10) hx hb hw0 inA_wsX90 hown hK.1 hP 0 rfl rfl 1 (by decide) (hw0 _ m_216) (fun _ h9 => h9) rfl dX9_feedNumber_8 ?_
  refine lv_sipush (v := 1400) hx hb dX9_feedNumber_11 (by decide) ?_
  refine lv_icmp_ge (tgt := 46) hx hb dX9_feedNumber_14 (by decide) (fun c9 => absurd c9 (nI_ge (a := tz + 1 + 1) (b := 1400) (by omega) (by omega))) (fun _ => ?_)
  refine lv_aload_n hx hb dX9_feedNumber_17 rfl (lv_at hl 1 rfl) ?_
  refine va_get (D := G) (ci := 9) (v := .ref tp) (C := RX9) (T := TX9) (N := 10) hx hb hw0 inA_wsX90 hown hK.1 hP 0 rfl rfl 0 (by decide) (hw0 _ m_100) (fun _ h9 => h9) rfl dX9_feedNumber_18 ?_
  refine lv_aload_n hx hb dX9_feedNumber_21 rfl (lv_at hl 1 rfl) ?_
  refine va_get (D := G) (ci := 9) (v := .int (nI (tz + 1 + 1))) (C := RX9) (T := TX9) (N := 10) hx hb hw0 inA_wsX90 hown hK.1 hP 0 rfl rfl 1 (by decide) (hw0 _ m_216) (fun _ h9 => h9) rfl dX9_feedNumber_22 ?_
  refine lv_iload_n hx hb dX9_feedNumber_25 rfl (lv_at hl 2 rfl) ?_
  refine lv_iload_n hx hb dX9_feedNumber_26 rfl (lv_at hl 0 rfl) ?_
  refine lv_ishr hx hb dX9_feedNumber_27 ?_
  refine lv_topi (fun v_9 ev_9 => ?_)
  refine lv_i2b hx hb dX9_feedNumber_28 rfl ?_
  refine lv_topi (fun v_10 ev_10 => ?_)
  refine va_bast hx hb hK.1 hP hD hS 1 0 rfl rfl (vp_in_nI (n := tz + 1 + 1) (N := 1400) (by omega) (by decide)) dX9_feedNumber_29 (fun H locs hP hD hS => ?_)
  generalize (upd f_7 ((nI (tz + 1 + 1)) : Int32).toNatClampNeg (vp_nar .byte v_10)) = f_11 at hP hD
  have hP : va_P G vwCl [(ob, .inr (9, [.ref tp, .int (nI (tz + 1 + 1)), .ref rd, .ref sa, .ref im, .ref sl, .ref ro, .ref wy, .ref od, .ref ok])), (tp, .inl (y 0, 1400, .inl f_11))] H := hP
  have hD : va_D A [(ob, .inr (9, [.ref tp, .int (nI (tz + 1 + 1)), .ref rd, .ref sa, .ref im, .ref sl, .ref ro, .ref wy, .ref od, .ref ok])), (tp, .inl (y 0, 1400, .inl f_11))] := hD
  refine lv_aload_n hx hb dX9_feedNumber_30 rfl (lv_at hl 1 rfl) ?_
  refine lv_dup hx hb dX9_feedNumber_31 rfl ?_
  refine va_get (D := G) (ci := 9) (v := .int (nI (tz + 1 + 1))) (C := RX9) (T := TX9) (N := 10) hx hb hw0 inA_wsX90 hown hK.1 hP 0 rfl rfl 1 (by decide) (hw0 _ m_216) (fun _ h9 => h9) rfl dX9_feedNumber_32 ?_
  refine lv_iconst (v := 1) hx hb dX9_feedNumber_35 (by decide) ?_
  refine lv_iadd hx hb dX9_feedNumber_36 ?_
  refine lv_topi (fun v_12 ev_12 => ?_)
  obtain rfl : (nI (tz + 1 + 1 + 1)) = v_12 := (ev_12.trans (nI_add (tz + 1 + 1) (1))).symm
  refine va_put (D := G) (ci := 9) (v := .int (nI (tz + 1 + 1 + 1))) (ty := .int) (C := RX9) (T := TX9) (N := 10) hx hb hw0 inA_wsX90 tyX9 tyX9_ok nmX9 hown hK.1 hP hD hS 0 rfl rfl 1 (by decide) (hw0 _ m_216) (fun _ h9 => h9) rfl (by decide +kernel) rfl rfl (Nat.le_of_ble_eq_true rfl) dX9_feedNumber_37 (fun H locs hP hD hS => ?_)
  have hP : va_P G vwCl [(ob, .inr (9, [.ref tp, .int (nI (tz + 1 + 1 + 1)), .ref rd, .ref sa, .ref im, .ref sl, .ref ro, .ref wy, .ref od, .ref ok])), (tp, .inl (y 0, 1400, .inl f_11))] H := hP
  have hD : va_D A [(ob, .inr (9, [.ref tp, .int (nI (tz + 1 + 1 + 1)), .ref rd, .ref sa, .ref im, .ref sl, .ref ro, .ref wy, .ref od, .ref ok])), (tp, .inl (y 0, 1400, .inl f_11))] := hD
  refine lv_iinc (v := 0) (lv' := [(2, .int 0), (0, .ref ob), (1, .int a1)]) hx hb dX9_feedNumber_40 hl (k := 0) rfl (by decide) (by decide) rfl (fun ls hl => ?_)
  refine lv_goto (tgt := 3) hx hb dX9_feedNumber_43 (by decide) ?_
  refine lv_iload_n hx hb dX9_feedNumber_3 rfl (lv_at hl 0 rfl) ?_
  refine lv_if_lt (tgt := 46) hx hb dX9_feedNumber_4 (by decide) (fun c9 => absurd c9 (by decide)) (fun _ => ?_)
  refine lv_aload_n hx hb dX9_feedNumber_7 rfl (lv_at hl 1 rfl) ?_
  refine va_get (D := G) (ci := 9) (v := .int (nI (tz + 1 + 1 + 1))) (C := RX9) (T := TX9) (N := 10) hx hb hw0 inA_wsX90 hown hK.1 hP 0 rfl rfl 1 (by decide) (hw0 _ m_216) (fun _ h9 => h9) rfl dX9_feedNumber_8 ?_
  refine lv_sipush (v := 1400) hx hb dX9_feedNumber_11 (by decide) ?_
  refine lv_icmp_ge (tgt := 46) hx hb dX9_feedNumber_14 (by decide) (fun c9 => absurd c9 (nI_ge (a := tz + 1 + 1 + 1) (b := 1400) (by omega) (by omega))) (fun _ => ?_)
  refine lv_aload_n hx hb dX9_feedNumber_17 rfl (lv_at hl 1 rfl) ?_
  refine va_get (D := G) (ci := 9) (v := .ref tp) (C := RX9) (T := TX9) (N := 10) hx hb hw0 inA_wsX90 hown hK.1 hP 0 rfl rfl 0 (by decide) (hw0 _ m_100) (fun _ h9 => h9) rfl dX9_feedNumber_18 ?_
  refine lv_aload_n hx hb dX9_feedNumber_21 rfl (lv_at hl 1 rfl) ?_
  refine va_get (D := G) (ci := 9) (v := .int (nI (tz + 1 + 1 + 1))) (C := RX9) (T := TX9) (N := 10) hx hb hw0 inA_wsX90 hown hK.1 hP 0 rfl rfl 1 (by decide) (hw0 _ m_216) (fun _ h9 => h9) rfl dX9_feedNumber_22 ?_
  refine lv_iload_n hx hb dX9_feedNumber_25 rfl (lv_at hl 2 rfl) ?_
  refine lv_iload_n hx hb dX9_feedNumber_26 rfl (lv_at hl 0 rfl) ?_
  refine lv_ishr hx hb dX9_feedNumber_27 ?_
  refine lv_topi (fun v_13 ev_13 => ?_)
  refine lv_i2b hx hb dX9_feedNumber_28 rfl ?_
  refine lv_topi (fun v_14 ev_14 => ?_)
  refine va_bast hx hb hK.1 hP hD hS 1 0 rfl rfl (vp_in_nI (n := tz + 1 + 1 + 1) (N := 1400) (by omega) (by decide)) dX9_feedNumber_29 (fun H locs hP hD hS => ?_)
  generalize (upd f_11 ((nI (tz + 1 + 1 + 1)) : Int32).toNatClampNeg (vp_nar .byte v_14)) = f_15 at hP hD
  have hP : va_P G vwCl [(ob, .inr (9, [.ref tp, .int (nI (tz + 1 + 1 + 1)), .ref rd, .ref sa, .ref im, .ref sl, .ref ro, .ref wy, .ref od, .ref ok])), (tp, .inl (y 0, 1400, .inl f_15))] H := hP
  have hD : va_D A [(ob, .inr (9, [.ref tp, .int (nI (tz + 1 + 1 + 1)), .ref rd, .ref sa, .ref im, .ref sl, .ref ro, .ref wy, .ref od, .ref ok])), (tp, .inl (y 0, 1400, .inl f_15))] := hD
  refine lv_aload_n hx hb dX9_feedNumber_30 rfl (lv_at hl 1 rfl) ?_
  refine lv_dup hx hb dX9_feedNumber_31 rfl ?_
  refine va_get (D := G) (ci := 9) (v := .int (nI (tz + 1 + 1 + 1))) (C := RX9) (T := TX9) (N := 10) hx hb hw0 inA_wsX90 hown hK.1 hP 0 rfl rfl 1 (by decide) (hw0 _ m_216) (fun _ h9 => h9) rfl dX9_feedNumber_32 ?_
  refine lv_iconst (v := 1) hx hb dX9_feedNumber_35 (by decide) ?_
  refine lv_iadd hx hb dX9_feedNumber_36 ?_
  refine lv_topi (fun v_16 ev_16 => ?_)
  obtain rfl : (nI (tz + 1 + 1 + 1 + 1)) = v_16 := (ev_16.trans (nI_add (tz + 1 + 1 + 1) (1))).symm
  refine va_put (D := G) (ci := 9) (v := .int (nI (tz + 1 + 1 + 1 + 1))) (ty := .int) (C := RX9) (T := TX9) (N := 10) hx hb hw0 inA_wsX90 tyX9 tyX9_ok nmX9 hown hK.1 hP hD hS 0 rfl rfl 1 (by decide) (hw0 _ m_216) (fun _ h9 => h9) rfl (by decide +kernel) rfl rfl (Nat.le_of_ble_eq_true rfl) dX9_feedNumber_37 (fun H locs hP hD hS => ?_)
  have hP : va_P G vwCl [(ob, .inr (9, [.ref tp, .int (nI (tz + 1 + 1 + 1 + 1)), .ref rd, .ref sa, .ref im, .ref sl, .ref ro, .ref wy, .ref od, .ref ok])), (tp, .inl (y 0, 1400, .inl f_15))] H := hP
  have hD : va_D A [(ob, .inr (9, [.ref tp, .int (nI (tz + 1 + 1 + 1 + 1)), .ref rd, .ref sa, .ref im, .ref sl, .ref ro, .ref wy, .ref od, .ref ok])), (tp, .inl (y 0, 1400, .inl f_15))] := hD
  refine lv_iinc (v := (-8)) (lv' := [(2, .int (-8)), (0, .ref ob), (1, .int a1)]) hx hb dX9_feedNumber_40 hl (k := 0) rfl (by decide) (by decide) rfl (fun ls hl => ?_)
  refine lv_goto (tgt := 3) hx hb dX9_feedNumber_43 (by decide) ?_
  refine lv_iload_n hx hb dX9_feedNumber_3 rfl (lv_at hl 0 rfl) ?_
  refine lv_if_lt (tgt := 46) hx hb dX9_feedNumber_4 (by decide) (fun _ => ?_) (fun c9 => absurd (by decide) c9)
  refine W.widen (k := 0) (n := 0) (Nat.le_of_ble_eq_true rfl) (Nat.le_of_ble_eq_true rfl) ?_
  exact W.vret hx hb hr (fun t ht hW => ⟨⟨([(ob, .inr (9, [.ref tp, .int (nI (tz + 1 + 1 + 1 + 1)), .ref rd, .ref sa, .ref im, .ref sl, .ref ro, .ref wy, .ref od, .ref ok])), (tp, .inl (y 0, 1400, .inl f_15))] : va_W), rfl, ⟨_, rfl⟩, by rw [ht]; exact hP, hD⟩, hS.F ht⟩) hS.2.2 dX9_feedNumber_46

set_option maxHeartbeats 4000000 in
set_option maxRecDepth 100000 in
theorem kX9_feed (l : Launch) (G : va_G) (y : Nat → ClassId) (sz : Nat) (ob : Nat) (a1 : Int32) (a2 : Int32) (a3 : Int32) (a4 : Int32) (a5 : Int32) (tp : Nat) (rd : Nat) (sa : Nat) (im : Nat) (sl : Nat) (ro : Nat) (wy : Nat) (od : Nat) (ok : Nat) (f0 : Nat → Int32)  : Met l yX9_feed (Cond.code yX9_feed cX9_feed 6 (some .int) :: wAll) ({ frames := 1, cells := 0, slots := 0, locals := 22 }) (va_Pc [.ref ob, .int a1, .int a2, .int a3, .int a4, .int a5] (kp G y sz [(ob, .inr (9, [.ref tp, .int 0, .ref rd, .ref sa, .ref im, .ref sl, .ref ro, .ref wy, .ref od, .ref ok])), (tp, .inl (y 0, 1400, .inl f0))])) (va_Qi (fun (r : Int32) (_ : va_W) => r = 20) (kq G (va_A [(ob, .inr (9, [.ref tp, .int 0, .ref rd, .ref sa, .ref im, .ref sl, .ref ro, .ref wy, .ref od, .ref ok])), (tp, .inl (y 0, 1400, .inl f0))] sz)) (va_A [(ob, .inr (9, [.ref tp, .int 0, .ref rd, .ref sa, .ref im, .ref sl, .ref ro, .ref wy, .ref od, .ref ok])), (tp, .inl (y 0, 1400, .inl f0))] sz)) 0 0 (va_A [(ob, .inr (9, [.ref tp, .int 0, .ref rd, .ref sa, .ref im, .ref sl, .ref ro, .ref wy, .ref od, .ref ok])), (tp, .inl (y 0, 1400, .inl f0))] sz) := by
  refine Met.ofW (cc := cX9_feed) (maxL := 6) (ret := (some .int)) (by decide) rfl ?_
  intro p e s m args below meth c s₁ B hml hv
  obtain ⟨rfl, hsz, hP, hK, hD0⟩ := hv
  have hx := B.exec
  have hb := B.bytes
  have hr := B.returns
  have hw0 : ∀ w ∈ wAll, w.before _ s = true := fun w h => atoms_spec (ws := Cond.code yX9_feed cX9_feed 6 (some .int) :: wAll) B.pre w (List.mem_cons_of_mem _ h)
  have hown : s.vm.findClass RX9 = some m.cls := findClass_of_methodNamed B.named
  have hlocks := B.notSynchronized
  subst hsz
  have hD := hD0.self (sz := s.heap.size)
  generalize hAe : va_A [(ob, .inr (9, [.ref tp, .int 0, .ref rd, .ref sa, .ref im, .ref sl, .ref ro, .ref wy, .ref od, .ref ok])), (tp, .inl (y 0, 1400, .inl f0))] s.heap.size = A at hD ⊢
  have hA : ∀ q : Nat, s.heap.size ≤ q → A q := fun q h => by rw [← hAe]; exact Or.inr h
  have hS : va_S A s.heap s.heap [] := va_S.rf
  have hP : va_P G vwCl [(ob, .inr (9, [.ref tp, .int 0, .ref rd, .ref sa, .ref im, .ref sl, .ref ro, .ref wy, .ref od, .ref ok])), (tp, .inl (y 0, 1400, .inl f0))] s.heap := hP
  have hl := lv_entry ([.ref ob, .int a1, .int a2, .int a3, .int a4, .int a5]) (n := 6) (Nat.le_of_ble_eq_true rfl)
  rw [lg_entry_eq]
  generalize (lg_sl ([.ref ob, .int a1, .int a2, .int a3, .int a4, .int a5]) ++ List.replicate (6 - (lg_sl ([.ref ob, .int a1, .int a2, .int a3, .int a4, .int a5])).length) Slot.unset).toArray = ls at hl ⊢
  have hl : lv_has ls 6 [(0, .ref ob), (1, .int a1), (2, .int a2), (3, .int a3), (4, .int a4), (5, .int a5)] := hl
  refine lv_aload_n hx hb dX9_feed_0 rfl (lv_at hl 0 rfl) ?_
  refine va_get (D := G) (ci := 9) (v := .int 0) (C := RX9) (T := TX9) (N := 10) hx hb hw0 inA_wsX90 hown hK.1 hP 0 rfl rfl 1 (by decide) (hw0 _ m_216) (fun _ h9 => h9) rfl dX9_feed_1 ?_
  refine lv_bipush (v := 20) hx hb dX9_feed_4 (by decide) ?_
  refine lv_iadd hx hb dX9_feed_6 ?_
  refine lv_topi (fun v_1 ev_1 => ?_)
  obtain rfl : 20 = v_1 := (ev_1.trans (by decide)).symm
  refine lv_sipush (v := 1400) hx hb dX9_feed_7 (by decide) ?_
  refine lv_icmp_le (tgt := 15) hx hb dX9_feed_10 (by decide) (fun _ => ?_) (fun c9 => absurd (by decide) c9)
  refine lv_aload_n hx hb dX9_feed_15 rfl (lv_at hl 0 rfl) ?_
  refine lv_iload_n hx hb dX9_feed_16 rfl (lv_at hl 1 rfl) ?_
  refine cVv (As := [.int a1]) (rest := []) ⟨hx, hb, hml, hown, hw0⟩ hA hK hP hD hS [0, 1] [] [(ob, .inr (9, [.ref tp, .int 0, .ref rd, .ref sa, .ref im, .ref sl, .ref ro, .ref wy, .ref od, .ref ok])), (tp, .inl (y 0, 1400, .inl f0))] [] rfl rfl (by decide) (by decide) (by decide) (kX9_feedNumber l G y _ ob a1 tp 0 rd sa im sl ro wy od ok f0 (by omega)) ⟨(callB_of 1 hw0 (gA m_250) rfl rfl rfl (hw0 _ m_183) (hw0 _ m_251) (by decide +kernel) ⟨Nat.le_of_ble_eq_true rfl, Nat.le_of_ble_eq_true rfl⟩), (hw0 _ m_252), (hw0 _ m_253)⟩ (ci := 9) (q := (RX9, TX9, 10)) rfl rfl rfl hl.1 (Nat.le_of_ble_eq_true rfl) dX9_feed_17 ⟨Nat.le_of_ble_eq_true rfl, Nat.le_of_ble_eq_true rfl⟩ (fun w_2 H locs hw_2 hP hD hS => ?_)
  obtain ⟨f_3, rfl⟩ := hw_2
  have hP : va_P G vwCl [(ob, .inr (9, [.ref tp, .int (nI (4)), .ref rd, .ref sa, .ref im, .ref sl, .ref ro, .ref wy, .ref od, .ref ok])), (tp, .inl (y 0, 1400, .inl f_3))] H := hP
  have hD : va_D A [(ob, .inr (9, [.ref tp, .int (nI (4)), .ref rd, .ref sa, .ref im, .ref sl, .ref ro, .ref wy, .ref od, .ref ok])), (tp, .inl (y 0, 1400, .inl f_3))] := hD
  refine lv_aload_n hx hb dX9_feed_20 rfl (lv_at hl 0 rfl) ?_
  refine lv_iload_n hx hb dX9_feed_21 rfl (lv_at hl 2 rfl) ?_
  refine cVv (As := [.int a2]) (rest := []) ⟨hx, hb, hml, hown, hw0⟩ hA hK hP hD hS [0, 1] [] [(ob, .inr (9, [.ref tp, .int (nI (4)), .ref rd, .ref sa, .ref im, .ref sl, .ref ro, .ref wy, .ref od, .ref ok])), (tp, .inl (y 0, 1400, .inl f_3))] [] rfl rfl (by decide) (by decide) (by decide) (kX9_feedNumber l G y _ ob a2 tp 4 rd sa im sl ro wy od ok f_3 (by omega)) ⟨(callB_of 1 hw0 (gA m_250) rfl rfl rfl (hw0 _ m_183) (hw0 _ m_251) (by decide +kernel) ⟨Nat.le_of_ble_eq_true rfl, Nat.le_of_ble_eq_true rfl⟩), (hw0 _ m_252), (hw0 _ m_253)⟩ (ci := 9) (q := (RX9, TX9, 10)) rfl rfl rfl hl.1 (Nat.le_of_ble_eq_true rfl) dX9_feed_22 ⟨Nat.le_of_ble_eq_true rfl, Nat.le_of_ble_eq_true rfl⟩ (fun w_4 H locs hw_4 hP hD hS => ?_)
  obtain ⟨f_5, rfl⟩ := hw_4
  have hP : va_P G vwCl [(ob, .inr (9, [.ref tp, .int (nI (8)), .ref rd, .ref sa, .ref im, .ref sl, .ref ro, .ref wy, .ref od, .ref ok])), (tp, .inl (y 0, 1400, .inl f_5))] H := hP
  have hD : va_D A [(ob, .inr (9, [.ref tp, .int (nI (8)), .ref rd, .ref sa, .ref im, .ref sl, .ref ro, .ref wy, .ref od, .ref ok])), (tp, .inl (y 0, 1400, .inl f_5))] := hD
  refine lv_aload_n hx hb dX9_feed_25 rfl (lv_at hl 0 rfl) ?_
  refine lv_iload_n hx hb dX9_feed_26 rfl (lv_at hl 3 rfl) ?_
  refine cVv (As := [.int a3]) (rest := []) ⟨hx, hb, hml, hown, hw0⟩ hA hK hP hD hS [0, 1] [] [(ob, .inr (9, [.ref tp, .int (nI (8)), .ref rd, .ref sa, .ref im, .ref sl, .ref ro, .ref wy, .ref od, .ref ok])), (tp, .inl (y 0, 1400, .inl f_5))] [] rfl rfl (by decide) (by decide) (by decide) (kX9_feedNumber l G y _ ob a3 tp 8 rd sa im sl ro wy od ok f_5 (by omega)) ⟨(callB_of 1 hw0 (gA m_250) rfl rfl rfl (hw0 _ m_183) (hw0 _ m_251) (by decide +kernel) ⟨Nat.le_of_ble_eq_true rfl, Nat.le_of_ble_eq_true rfl⟩), (hw0 _ m_252), (hw0 _ m_253)⟩ (ci := 9) (q := (RX9, TX9, 10)) rfl rfl rfl hl.1 (Nat.le_of_ble_eq_true rfl) dX9_feed_27 ⟨Nat.le_of_ble_eq_true rfl, Nat.le_of_ble_eq_true rfl⟩ (fun w_6 H locs hw_6 hP hD hS => ?_)
  obtain ⟨f_7, rfl⟩ := hw_6
  have hP : va_P G vwCl [(ob, .inr (9, [.ref tp, .int (nI (12)), .ref rd, .ref sa, .ref im, .ref sl, .ref ro, .ref wy, .ref od, .ref ok])), (tp, .inl (y 0, 1400, .inl f_7))] H := hP
  have hD : va_D A [(ob, .inr (9, [.ref tp, .int (nI (12)), .ref rd, .ref sa, .ref im, .ref sl, .ref ro, .ref wy, .ref od, .ref ok])), (tp, .inl (y 0, 1400, .inl f_7))] := hD
  refine lv_aload_n hx hb dX9_feed_30 rfl (lv_at hl 0 rfl) ?_
  refine lv_iload hx hb dX9_feed_31 (lv_at hl 4 rfl) ?_
  refine cVv (As := [.int a4]) (rest := []) ⟨hx, hb, hml, hown, hw0⟩ hA hK hP hD hS [0, 1] [] [(ob, .inr (9, [.ref tp, .int (nI (12)), .ref rd, .ref sa, .ref im, .ref sl, .ref ro, .ref wy, .ref od, .ref ok])), (tp, .inl (y 0, 1400, .inl f_7))] [] rfl rfl (by decide) (by decide) (by decide) (kX9_feedNumber l G y _ ob a4 tp 12 rd sa im sl ro wy od ok f_7 (by omega)) ⟨(callB_of 1 hw0 (gA m_250) rfl rfl rfl (hw0 _ m_183) (hw0 _ m_251) (by decide +kernel) ⟨Nat.le_of_ble_eq_true rfl, Nat.le_of_ble_eq_true rfl⟩), (hw0 _ m_252), (hw0 _ m_253)⟩ (ci := 9) (q := (RX9, TX9, 10)) rfl rfl rfl hl.1 (Nat.le_of_ble_eq_true rfl) dX9_feed_33 ⟨Nat.le_of_ble_eq_true rfl, Nat.le_of_ble_eq_true rfl⟩ (fun w_8 H locs hw_8 hP hD hS => ?_)
  obtain ⟨f_9, rfl⟩ := hw_8
  have hP : va_P G vwCl [(ob, .inr (9, [.ref tp, .int (nI (16)), .ref rd, .ref sa, .ref im, .ref sl, .ref ro, .ref wy, .ref od, .ref ok])), (tp, .inl (y 0, 1400, .inl f_9))] H := hP
  have hD : va_D A [(ob, .inr (9, [.ref tp, .int (nI (16)), .ref rd, .ref sa, .ref im, .ref sl, .ref ro, .ref wy, .ref od, .ref ok])), (tp, .inl (y 0, 1400, .inl f_9))] := hD
  refine lv_aload_n hx hb dX9_feed_36 rfl (lv_at hl 0 rfl) ?_
  refine lv_iload hx hb dX9_feed_37 (lv_at hl 5 rfl) ?_
  refine cVv (As := [.int a5]) (rest := []) ⟨hx, hb, hml, hown, hw0⟩ hA hK hP hD hS [0, 1] [] [(ob, .inr (9, [.ref tp, .int (nI (16)), .ref rd, .ref sa, .ref im, .ref sl, .ref ro, .ref wy, .ref od, .ref ok])), (tp, .inl (y 0, 1400, .inl f_9))] [] rfl rfl (by decide) (by decide) (by decide) (kX9_feedNumber l G y _ ob a5 tp 16 rd sa im sl ro wy od ok f_9 (by omega)) ⟨(callB_of 1 hw0 (gA m_250) rfl rfl rfl (hw0 _ m_183) (hw0 _ m_251) (by decide +kernel) ⟨Nat.le_of_ble_eq_true rfl, Nat.le_of_ble_eq_true rfl⟩), (hw0 _ m_252), (hw0 _ m_253)⟩ (ci := 9) (q := (RX9, TX9, 10)) rfl rfl rfl hl.1 (Nat.le_of_ble_eq_true rfl) dX9_feed_39 ⟨Nat.le_of_ble_eq_true rfl, Nat.le_of_ble_eq_true rfl⟩ (fun w_10 H locs hw_10 hP hD hS => ?_)
  obtain ⟨f_11, rfl⟩ := hw_10
  have hP : va_P G vwCl [(ob, .inr (9, [.ref tp, .int (nI (20)), .ref rd, .ref sa, .ref im, .ref sl, .ref ro, .ref wy, .ref od, .ref ok])), (tp, .inl (y 0, 1400, .inl f_11))] H := hP
  have hD : va_D A [(ob, .inr (9, [.ref tp, .int (nI (20)), .ref rd, .ref sa, .ref im, .ref sl, .ref ro, .ref wy, .ref od, .ref ok])), (tp, .inl (y 0, 1400, .inl f_11))] := hD
  refine lv_aload_n hx hb dX9_feed_42 rfl (lv_at hl 0 rfl) ?_
  refine va_get (D := G) (ci := 9) (v := .int (nI (20))) (C := RX9) (T := TX9) (N := 10) hx hb hw0 inA_wsX90 hown hK.1 hP 0 rfl rfl 1 (by decide) (hw0 _ m_216) (fun _ h9 => h9) rfl dX9_feed_43 ?_
  refine W.widen (k := 0) (n := 0) (Nat.le_of_ble_eq_true rfl) (Nat.le_of_ble_eq_true rfl) ?_
  exact W.iret (v := (nI (20))) hx hb hr (fun t ht hW => ⟨⟨(nI (20)), _, rfl, rfl, by rw [ht]; exact hP, hD⟩, hS.F ht⟩) hS.2.2 dX9_feed_46
