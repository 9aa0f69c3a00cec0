set_option maxHeartbeats 4000000 in
set_option maxRecDepth 100000 in
theorem kX6_followCalls (l : Launch) (G : va_G) (y : Nat → ClassId) (sz : Nat) (sa : Nat) (tw : Nat) (co : Nat) (de : Nat) (dd : Nat) (kn : Nat) (fo : Nat) (dd_1 : Value) (dd_2 : Value) (dd_3 : Value) (dd_4 : Value) (f0 : Nat → Int32)  : Met l yX6_followCalls (Cond.code yX6_followCalls cX6_followCalls 3 none :: wAll) ({ frames := 0, cells := 0, slots := 0, locals := 0 }) (va_Pc [.ref sa] (kp G y sz [(sa, .inr (6, [.ref tw, .ref co, .ref de, .ref dd, .ref kn, .int 0, .int 0, .ref fo])), (dd, .inr (2, [.int 0, dd_1, dd_2, dd_3, dd_4])), (fo, .inl (y 1, 16, .inl f0))])) (va_Qv (fun (w : va_W) => (∃ (f_1 : Nat → Int32), w = [(sa, .inr (6, [.ref tw, .ref co, .ref de, .ref dd, .ref kn, .int 0, .int 0, .ref fo])), (dd, .inr (2, [.int 0, dd_1, dd_2, dd_3, dd_4])), (fo, .inl (y 1, 16, .inl f_1))])) (kq G (va_A [(sa, .inr (6, [.ref tw, .ref co, .ref de, .ref dd, .ref kn, .int 0, .int 0, .ref fo])), (dd, .inr (2, [.int 0, dd_1, dd_2, dd_3, dd_4])), (fo, .inl (y 1, 16, .inl f0))] sz)) (va_A [(sa, .inr (6, [.ref tw, .ref co, .ref de, .ref dd, .ref kn, .int 0, .int 0, .ref fo])), (dd, .inr (2, [.int 0, dd_1, dd_2, dd_3, dd_4])), (fo, .inl (y 1, 16, .inl f0))] sz)) 0 0 (va_A [(sa, .inr (6, [.ref tw, .ref co, .ref de, .ref dd, .ref kn, .int 0, .int 0, .ref fo])), (dd, .inr (2, [.int 0, dd_1, dd_2, dd_3, dd_4])), (fo, .inl (y 1, 16, .inl f0))] sz) := by
  refine Met.ofW (cc := cX6_followCalls) (maxL := 3) (ret := none) (by decide) rfl ?_
  intro p e s m args below meth c s₁ B hml hv
  obtain ⟨rfl, hsz, hP, hK, hD0⟩ := hv
  have hx := B.exec
  have hb := B.bytes
  have hr := B.returns
  have hw0 : ∀ w ∈ wAll, w.before _ s = true := fun w h => atoms_spec (ws := Cond.code yX6_followCalls cX6_followCalls 3 none :: wAll) B.pre w (List.mem_cons_of_mem _ h)
  have hown : s.vm.findClass RX6 = some m.cls := findClass_of_methodNamed B.named
  have hlocks := B.notSynchronized
  subst hsz
  have hD := hD0.self (sz := s.heap.size)
  generalize hAe : va_A [(sa, .inr (6, [.ref tw, .ref co, .ref de, .ref dd, .ref kn, .int 0, .int 0, .ref fo])), (dd, .inr (2, [.int 0, dd_1, dd_2, dd_3, dd_4])), (fo, .inl (y 1, 16, .inl f0))] s.heap.size = A at hD ⊢
  have hA : ∀ q : Nat, s.heap.size ≤ q → A q := fun q h => by rw [← hAe]; exact Or.inr h
  have hS : va_S A s.heap s.heap [] := va_S.rf
  have hP : va_P G vwCl [(sa, .inr (6, [.ref tw, .ref co, .ref de, .ref dd, .ref kn, .int 0, .int 0, .ref fo])), (dd, .inr (2, [.int 0, dd_1, dd_2, dd_3, dd_4])), (fo, .inl (y 1, 16, .inl f0))] s.heap := hP
  have hl := lv_entry ([.ref sa]) (n := 3) (Nat.le_of_ble_eq_true rfl)
  rw [lg_entry_eq]
  generalize (lg_sl ([.ref sa]) ++ List.replicate (3 - (lg_sl ([.ref sa])).length) Slot.unset).toArray = ls at hl ⊢
  have hl : lv_has ls 3 [(0, .ref sa)] := hl
  refine lv_iconst (v := 0) hx hb dX6_followCalls_0 (by decide) ?_
  refine lv_istore_n (lv' := [(1, .int 0), (0, .ref sa)]) hx hb dX6_followCalls_1 rfl hl (by decide) rfl (fun ls hl => ?_)
  refine loopW (σ := (Nat → Int32)) (fun n x H locs ls => ∃ i_2 : Nat, i_2 + n = 16 ∧ va_P G vwCl [(sa, .inr (6, [.ref tw, .ref co, .ref de, .ref dd, .ref kn, .int 0, .int 0, .ref fo])), (dd, .inr (2, [.int 0, dd_1, dd_2, dd_3, dd_4])), (fo, .inl (y 1, 16, .inl (x)))] H ∧ va_D A [(sa, .inr (6, [.ref tw, .ref co, .ref de, .ref dd, .ref kn, .int 0, .int 0, .ref fo])), (dd, .inr (2, [.int 0, dd_1, dd_2, dd_3, dd_4])), (fo, .inl (y 1, 16, .inl (x)))] ∧ va_S A s.heap H locs ∧ lv_has ls 3 [(1, .int (nI (i_2))), (0, .ref sa)]) ?_ ?_ 16 (f0) ⟨0, by omega, hP, hD, hS, lv_sub hl [0, 1] rfl⟩
  · rintro f_3 H locs ls ⟨i_5, hi9, hP, hD, hS, hl⟩
    obtain rfl : i_5 = 16 := by omega
    have hP : va_P G vwCl [(sa, .inr (6, [.ref tw, .ref co, .ref de, .ref dd, .ref kn, .int 0, .int 0, .ref fo])), (dd, .inr (2, [.int 0, dd_1, dd_2, dd_3, dd_4])), (fo, .inl (y 1, 16, .inl f_3))] H := hP
    have hD : va_D A [(sa, .inr (6, [.ref tw, .ref co, .ref de, .ref dd, .ref kn, .int 0, .int 0, .ref fo])), (dd, .inr (2, [.int 0, dd_1, dd_2, dd_3, dd_4])), (fo, .inl (y 1, 16, .inl f_3))] := hD
    have hl : lv_has ls 3 [(1, .int 16), (0, .ref sa)] := hl
    refine lv_iload_n hx hb dX6_followCalls_2 rfl (lv_at hl 0 rfl) ?_
    refine lv_bipush (v := 16) hx hb dX6_followCalls_3 (by decide) ?_
    refine lv_icmp_ge (tgt := 23) hx hb dX6_followCalls_5 (by decide) (fun _ => ?_) (fun c9 => absurd (by decide) c9)
    refine lv_iconst (v := 0) hx hb dX6_followCalls_23 (by decide) ?_
    refine lv_istore_n (lv' := [(1, .int 0), (0, .ref sa)]) hx hb dX6_followCalls_24 rfl hl (by decide) rfl (fun ls hl => ?_)
    refine lv_iload_n hx hb dX6_followCalls_25 rfl (lv_at hl 0 rfl) ?_
    refine lv_aload_n hx hb dX6_followCalls_26 rfl (lv_at hl 1 rfl) ?_
    refine va_get (D := G) (ci := 6) (v := .ref dd) (C := RX6) (T := TX6) (N := 8) hx hb hw0 inA_wsX60 hown hK.1 hP 0 rfl rfl 3 (by decide) (hw0 _ m_94) (fun _ h9 => h9) rfl dX6_followCalls_27 ?_
    refine va_get (D := G) (ci := 2) (v := .int 0) (C := RX2) (T := TX2) (N := 5) hx hb hw0 inA_wsX20 hown hK.1 hP 1 rfl rfl 0 (by decide) (hw0 _ m_255) (fun _ h9 => h9) rfl dX6_followCalls_30 ?_
    refine lv_icmp_ge (tgt := 96) hx hb dX6_followCalls_33 (by decide) (fun _ => ?_) (fun c9 => absurd (by decide) c9)
    refine lv_iconst (v := 0) hx hb dX6_followCalls_96 (by decide) ?_
    refine lv_istore_n (lv' := [(1, .int 0), (0, .ref sa)]) hx hb dX6_followCalls_97 rfl hl (by decide) rfl (fun ls hl => ?_)
    refine loopW (σ := (Nat → Int32)) (fun n x H locs ls => ∃ i_8 : Nat, i_8 + n = 16 ∧ va_P G vwCl [(sa, .inr (6, [.ref tw, .ref co, .ref de, .ref dd, .ref kn, .int 0, .int 0, .ref fo])), (dd, .inr (2, [.int 0, dd_1, dd_2, dd_3, dd_4])), (fo, .inl (y 1, 16, .inl (x)))] H ∧ va_D A [(sa, .inr (6, [.ref tw, .ref co, .ref de, .ref dd, .ref kn, .int 0, .int 0, .ref fo])), (dd, .inr (2, [.int 0, dd_1, dd_2, dd_3, dd_4])), (fo, .inl (y 1, 16, .inl (x)))] ∧ va_S A s.heap H locs ∧ lv_has ls 3 [(1, .int (nI (i_8))), (0, .ref sa)]) ?_ ?_ 16 (f_3) ⟨0, by omega, hP, hD, hS, lv_sub hl [0, 1] rfl⟩
    · rintro f_9 H locs ls ⟨i_11, hi9, hP, hD, hS, hl⟩
      obtain rfl : i_11 = 16 := by omega
      have hP : va_P G vwCl [(sa, .inr (6, [.ref tw, .ref co, .ref de, .ref dd, .ref kn, .int 0, .int 0, .ref fo])), (dd, .inr (2, [.int 0, dd_1, dd_2, dd_3, dd_4])), (fo, .inl (y 1, 16, .inl f_9))] H := hP
      have hD : va_D A [(sa, .inr (6, [.ref tw, .ref co, .ref de, .ref dd, .ref kn, .int 0, .int 0, .ref fo])), (dd, .inr (2, [.int 0, dd_1, dd_2, dd_3, dd_4])), (fo, .inl (y 1, 16, .inl f_9))] := hD
      have hl : lv_has ls 3 [(1, .int 16), (0, .ref sa)] := hl
      refine lv_iload_n hx hb dX6_followCalls_98 rfl (lv_at hl 0 rfl) ?_
      refine lv_bipush (v := 16) hx hb dX6_followCalls_99 (by decide) ?_
      refine lv_icmp_ge (tgt := 153) hx hb dX6_followCalls_101 (by decide) (fun _ => ?_) (fun c9 => absurd (by decide) c9)
      refine W.widen (k := 0) (n := 0) (Nat.le_of_ble_eq_true rfl) (Nat.le_of_ble_eq_true rfl) ?_
      exact W.vret hx hb hr (fun t ht hW => ⟨⟨([(sa, .inr (6, [.ref tw, .ref co, .ref de, .ref dd, .ref kn, .int 0, .int 0, .ref fo])), (dd, .inr (2, [.int 0, dd_1, dd_2, dd_3, dd_4])), (fo, .inl (y 1, 16, .inl f_9))] : va_W), rfl, ⟨_, rfl⟩, by rw [ht]; exact hP, hD⟩, hS.F ht⟩) hS.2.2 dX6_followCalls_153
    · rintro n_14 ih_16 f_13 H locs ls ⟨i_15, hi_i_15, hP, hD, hS, hl⟩
      have hb_i_15 : i_15 < 16 := by omega
      have hP : va_P G vwCl [(sa, .inr (6, [.ref tw, .ref co, .ref de, .ref dd, .ref kn, .int 0, .int 0, .ref fo])), (dd, .inr (2, [.int 0, dd_1, dd_2, dd_3, dd_4])), (fo, .inl (y 1, 16, .inl f_13))] H := hP
      have hD : va_D A [(sa, .inr (6, [.ref tw, .ref co, .ref de, .ref dd, .ref kn, .int 0, .int 0, .ref fo])), (dd, .inr (2, [.int 0, dd_1, dd_2, dd_3, dd_4])), (fo, .inl (y 1, 16, .inl f_13))] := hD
      have hl : lv_has ls 3 [(1, .int (nI (i_15))), (0, .ref sa)] := hl
      refine lv_iload_n hx hb dX6_followCalls_98 rfl (lv_at hl 0 rfl) ?_
      refine lv_bipush (v := 16) hx hb dX6_followCalls_99 (by decide) ?_
      refine lv_icmp_ge (tgt := 153) hx hb dX6_followCalls_101 (by decide) (fun c9 => absurd c9 (nI_ge (a := i_15) (b := 16) (by omega) (by omega))) (fun _ => ?_)
      refine lv_iconst (v := 0) hx hb dX6_followCalls_104 (by decide) ?_
      refine lv_istore_n (lv' := [(2, .int 0), (1, .int (nI (i_15))), (0, .ref sa)]) hx hb dX6_followCalls_105 rfl hl (by decide) rfl (fun ls hl => ?_)
      refine loopW (σ := (Nat → Int32)) (fun n x H locs ls => ∃ i_18 : Nat, i_18 + n = 16 ∧ va_P G vwCl [(sa, .inr (6, [.ref tw, .ref co, .ref de, .ref dd, .ref kn, .int 0, .int 0, .ref fo])), (dd, .inr (2, [.int 0, dd_1, dd_2, dd_3, dd_4])), (fo, .inl (y 1, 16, .inl (x)))] H ∧ va_D A [(sa, .inr (6, [.ref tw, .ref co, .ref de, .ref dd, .ref kn, .int 0, .int 0, .ref fo])), (dd, .inr (2, [.int 0, dd_1, dd_2, dd_3, dd_4])), (fo, .inl (y 1, 16, .inl (x)))] ∧ va_S A s.heap H locs ∧ lv_has ls 3 [(2, .int (nI (i_18))), (1, .int (nI (i_15))), (0, .ref sa)]) ?_ ?_ 16 (f_13) ⟨0, by omega, hP, hD, hS, lv_sub hl [0, 1, 2] rfl⟩
      · rintro f_19 H locs ls ⟨i_21, hi9, hP, hD, hS, hl⟩
        obtain rfl : i_21 = 16 := by omega
        have hP : va_P G vwCl [(sa, .inr (6, [.ref tw, .ref co, .ref de, .ref dd, .ref kn, .int 0, .int 0, .ref fo])), (dd, .inr (2, [.int 0, dd_1, dd_2, dd_3, dd_4])), (fo, .inl (y 1, 16, .inl f_19))] H := hP
        have hD : va_D A [(sa, .inr (6, [.ref tw, .ref co, .ref de, .ref dd, .ref kn, .int 0, .int 0, .ref fo])), (dd, .inr (2, [.int 0, dd_1, dd_2, dd_3, dd_4])), (fo, .inl (y 1, 16, .inl f_19))] := hD
        have hl : lv_has ls 3 [(2, .int 16), (1, .int (nI (i_15))), (0, .ref sa)] := hl
        refine lv_iload_n hx hb dX6_followCalls_106 rfl (lv_at hl 0 rfl) ?_
        refine lv_bipush (v := 16) hx hb dX6_followCalls_107 (by decide) ?_
        refine lv_icmp_ge (tgt := 147) hx hb dX6_followCalls_109 (by decide) (fun _ => ?_) (fun c9 => absurd (by decide) c9)
        refine lv_iinc (v := (nI (i_15 + 1))) (lv' := [(1, .int (nI (i_15 + 1))), (2, .int 16), (0, .ref sa)]) hx hb dX6_followCalls_147 hl (k := 1) rfl (by exact nI_1 _) (by decide) rfl (fun ls hl => ?_)
        refine lv_goto (tgt := 98) hx hb dX6_followCalls_150 (by decide) ?_
        exact ih_16 _ H locs ls ⟨i_15 + 1, by omega, hP, hD, hS, lv_sub hl [0, 2] rfl⟩
      · rintro n_24 ih_26 f_23 H locs ls ⟨i_25, hi_i_25, hP, hD, hS, hl⟩
        have hb_i_25 : i_25 < 16 := by omega
        have hP : va_P G vwCl [(sa, .inr (6, [.ref tw, .ref co, .ref de, .ref dd, .ref kn, .int 0, .int 0, .ref fo])), (dd, .inr (2, [.int 0, dd_1, dd_2, dd_3, dd_4])), (fo, .inl (y 1, 16, .inl f_23))] H := hP
        have hD : va_D A [(sa, .inr (6, [.ref tw, .ref co, .ref de, .ref dd, .ref kn, .int 0, .int 0, .ref fo])), (dd, .inr (2, [.int 0, dd_1, dd_2, dd_3, dd_4])), (fo, .inl (y 1, 16, .inl f_23))] := hD
        have hl : lv_has ls 3 [(2, .int (nI (i_25))), (1, .int (nI (i_15))), (0, .ref sa)] := hl
        refine lv_iload_n hx hb dX6_followCalls_106 rfl (lv_at hl 0 rfl) ?_
        refine lv_bipush (v := 16) hx hb dX6_followCalls_107 (by decide) ?_
        refine lv_icmp_ge (tgt := 147) hx hb dX6_followCalls_109 (by decide) (fun c9 => absurd c9 (nI_ge (a := i_25) (b := 16) (by omega) (by omega))) (fun _ => ?_)
        refine lv_aload_n hx hb dX6_followCalls_112 rfl (lv_at hl 2 rfl) ?_
        refine va_get (D := G) (ci := 6) (v := .ref fo) (C := RX6) (T := TX6) (N := 8) hx hb hw0 inA_wsX60 hown hK.1 hP 0 rfl rfl 7 (by decide) (hw0 _ m_96) (fun _ h9 => h9) rfl dX6_followCalls_113 ?_
        refine lv_iload_n hx hb dX6_followCalls_116 rfl (lv_at hl 0 rfl) ?_
        refine va_iald hx hb hK.1 hP 2 1 rfl rfl (vp_in_nI (n := i_25) (N := 16) (by omega) (by decide)) dX6_followCalls_117 ?_
        refine lv_topi (fun v_27 ev_27 => ?_)
        refine lv_iload_n hx hb dX6_followCalls_118 rfl (lv_at hl 1 rfl) ?_
        refine lv_ishr hx hb dX6_followCalls_119 ?_
        refine lv_topi (fun v_28 ev_28 => ?_)
        refine lv_iconst (v := 1) hx hb dX6_followCalls_120 (by decide) ?_
        refine lv_iand hx hb dX6_followCalls_121 ?_
        refine lv_topi (fun v_29 ev_29 => ?_)
        refine lv_iconst (v := 1) hx hb dX6_followCalls_122 (by decide) ?_
        refine lv_icmp_ne (tgt := 141) hx hb dX6_followCalls_123 (by decide) (fun c_30 => ?_) (fun c_30 => ?_)
        · skip
          have tc_30 : (v_29.toInt : Int) ≠ 1 := il_neq c_30 rfl (by decide)
          refine lv_iinc (v := (nI (i_25 + 1))) (lv' := [(2, .int (nI (i_25 + 1))), (1, .int (nI (i_15))), (0, .ref sa)]) hx hb dX6_followCalls_141 hl (k := 0) rfl (by exact nI_1 _) (by decide) rfl (fun ls hl => ?_)
          refine lv_goto (tgt := 106) hx hb dX6_followCalls_144 (by decide) ?_
          exact ih_26 _ H locs ls ⟨i_25 + 1, by omega, hP, hD, hS, lv_sub hl [0, 1, 2] rfl⟩
        · skip
          have tc_30 : (v_29.toInt : Int) = 1 := il_eq c_30 rfl (by decide)
          refine lv_aload_n hx hb dX6_followCalls_126 rfl (lv_at hl 2 rfl) ?_
          refine va_get (D := G) (ci := 6) (v := .ref fo) (C := RX6) (T := TX6) (N := 8) hx hb hw0 inA_wsX60 hown hK.1 hP 0 rfl rfl 7 (by decide) (hw0 _ m_96) (fun _ h9 => h9) rfl dX6_followCalls_127 ?_
          refine lv_iload_n hx hb dX6_followCalls_130 rfl (lv_at hl 0 rfl) ?_
          refine lv_dup2_11 hx hb dX6_followCalls_131 rfl rfl ?_
          refine va_iald hx hb hK.1 hP 2 1 rfl rfl (vp_in_nI (n := i_25) (N := 16) (by omega) (by decide)) dX6_followCalls_132 ?_
          refine lv_topi (fun v_31 ev_31 => ?_)
          refine lv_aload_n hx hb dX6_followCalls_133 rfl (lv_at hl 2 rfl) ?_
          refine va_get (D := G) (ci := 6) (v := .ref fo) (C := RX6) (T := TX6) (N := 8) hx hb hw0 inA_wsX60 hown hK.1 hP 0 rfl rfl 7 (by decide) (hw0 _ m_96) (fun _ h9 => h9) rfl dX6_followCalls_134 ?_
          refine lv_iload_n hx hb dX6_followCalls_137 rfl (lv_at hl 1 rfl) ?_
          refine va_iald hx hb hK.1 hP 2 1 rfl rfl (vp_in_nI (n := i_15) (N := 16) (by omega) (by decide)) dX6_followCalls_138 ?_
          refine lv_topi (fun v_32 ev_32 => ?_)
          refine lv_ior hx hb dX6_followCalls_139 ?_
          refine lv_topi (fun v_33 ev_33 => ?_)
          refine va_iast hx hb hK.1 hP hD hS 2 1 rfl rfl (vp_in_nI (n := i_25) (N := 16) (by omega) (by decide)) dX6_followCalls_140 (fun H locs hP hD hS => ?_)
          generalize (upd f_23 ((nI (i_25)) : Int32).toNatClampNeg v_33) = f_34 at hP hD
          have hP : va_P G vwCl [(sa, .inr (6, [.ref tw, .ref co, .ref de, .ref dd, .ref kn, .int 0, .int 0, .ref fo])), (dd, .inr (2, [.int 0, dd_1, dd_2, dd_3, dd_4])), (fo, .inl (y 1, 16, .inl f_34))] H := hP
          have hD : va_D A [(sa, .inr (6, [.ref tw, .ref co, .ref de, .ref dd, .ref kn, .int 0, .int 0, .ref fo])), (dd, .inr (2, [.int 0, dd_1, dd_2, dd_3, dd_4])), (fo, .inl (y 1, 16, .inl f_34))] := hD
          refine lv_iinc (v := (nI (i_25 + 1))) (lv' := [(2, .int (nI (i_25 + 1))), (1, .int (nI (i_15))), (0, .ref sa)]) hx hb dX6_followCalls_141 hl (k := 0) rfl (by exact nI_1 _) (by decide) rfl (fun ls hl => ?_)
          refine lv_goto (tgt := 106) hx hb dX6_followCalls_144 (by decide) ?_
          exact ih_26 _ H locs ls ⟨i_25 + 1, by omega, hP, hD, hS, lv_sub hl [0, 1, 2] rfl⟩
  · rintro n_36 ih_38 f_35 H locs ls ⟨i_37, hi_i_37, hP, hD, hS, hl⟩
    have hb_i_37 : i_37 < 16 := by omega
    have hP : va_P G vwCl [(sa, .inr (6, [.ref tw, .ref co, .ref de, .ref dd, .ref kn, .int 0, .int 0, .ref fo])), (dd, .inr (2, [.int 0, dd_1, dd_2, dd_3, dd_4])), (fo, .inl (y 1, 16, .inl f_35))] H := hP
    have hD : va_D A [(sa, .inr (6, [.ref tw, .ref co, .ref de, .ref dd, .ref kn, .int 0, .int 0, .ref fo])), (dd, .inr (2, [.int 0, dd_1, dd_2, dd_3, dd_4])), (fo, .inl (y 1, 16, .inl f_35))] := hD
    have hl : lv_has ls 3 [(1, .int (nI (i_37))), (0, .ref sa)] := hl
    refine lv_iload_n hx hb dX6_followCalls_2 rfl (lv_at hl 0 rfl) ?_
    refine lv_bipush (v := 16) hx hb dX6_followCalls_3 (by decide) ?_
    refine lv_icmp_ge (tgt := 23) hx hb dX6_followCalls_5 (by decide) (fun c9 => absurd c9 (nI_ge (a := i_37) (b := 16) (by omega) (by omega))) (fun _ => ?_)
    refine lv_aload_n hx hb dX6_followCalls_8 rfl (lv_at hl 1 rfl) ?_
    refine va_get (D := G) (ci := 6) (v := .ref fo) (C := RX6) (T := TX6) (N := 8) hx hb hw0 inA_wsX60 hown hK.1 hP 0 rfl rfl 7 (by decide) (hw0 _ m_96) (fun _ h9 => h9) rfl dX6_followCalls_9 ?_
    refine lv_iload_n hx hb dX6_followCalls_12 rfl (lv_at hl 0 rfl) ?_
    refine lv_iconst (v := 1) hx hb dX6_followCalls_13 (by decide) ?_
    refine lv_iload_n hx hb dX6_followCalls_14 rfl (lv_at hl 0 rfl) ?_
    refine lv_ishl hx hb dX6_followCalls_15 ?_
    refine lv_topi (fun v_39 ev_39 => ?_)
    refine va_iast hx hb hK.1 hP hD hS 2 1 rfl rfl (vp_in_nI (n := i_37) (N := 16) (by omega) (by decide)) dX6_followCalls_16 (fun H locs hP hD hS => ?_)
    generalize (upd f_35 ((nI (i_37)) : Int32).toNatClampNeg v_39) = f_40 at hP hD
    have hP : va_P G vwCl [(sa, .inr (6, [.ref tw, .ref co, .ref de, .ref dd, .ref kn, .int 0, .int 0, .ref fo])), (dd, .inr (2, [.int 0, dd_1, dd_2, dd_3, dd_4])), (fo, .inl (y 1, 16, .inl f_40))] H := hP
    have hD : va_D A [(sa, .inr (6, [.ref tw, .ref co, .ref de, .ref dd, .ref kn, .int 0, .int 0, .ref fo])), (dd, .inr (2, [.int 0, dd_1, dd_2, dd_3, dd_4])), (fo, .inl (y 1, 16, .inl f_40))] := hD
    refine lv_iinc (v := (nI (i_37 + 1))) (lv' := [(1, .int (nI (i_37 + 1))), (0, .ref sa)]) hx hb dX6_followCalls_17 hl (k := 0) rfl (by exact nI_1 _) (by decide) rfl (fun ls hl => ?_)
    refine lv_goto (tgt := 2) hx hb dX6_followCalls_20 (by decide) ?_
    exact ih_38 _ H locs ls ⟨i_37 + 1, by omega, hP, hD, hS, lv_sub hl [0, 1] rfl⟩

set_option maxHeartbeats 4000000 in
set_option maxRecDepth 100000 in
theorem kX9_rings (l : Launch) (G : va_G) (y : Nat → ClassId) (sz : Nat) (ob : Nat) (tp : Nat) (rd : Nat) (sa : Nat) (im : Nat) (sl : Nat) (ro : Nat) (wy : Nat) (od : Nat) (ok : Nat) (tw : Nat) (co : Nat) (de : Nat) (dd : Nat) (kn : Nat) (fo : Nat) (tw_1 : Value) (tw_2 : Value) (tw_3 : Value) (tw_4 : Value) (tw_5 : Value) (tw_6 : Value) (tw_7 : Value) (tw_8 : Value) (tw_9 : Value) (tw_10 : Value) (tw_11 : Value) (dd_1 : Value) (dd_2 : Value) (dd_3 : Value) (dd_4 : Value) (f0 : Nat → Int32)  : Met l yX9_rings (Cond.code yX9_rings cX9_rings 4 (some .int) :: wAll) ({ frames := 1, cells := 0, slots := 0, locals := 22 }) (va_Pc [.ref ob] (kp G y sz [(ob, .inr (9, [.ref tp, .int 0, .ref rd, .ref sa, .ref im, .ref sl, .ref ro, .ref wy, .ref od, .ref ok])), (sa, .inr (6, [.ref tw, .ref co, .ref de, .ref dd, .ref kn, .int 0, .int 0, .ref fo])), (tw, .inr (7, [.int 0, tw_1, tw_2, tw_3, tw_4, tw_5, tw_6, tw_7, tw_8, tw_9, tw_10, tw_11])), (dd, .inr (2, [.int 0, dd_1, dd_2, dd_3, dd_4])), (fo, .inl (y 1, 16, .inl f0))])) (va_Qi (fun (r : Int32) (_ : va_W) => r = 0) (kq G (va_A [(ob, .inr (9, [.ref tp, .int 0, .ref rd, .ref sa, .ref im, .ref sl, .ref ro, .ref wy, .ref od, .ref ok])), (sa, .inr (6, [.ref tw, .ref co, .ref de, .ref dd, .ref kn, .int 0, .int 0, .ref fo])), (tw, .inr (7, [.int 0, tw_1, tw_2, tw_3, tw_4, tw_5, tw_6, tw_7, tw_8, tw_9, tw_10, tw_11])), (dd, .inr (2, [.int 0, dd_1, dd_2, dd_3, dd_4])), (fo, .inl (y 1, 16, .inl f0))] sz)) (va_A [(ob, .inr (9, [.ref tp, .int 0, .ref rd, .ref sa, .ref im, .ref sl, .ref ro, .ref wy, .ref od, .ref ok])), (sa, .inr (6, [.ref tw, .ref co, .ref de, .ref dd, .ref kn, .int 0, .int 0, .ref fo])), (tw, .inr (7, [.int 0, tw_1, tw_2, tw_3, tw_4, tw_5, tw_6, tw_7, tw_8, tw_9, tw_10, tw_11])), (dd, .inr (2, [.int 0, dd_1, dd_2, dd_3, dd_4])), (fo, .inl (y 1, 16, .inl f0))] sz)) 0 0 (va_A [(ob, .inr (9, [.ref tp, .int 0, .ref rd, .ref sa, .ref im, .ref sl, .ref ro, .ref wy, .ref od, .ref ok])), (sa, .inr (6, [.ref tw, .ref co, .ref de, .ref dd, .ref kn, .int 0, .int 0, .ref fo])), (tw, .inr (7, [.int 0, tw_1, tw_2, tw_3, tw_4, tw_5, tw_6, tw_7, tw_8, tw_9, tw_10, tw_11])), (dd, .inr (2, [.int 0, dd_1, dd_2, dd_3, dd_4])), (fo, .inl (y 1, 16, .inl f0))] sz) := by
  refine Met.ofW (cc := cX9_rings) (maxL := 4) (ret := (some .int)) (by decide) rfl ?_
  intro p e s m args below meth c s₁ B hml hv
  obtain ⟨rfl, hsz, hP, hK, hD0⟩ := hv
  have hx := B.exec
  have hb := B.bytes
  have hr := B.returns
  have hw0 : ∀ w ∈ wAll, w.before _ s = true := fun w h => atoms_spec (ws := Cond.code yX9_rings cX9_rings 4 (some .int) :: wAll) B.pre w (List.mem_cons_of_mem _ h)
  have hown : s.vm.findClass RX9 = some m.cls := findClass_of_methodNamed B.named
  have hlocks := B.notSynchronized
  subst hsz
  have hD := hD0.self (sz := s.heap.size)
  generalize hAe : va_A [(ob, .inr (9, [.ref tp, .int 0, .ref rd, .ref sa, .ref im, .ref sl, .ref ro, .ref wy, .ref od, .ref ok])), (sa, .inr (6, [.ref tw, .ref co, .ref de, .ref dd, .ref kn, .int 0, .int 0, .ref fo])), (tw, .inr (7, [.int 0, tw_1, tw_2, tw_3, tw_4, tw_5, tw_6, tw_7, tw_8, tw_9, tw_10, tw_11])), (dd, .inr (2, [.int 0, dd_1, dd_2, dd_3, dd_4])), (fo, .inl (y 1, 16, .inl f0))] s.heap.size = A at hD ⊢
  have hA : ∀ q : Nat, s.heap.size ≤ q → A q := fun q h => by rw [← hAe]; exact Or.inr h
  have hS : va_S A s.heap s.heap [] := va_S.rf
  have hP : va_P G vwCl [(ob, .inr (9, [.ref tp, .int 0, .ref rd, .ref sa, .ref im, .ref sl, .ref ro, .ref wy, .ref od, .ref ok])), (sa, .inr (6, [.ref tw, .ref co, .ref de, .ref dd, .ref kn, .int 0, .int 0, .ref fo])), (tw, .inr (7, [.int 0, tw_1, tw_2, tw_3, tw_4, tw_5, tw_6, tw_7, tw_8, tw_9, tw_10, tw_11])), (dd, .inr (2, [.int 0, dd_1, dd_2, dd_3, dd_4])), (fo, .inl (y 1, 16, .inl f0))] s.heap := hP
  have hl := lv_entry ([.ref ob]) (n := 4) (Nat.le_of_ble_eq_true rfl)
  rw [lg_entry_eq]
  generalize (lg_sl ([.ref ob]) ++ List.replicate (4 - (lg_sl ([.ref ob])).length) Slot.unset).toArray = ls at hl ⊢
  have hl : lv_has ls 4 [(0, .ref ob)] := hl
  refine lv_aload_n hx hb dX9_rings_0 rfl (lv_at hl 0 rfl) ?_
  refine va_get (D := G) (ci := 9) (v := .ref sa) (C := RX9) (T := TX9) (N := 10) hx hb hw0 inA_wsX90 hown hK.1 hP 0 rfl rfl 3 (by decide) (hw0 _ m_110) (fun _ h9 => h9) rfl dX9_rings_1 ?_
  refine cVv (As := []) (rest := []) ⟨hx, hb, hml, hown, hw0⟩ hA hK hP hD hS [1, 3, 4] [0, 2] [(sa, .inr (6, [.ref tw, .ref co, .ref de, .ref dd, .ref kn, .int 0, .int 0, .ref fo])), (dd, .inr (2, [.int 0, dd_1, dd_2, dd_3, dd_4])), (fo, .inl (y 1, 16, .inl f0))] [(ob, .inr (9, [.ref tp, .int 0, .ref rd, .ref sa, .ref im, .ref sl, .ref ro, .ref wy, .ref od, .ref ok])), (tw, .inr (7, [.int 0, tw_1, tw_2, tw_3, tw_4, tw_5, tw_6, tw_7, tw_8, tw_9, tw_10, tw_11]))] rfl rfl (by decide) (by decide) (by decide) (kX6_followCalls l G y _ sa tw co de dd kn fo (dd_1) (dd_2) (dd_3) (dd_4) f0 ) ⟨(callB_of 0 hw0 (gA m_256) rfl rfl rfl (hw0 _ m_108) (hw0 _ m_257) (by decide +kernel) ⟨Nat.le_of_ble_eq_true rfl, Nat.le_of_ble_eq_true rfl⟩), (hw0 _ m_258), (hw0 _ m_259)⟩ (ci := 6) (q := (RX6, TX6, 8)) rfl rfl rfl hl.1 (Nat.le_of_ble_eq_true rfl) dX9_rings_4 ⟨Nat.le_of_ble_eq_true rfl, Nat.le_of_ble_eq_true rfl⟩ (fun w_1 H locs hw_1 hP hD hS => ?_)
  obtain ⟨f_2, rfl⟩ := hw_1
  have hP : va_P G vwCl [(ob, .inr (9, [.ref tp, .int 0, .ref rd, .ref sa, .ref im, .ref sl, .ref ro, .ref wy, .ref od, .ref ok])), (tw, .inr (7, [.int 0, tw_1, tw_2, tw_3, tw_4, tw_5, tw_6, tw_7, tw_8, tw_9, tw_10, tw_11])), (sa, .inr (6, [.ref tw, .ref co, .ref de, .ref dd, .ref kn, .int 0, .int 0, .ref fo])), (dd, .inr (2, [.int 0, dd_1, dd_2, dd_3, dd_4])), (fo, .inl (y 1, 16, .inl f_2))] H := hP
  have hD : va_D A [(ob, .inr (9, [.ref tp, .int 0, .ref rd, .ref sa, .ref im, .ref sl, .ref ro, .ref wy, .ref od, .ref ok])), (tw, .inr (7, [.int 0, tw_1, tw_2, tw_3, tw_4, tw_5, tw_6, tw_7, tw_8, tw_9, tw_10, tw_11])), (sa, .inr (6, [.ref tw, .ref co, .ref de, .ref dd, .ref kn, .int 0, .int 0, .ref fo])), (dd, .inr (2, [.int 0, dd_1, dd_2, dd_3, dd_4])), (fo, .inl (y 1, 16, .inl f_2))] := hD
  refine lv_iconst (v := 0) hx hb dX9_rings_7 (by decide) ?_
  refine lv_istore_n (lv' := [(1, .int 0), (0, .ref ob)]) hx hb dX9_rings_8 rfl hl (by decide) rfl (fun ls hl => ?_)
  refine lv_iconst (v := 0) hx hb dX9_rings_9 (by decide) ?_
  refine lv_istore_n (lv' := [(2, .int 0), (1, .int 0), (0, .ref ob)]) hx hb dX9_rings_10 rfl hl (by decide) rfl (fun ls hl => ?_)
  refine lv_iload_n hx hb dX9_rings_11 rfl (lv_at hl 0 rfl) ?_
  refine lv_aload_n hx hb dX9_rings_12 rfl (lv_at hl 2 rfl) ?_
  refine va_get (D := G) (ci := 9) (v := .ref sa) (C := RX9) (T := TX9) (N := 10) hx hb hw0 inA_wsX90 hown hK.1 hP 0 rfl rfl 3 (by decide) (hw0 _ m_110) (fun _ h9 => h9) rfl dX9_rings_13 ?_
  refine va_get (D := G) (ci := 6) (v := .ref tw) (C := RX6) (T := TX6) (N := 8) hx hb hw0 inA_wsX60 hown hK.1 hP 2 rfl rfl 0 (by decide) (hw0 _ m_176) (fun _ h9 => h9) rfl dX9_rings_16 ?_
  refine va_get (D := G) (ci := 7) (v := .int 0) (C := RX7) (T := TX7) (N := 12) hx hb hw0 inA_wsX70 hown hK.1 hP 1 rfl rfl 0 (by decide) (hw0 _ m_212) (fun _ h9 => h9) rfl dX9_rings_19 ?_
  refine lv_icmp_ge (tgt := 55) hx hb dX9_rings_22 (by decide) (fun _ => ?_) (fun c9 => absurd (by decide) c9)
  refine lv_iload_n hx hb dX9_rings_55 rfl (lv_at hl 1 rfl) ?_
  refine W.widen (k := 0) (n := 0) (Nat.le_of_ble_eq_true rfl) (Nat.le_of_ble_eq_true rfl) ?_
  exact W.iret (v := 0) hx hb hr (fun t ht hW => ⟨⟨0, _, rfl, rfl, by rw [ht]; exact hP, hD⟩, hS.F ht⟩) hS.2.2 dX9_rings_56

set_option maxHeartbeats 4000000 in
set_option maxRecDepth 100000 in
theorem kX1_overdue (l : Launch) (G : va_G) (y : Nat → ClassId) (sz : Nat) (de : Nat) (de_1 : Value) (de_2 : Value) (de_3 : Value) (de_4 : Value) (de_5 : Value) (de_6 : Value) (de_7 : Value)  : Met l yX1_overdue (Cond.code yX1_overdue cX1_overdue 4 (some .int) :: wAll) ({ frames := 0, cells := 0, slots := 0, locals := 0 }) (va_Pc [.ref de, .int 0] (kp G y sz [(de, .inr (1, [.int 0, de_1, de_2, de_3, de_4, de_5, de_6, de_7]))])) (va_Qi (fun (r : Int32) (w : va_W) => (r = 0 ∧ w = [(de, .inr (1, [.int 0, de_1, de_2, de_3, de_4, de_5, de_6, de_7]))])) (kq G (va_A [(de, .inr (1, [.int 0, de_1, de_2, de_3, de_4, de_5, de_6, de_7]))] sz)) (va_A [(de, .inr (1, [.int 0, de_1, de_2, de_3, de_4, de_5, de_6, de_7]))] sz)) 0 0 (va_A [(de, .inr (1, [.int 0, de_1, de_2, de_3, de_4, de_5, de_6, de_7]))] sz) := by
  refine Met.ofW (cc := cX1_overdue) (maxL := 4) (ret := (some .int)) (by decide) rfl ?_
  intro p e s m args below meth c s₁ B hml hv
  obtain ⟨rfl, hsz, hP, hK, hD0⟩ := hv
  have hx := B.exec
  have hb := B.bytes
  have hr := B.returns
  have hw0 : ∀ w ∈ wAll, w.before _ s = true := fun w h => atoms_spec (ws := Cond.code yX1_overdue cX1_overdue 4 (some .int) :: wAll) B.pre w (List.mem_cons_of_mem _ h)
  have hown : s.vm.findClass RX1 = some m.cls := findClass_of_methodNamed B.named
  have hlocks := B.notSynchronized
  subst hsz
  have hD := hD0.self (sz := s.heap.size)
  generalize hAe : va_A [(de, .inr (1, [.int 0, de_1, de_2, de_3, de_4, de_5, de_6, de_7]))] s.heap.size = A at hD ⊢
  have hA : ∀ q : Nat, s.heap.size ≤ q → A q := fun q h => by rw [← hAe]; exact Or.inr h
  have hS : va_S A s.heap s.heap [] := va_S.rf
  have hP : va_P G vwCl [(de, .inr (1, [.int 0, de_1, de_2, de_3, de_4, de_5, de_6, de_7]))] s.heap := hP
  have hl := lv_entry ([.ref de, .int 0]) (n := 4) (Nat.le_of_ble_eq_true rfl)
  rw [lg_entry_eq]
  generalize (lg_sl ([.ref de, .int 0]) ++ List.replicate (4 - (lg_sl ([.ref de, .int 0])).length) Slot.unset).toArray = ls at hl ⊢
  have hl : lv_has ls 4 [(0, .ref de), (1, .int 0)] := hl
  refine lv_iconst (v := 0) hx hb dX1_overdue_0 (by decide) ?_
  refine lv_istore_n (lv' := [(2, .int 0), (0, .ref de), (1, .int 0)]) hx hb dX1_overdue_1 rfl hl (by decide) rfl (fun ls hl => ?_)
  refine lv_iconst (v := 0) hx hb dX1_overdue_2 (by decide) ?_
  refine lv_istore_n (lv' := [(3, .int 0), (2, .int 0), (0, .ref de), (1, .int 0)]) hx hb dX1_overdue_3 rfl hl (by decide) rfl (fun ls hl => ?_)
  refine lv_iload_n hx hb dX1_overdue_4 rfl (lv_at hl 0 rfl) ?_
  refine lv_aload_n hx hb dX1_overdue_5 rfl (lv_at hl 2 rfl) ?_
  refine va_get (D := G) (ci := 1) (v := .int 0) (C := RX1) (T := TX1) (N := 8) hx hb hw0 inA_wsX10 hown hK.1 hP 0 rfl rfl 0 (by decide) (hw0 _ m_261) (fun _ h9 => h9) rfl dX1_overdue_6 ?_
  refine lv_icmp_ge (tgt := 31) hx hb dX1_overdue_9 (by decide) (fun _ => ?_) (fun c9 => absurd (by decide) c9)
  refine lv_iload_n hx hb dX1_overdue_31 rfl (lv_at hl 1 rfl) ?_
  refine W.widen (k := 0) (n := 0) (Nat.le_of_ble_eq_true rfl) (Nat.le_of_ble_eq_true rfl) ?_
  exact W.iret (v := 0) hx hb hr (fun t ht hW => ⟨⟨0, ([(de, .inr (1, [.int 0, de_1, de_2, de_3, de_4, de_5, de_6, de_7]))] : va_W), rfl, ⟨rfl, rfl⟩, by rw [ht]; exact hP, hD⟩, hS.F ht⟩) hS.2.2 dX1_overdue_32

set_option maxHeartbeats 4000000 in
set_option maxRecDepth 100000 in
theorem kX9_filledSlots (l : Launch) (G : va_G) (y : Nat → ClassId) (sz : Nat) (ob : Nat) (tp : Nat) (rd : Nat) (sa : Nat) (im : Nat) (sl : Nat) (ro : Nat) (wy : Nat) (od : Nat) (ok : Nat) (s0 : Nat) (s1 : Nat) (s2 : Nat) (s3 : Nat) (nu0 : Nat) (nu1 : Nat) (nu2 : Nat) (nu3 : Nat)  : Met l yX9_filledSlots (Cond.code yX9_filledSlots cX9_filledSlots 3 (some .int) :: wAll) ({ frames := 0, cells := 0, slots := 0, locals := 0 }) (va_Pc [.ref ob] (kp G y sz [(ob, .inr (9, [.ref tp, .int 0, .ref rd, .ref sa, .ref im, .ref sl, .ref ro, .ref wy, .ref od, .ref ok])), (sl, .inl (y 4, 4, .inr (.inr (.inr (.inr (va_up (va_up (va_up (va_up (fun _ => none) 0 (some s0)) 1 (some s1)) 2 (some s2)) 3 (some s3))))))), (s0, .inr (5, [.int 0, .int 0, .int 0, .ref nu0])), (s1, .inr (5, [.int 0, .int 0, .int 0, .ref nu1])), (s2, .inr (5, [.int 0, .int 0, .int 0, .ref nu2])), (s3, .inr (5, [.int 0, .int 0, .int 0, .ref nu3]))])) (va_Qi (fun (r : Int32) (w : va_W) => (r = 0 ∧ w = [(ob, .inr (9, [.ref tp, .int 0, .ref rd, .ref sa, .ref im, .ref sl, .ref ro, .ref wy, .ref od, .ref ok])), (sl, .inl (y 4, 4, .inr (.inr (.inr (.inr (va_up (va_up (va_up (va_up (fun _ => none) 0 (some s0)) 1 (some s1)) 2 (some s2)) 3 (some s3))))))), (s0, .inr (5, [.int 0, .int 0, .int 0, .ref nu0])), (s1, .inr (5, [.int 0, .int 0, .int 0, .ref nu1])), (s2, .inr (5, [.int 0, .int 0, .int 0, .ref nu2])), (s3, .inr (5, [.int 0, .int 0, .int 0, .ref nu3]))])) (kq G (va_A [(ob, .inr (9, [.ref tp, .int 0, .ref rd, .ref sa, .ref im, .ref sl, .ref ro, .ref wy, .ref od, .ref ok])), (sl, .inl (y 4, 4, .inr (.inr (.inr (.inr (va_up (va_up (va_up (va_up (fun _ => none) 0 (some s0)) 1 (some s1)) 2 (some s2)) 3 (some s3))))))), (s0, .inr (5, [.int 0, .int 0, .int 0, .ref nu0])), (s1, .inr (5, [.int 0, .int 0, .int 0, .ref nu1])), (s2, .inr (5, [.int 0, .int 0, .int 0, .ref nu2])), (s3, .inr (5, [.int 0, .int 0, .int 0, .ref nu3]))] sz)) (va_A [(ob, .inr (9, [.ref tp, .int 0, .ref rd, .ref sa, .ref im, .ref sl, .ref ro, .ref wy, .ref od, .ref ok])), (sl, .inl (y 4, 4, .inr (.inr (.inr (.inr (va_up (va_up (va_up (va_up (fun _ => none) 0 (some s0)) 1 (some s1)) 2 (some s2)) 3 (some s3))))))), (s0, .inr (5, [.int 0, .int 0, .int 0, .ref nu0])), (s1, .inr (5, [.int 0, .int 0, .int 0, .ref nu1])), (s2, .inr (5, [.int 0, .int 0, .int 0, .ref nu2])), (s3, .inr (5, [.int 0, .int 0, .int 0, .ref nu3]))] sz)) 0 0 (va_A [(ob, .inr (9, [.ref tp, .int 0, .ref rd, .ref sa, .ref im, .ref sl, .ref ro, .ref wy, .ref od, .ref ok])), (sl, .inl (y 4, 4, .inr (.inr (.inr (.inr (va_up (va_up (va_up (va_up (fun _ => none) 0 (some s0)) 1 (some s1)) 2 (some s2)) 3 (some s3))))))), (s0, .inr (5, [.int 0, .int 0, .int 0, .ref nu0])), (s1, .inr (5, [.int 0, .int 0, .int 0, .ref nu1])), (s2, .inr (5, [.int 0, .int 0, .int 0, .ref nu2])), (s3, .inr (5, [.int 0, .int 0, .int 0, .ref nu3]))] sz) := by
  refine Met.ofW (cc := cX9_filledSlots) (maxL := 3) (ret := (some .int)) (by decide) rfl ?_
  intro p e s m args below meth c s₁ B hml hv
  obtain ⟨rfl, hsz, hP, hK, hD0⟩ := hv
  have hx := B.exec
  have hb := B.bytes
  have hr := B.returns
  have hw0 : ∀ w ∈ wAll, w.before _ s = true := fun w h => atoms_spec (ws := Cond.code yX9_filledSlots cX9_filledSlots 3 (some .int) :: wAll) B.pre w (List.mem_cons_of_mem _ h)
  have hown : s.vm.findClass RX9 = some m.cls := findClass_of_methodNamed B.named
  have hlocks := B.notSynchronized
  subst hsz
  have hD := hD0.self (sz := s.heap.size)
  generalize hAe : va_A [(ob, .inr (9, [.ref tp, .int 0, .ref rd, .ref sa, .ref im, .ref sl, .ref ro, .ref wy, .ref od, .ref ok])), (sl, .inl (y 4, 4, .inr (.inr (.inr (.inr (va_up (va_up (va_up (va_up (fun _ => none) 0 (some s0)) 1 (some s1)) 2 (some s2)) 3 (some s3))))))), (s0, .inr (5, [.int 0, .int 0, .int 0, .ref nu0])), (s1, .inr (5, [.int 0, .int 0, .int 0, .ref nu1])), (s2, .inr (5, [.int 0, .int 0, .int 0, .ref nu2])), (s3, .inr (5, [.int 0, .int 0, .int 0, .ref nu3]))] s.heap.size = A at hD ⊢
  have hA : ∀ q : Nat, s.heap.size ≤ q → A q := fun q h => by rw [← hAe]; exact Or.inr h
  have hS : va_S A s.heap s.heap [] := va_S.rf
  have hP : va_P G vwCl [(ob, .inr (9, [.ref tp, .int 0, .ref rd, .ref sa, .ref im, .ref sl, .ref ro, .ref wy, .ref od, .ref ok])), (sl, .inl (y 4, 4, .inr (.inr (.inr (.inr (va_up (va_up (va_up (va_up (fun _ => none) 0 (some s0)) 1 (some s1)) 2 (some s2)) 3 (some s3))))))), (s0, .inr (5, [.int 0, .int 0, .int 0, .ref nu0])), (s1, .inr (5, [.int 0, .int 0, .int 0, .ref nu1])), (s2, .inr (5, [.int 0, .int 0, .int 0, .ref nu2])), (s3, .inr (5, [.int 0, .int 0, .int 0, .ref nu3]))] s.heap := hP
  have hl := lv_entry ([.ref ob]) (n := 3) (Nat.le_of_ble_eq_true rfl)
  rw [lg_entry_eq]
  generalize (lg_sl ([.ref ob]) ++ List.replicate (3 - (lg_sl ([.ref ob])).length) Slot.unset).toArray = ls at hl ⊢
  have hl : lv_has ls 3 [(0, .ref ob)] := hl
  refine lv_iconst (v := 0) hx hb dX9_filledSlots_0 (by decide) ?_
  refine lv_istore_n (lv' := [(1, .int 0), (0, .ref ob)]) hx hb dX9_filledSlots_1 rfl hl (by decide) rfl (fun ls hl => ?_)
  refine lv_iconst (v := 0) hx hb dX9_filledSlots_2 (by decide) ?_
  refine lv_istore_n (lv' := [(2, .int 0), (1, .int 0), (0, .ref ob)]) hx hb dX9_filledSlots_3 rfl hl (by decide) rfl (fun ls hl => ?_)
  refine lv_iload_n hx hb dX9_filledSlots_4 rfl (lv_at hl 0 rfl) ?_
  refine lv_iconst (v := 4) hx hb dX9_filledSlots_5 (by decide) ?_
  refine lv_icmp_ge (tgt := 30) hx hb dX9_filledSlots_6 (by decide) (fun c9 => absurd c9 (by decide)) (fun _ => ?_)
  refine lv_aload_n hx hb dX9_filledSlots_9 rfl (lv_at hl 2 rfl) ?_
  refine va_get (D := G) (ci := 9) (v := .ref sl) (C := RX9) (T := TX9) (N := 10) hx hb hw0 inA_wsX90 hown hK.1 hP 0 rfl rfl 5 (by decide) (hw0 _ m_113) (fun _ h9 => h9) rfl dX9_filledSlots_10 ?_
  refine lv_iload_n hx hb dX9_filledSlots_13 rfl (lv_at hl 0 rfl) ?_
  refine va_aldq hx hb hK.1 hP 1 4 rfl rfl (vp_in_nI (n := 0) (N := 4) (by decide) (by decide)) dX9_filledSlots_14 ?_
  refine W.eq (g2 := F0 m 15 ls [.ref s0]) rfl ?_
  refine va_get (D := G) (ci := 5) (v := .int 0) (C := RX5) (T := TX5) (N := 4) hx hb hw0 inA_wsX50 hown hK.1 hP 2 rfl rfl 0 (by decide) (hw0 _ m_233) (fun _ h9 => h9) rfl dX9_filledSlots_15 ?_
  refine lv_if_eq (tgt := 24) hx hb dX9_filledSlots_18 (by decide) (fun _ => ?_) (fun c9 => absurd (by decide) c9)
  refine lv_iinc (v := 1) (lv' := [(2, .int 1), (1, .int 0), (0, .ref ob)]) hx hb dX9_filledSlots_24 hl (k := 0) rfl (by decide) (by decide) rfl (fun ls hl => ?_)
  refine lv_goto (tgt := 4) hx hb dX9_filledSlots_27 (by decide) ?_
  refine lv_iload_n hx hb dX9_filledSlots_4 rfl (lv_at hl 0 rfl) ?_
  refine lv_iconst (v := 4) hx hb dX9_filledSlots_5 (by decide) ?_
  refine lv_icmp_ge (tgt := 30) hx hb dX9_filledSlots_6 (by decide) (fun c9 => absurd c9 (by decide)) (fun _ => ?_)
  refine lv_aload_n hx hb dX9_filledSlots_9 rfl (lv_at hl 2 rfl) ?_
  refine va_get (D := G) (ci := 9) (v := .ref sl) (C := RX9) (T := TX9) (N := 10) hx hb hw0 inA_wsX90 hown hK.1 hP 0 rfl rfl 5 (by decide) (hw0 _ m_113) (fun _ h9 => h9) rfl dX9_filledSlots_10 ?_
  refine lv_iload_n hx hb dX9_filledSlots_13 rfl (lv_at hl 0 rfl) ?_
  refine va_aldq hx hb hK.1 hP 1 4 rfl rfl (vp_in_nI (n := 1) (N := 4) (by decide) (by decide)) dX9_filledSlots_14 ?_
  refine W.eq (g2 := F0 m 15 ls [.ref s1]) rfl ?_
  refine va_get (D := G) (ci := 5) (v := .int 0) (C := RX5) (T := TX5) (N := 4) hx hb hw0 inA_wsX50 hown hK.1 hP 3 rfl rfl 0 (by decide) (hw0 _ m_233) (fun _ h9 => h9) rfl dX9_filledSlots_15 ?_
  refine lv_if_eq (tgt := 24) hx hb dX9_filledSlots_18 (by decide) (fun _ => ?_) (fun c9 => absurd (by decide) c9)
  refine lv_iinc (v := 2) (lv' := [(2, .int 2), (1, .int 0), (0, .ref ob)]) hx hb dX9_filledSlots_24 hl (k := 0) rfl (by decide) (by decide) rfl (fun ls hl => ?_)
  refine lv_goto (tgt := 4) hx hb dX9_filledSlots_27 (by decide) ?_
  refine lv_iload_n hx hb dX9_filledSlots_4 rfl (lv_at hl 0 rfl) ?_
  refine lv_iconst (v := 4) hx hb dX9_filledSlots_5 (by decide) ?_
  refine lv_icmp_ge (tgt := 30) hx hb dX9_filledSlots_6 (by decide) (fun c9 => absurd c9 (by decide)) (fun _ => ?_)
  refine lv_aload_n hx hb dX9_filledSlots_9 rfl (lv_at hl 2 rfl) ?_
  refine va_get (D := G) (ci := 9) (v := .ref sl) (C := RX9) (T := TX9) (N := 10) hx hb hw0 inA_wsX90 hown hK.1 hP 0 rfl rfl 5 (by decide) (hw0 _ m_113) (fun _ h9 => h9) rfl dX9_filledSlots_10 ?_
  refine lv_iload_n hx hb dX9_filledSlots_13 rfl (lv_at hl 0 rfl) ?_
  refine va_aldq hx hb hK.1 hP 1 4 rfl rfl (vp_in_nI (n := 2) (N := 4) (by decide) (by decide)) dX9_filledSlots_14 ?_
  refine W.eq (g2 := F0 m 15 ls [.ref s2]) rfl ?_
  refine va_get (D := G) (ci := 5) (v := .int 0) (C := RX5) (T := TX5) (N := 4) hx hb hw0 inA_wsX50 hown hK.1 hP 4 rfl rfl 0 (by decide) (hw0 _ m_233) (fun _ h9 => h9) rfl dX9_filledSlots_15 ?_
  refine lv_if_eq (tgt := 24) hx hb dX9_filledSlots_18 (by decide) (fun _ => ?_) (fun c9 => absurd (by decide) c9)
  refine lv_iinc (v := 3) (lv' := [(2, .int 3), (1, .int 0), (0, .ref ob)]) hx hb dX9_filledSlots_24 hl (k := 0) rfl (by decide) (by decide) rfl (fun ls hl => ?_)
  refine lv_goto (tgt := 4) hx hb dX9_filledSlots_27 (by decide) ?_
  refine lv_iload_n hx hb dX9_filledSlots_4 rfl (lv_at hl 0 rfl) ?_
  refine lv_iconst (v := 4) hx hb dX9_filledSlots_5 (by decide) ?_
  refine lv_icmp_ge (tgt := 30) hx hb dX9_filledSlots_6 (by decide) (fun c9 => absurd c9 (by decide)) (fun _ => ?_)
  refine lv_aload_n hx hb dX9_filledSlots_9 rfl (lv_at hl 2 rfl) ?_
  refine va_get (D := G) (ci := 9) (v := .ref sl) (C := RX9) (T := TX9) (N := 10) hx hb hw0 inA_wsX90 hown hK.1 hP 0 rfl rfl 5 (by decide) (hw0 _ m_113) (fun _ h9 => h9) rfl dX9_filledSlots_10 ?_
  refine lv_iload_n hx hb dX9_filledSlots_13 rfl (lv_at hl 0 rfl) ?_
  refine va_aldq hx hb hK.1 hP 1 4 rfl rfl (vp_in_nI (n := 3) (N := 4) (by decide) (by decide)) dX9_filledSlots_14 ?_
  refine W.eq (g2 := F0 m 15 ls [.ref s3]) rfl ?_
  refine va_get (D := G) (ci := 5) (v := .int 0) (C := RX5) (T := TX5) (N := 4) hx hb hw0 inA_wsX50 hown hK.1 hP 5 rfl rfl 0 (by decide) (hw0 _ m_233) (fun _ h9 => h9) rfl dX9_filledSlots_15 ?_
  refine lv_if_eq (tgt := 24) hx hb dX9_filledSlots_18 (by decide) (fun _ => ?_) (fun c9 => absurd (by decide) c9)
  refine lv_iinc (v := 4) (lv' := [(2, .int 4), (1, .int 0), (0, .ref ob)]) hx hb dX9_filledSlots_24 hl (k := 0) rfl (by decide) (by decide) rfl (fun ls hl => ?_)
  refine lv_goto (tgt := 4) hx hb dX9_filledSlots_27 (by decide) ?_
  refine lv_iload_n hx hb dX9_filledSlots_4 rfl (lv_at hl 0 rfl) ?_
  refine lv_iconst (v := 4) hx hb dX9_filledSlots_5 (by decide) ?_
  refine lv_icmp_ge (tgt := 30) hx hb dX9_filledSlots_6 (by decide) (fun _ => ?_) (fun c9 => absurd (by decide) c9)
  refine lv_iload_n hx hb dX9_filledSlots_30 rfl (lv_at hl 1 rfl) ?_
  refine W.widen (k := 0) (n := 0) (Nat.le_of_ble_eq_true rfl) (Nat.le_of_ble_eq_true rfl) ?_
  exact W.iret (v := 0) hx hb hr (fun t ht hW => ⟨⟨0, ([(ob, .inr (9, [.ref tp, .int 0, .ref rd, .ref sa, .ref im, .ref sl, .ref ro, .ref wy, .ref od, .ref ok])), (sl, .inl (y 4, 4, .inr (.inr (.inr (.inr (va_up (va_up (va_up (va_up (fun _ => none) 0 (some s0)) 1 (some s1)) 2 (some s2)) 3 (some s3))))))), (s0, .inr (5, [.int 0, .int 0, .int 0, .ref nu0])), (s1, .inr (5, [.int 0, .int 0, .int 0, .ref nu1])), (s2, .inr (5, [.int 0, .int 0, .int 0, .ref nu2])), (s3, .inr (5, [.int 0, .int 0, .int 0, .ref nu3]))] : va_W), rfl, ⟨rfl, rfl⟩, by rw [ht]; exact hP, hD⟩, hS.F ht⟩) hS.2.2 dX9_filledSlots_31

set_option maxHeartbeats 4000000 in
set_option maxRecDepth 100000 in
theorem kX9_count (l : Launch) (G : va_G) (y : Nat → ClassId) (sz : Nat) (ob : Nat) (a1 : Int32) (tp : Nat) (rd : Nat) (sa : Nat) (im : Nat) (sl : Nat) (ro : Nat) (wy : Nat) (od : Nat) (ok : Nat) (s0 : Nat) (s1 : Nat) (s2 : Nat) (s3 : Nat) (nu0 : Nat) (nu1 : Nat) (nu2 : Nat) (nu3 : Nat) (tw : Nat) (co : Nat) (de : Nat) (dd : Nat) (kn : Nat) (fo : Nat) (tw_3 : Value) (tw_4 : Value) (tw_5 : Value) (tw_6 : Value) (tw_7 : Value) (tw_8 : Value) (tw_9 : Value) (tw_10 : Value) (tw_11 : Value) (de_1 : Value) (de_2 : Value) (de_3 : Value) (de_4 : Value) (de_5 : Value) (de_6 : Value) (de_7 : Value) (dd_1 : Value) (dd_2 : Value) (dd_3 : Value) (dd_4 : Value) (co_1 : Value) (co_2 : Value) (co_3 : Value) (co_4 : Value) (co_5 : Value) (co_6 : Value) (co_7 : Value) (co_8 : Value) (co_9 : Value)  : Met l yX9_count (Cond.code yX9_count cX9_count 2 (some .int) :: wAll) ({ frames := 1, cells := 0, slots := 0, locals := 23 }) (va_Pc [.ref ob, .int a1] (kp G y sz [(ob, .inr (9, [.ref tp, .int 0, .ref rd, .ref sa, .ref im, .ref sl, .ref ro, .ref wy, .ref od, .ref ok])), (sl, .inl (y 4, 4, .inr (.inr (.inr (.inr (va_up (va_up (va_up (va_up (fun _ => none) 0 (some s0)) 1 (some s1)) 2 (some s2)) 3 (some s3))))))), (s0, .inr (5, [.int 0, .int 0, .int 0, .ref nu0])), (s1, .inr (5, [.int 0, .int 0, .int 0, .ref nu1])), (s2, .inr (5, [.int 0, .int 0, .int 0, .ref nu2])), (s3, .inr (5, [.int 0, .int 0, .int 0, .ref nu3])), (sa, .inr (6, [.ref tw, .ref co, .ref de, .ref dd, .ref kn, .int 0, .int 0, .ref fo])), (tw, .inr (7, [.int 0, .int 0, .int 3, tw_3, tw_4, tw_5, tw_6, tw_7, tw_8, tw_9, tw_10, tw_11])), (de, .inr (1, [.int 0, de_1, de_2, de_3, de_4, de_5, de_6, de_7])), (dd, .inr (2, [.int 0, dd_1, dd_2, dd_3, dd_4])), (co, .inr (0, [.int 0, co_1, co_2, co_3, co_4, co_5, co_6, co_7, co_8, co_9]))])) (va_Qi (fun (r : Int32) (_ : va_W) => r = sp_count a1) (kq G (va_A [(ob, .inr (9, [.ref tp, .int 0, .ref rd, .ref sa, .ref im, .ref sl, .ref ro, .ref wy, .ref od, .ref ok])), (sl, .inl (y 4, 4, .inr (.inr (.inr (.inr (va_up (va_up (va_up (va_up (fun _ => none) 0 (some s0)) 1 (some s1)) 2 (some s2)) 3 (some s3))))))), (s0, .inr (5, [.int 0, .int 0, .int 0, .ref nu0])), (s1, .inr (5, [.int 0, .int 0, .int 0, .ref nu1])), (s2, .inr (5, [.int 0, .int 0, .int 0, .ref nu2])), (s3, .inr (5, [.int 0, .int 0, .int 0, .ref nu3])), (sa, .inr (6, [.ref tw, .ref co, .ref de, .ref dd, .ref kn, .int 0, .int 0, .ref fo])), (tw, .inr (7, [.int 0, .int 0, .int 3, tw_3, tw_4, tw_5, tw_6, tw_7, tw_8, tw_9, tw_10, tw_11])), (de, .inr (1, [.int 0, de_1, de_2, de_3, de_4, de_5, de_6, de_7])), (dd, .inr (2, [.int 0, dd_1, dd_2, dd_3, dd_4])), (co, .inr (0, [.int 0, co_1, co_2, co_3, co_4, co_5, co_6, co_7, co_8, co_9]))] sz)) (va_A [(ob, .inr (9, [.ref tp, .int 0, .ref rd, .ref sa, .ref im, .ref sl, .ref ro, .ref wy, .ref od, .ref ok])), (sl, .inl (y 4, 4, .inr (.inr (.inr (.inr (va_up (va_up (va_up (va_up (fun _ => none) 0 (some s0)) 1 (some s1)) 2 (some s2)) 3 (some s3))))))), (s0, .inr (5, [.int 0, .int 0, .int 0, .ref nu0])), (s1, .inr (5, [.int 0, .int 0, .int 0, .ref nu1])), (s2, .inr (5, [.int 0, .int 0, .int 0, .ref nu2])), (s3, .inr (5, [.int 0, .int 0, .int 0, .ref nu3])), (sa, .inr (6, [.ref tw, .ref co, .ref de, .ref dd, .ref kn, .int 0, .int 0, .ref fo])), (tw, .inr (7, [.int 0, .int 0, .int 3, tw_3, tw_4, tw_5, tw_6, tw_7, tw_8, tw_9, tw_10, tw_11])), (de, .inr (1, [.int 0, de_1, de_2, de_3, de_4, de_5, de_6, de_7])), (dd, .inr (2, [.int 0, dd_1, dd_2, dd_3, dd_4])), (co, .inr (0, [.int 0, co_1, co_2, co_3, co_4, co_5, co_6, co_7, co_8, co_9]))] sz)) 0 0 (va_A [(ob, .inr (9, [.ref tp, .int 0, .ref rd, .ref sa, .ref im, .ref sl, .ref ro, .ref wy, .ref od, .ref ok])), (sl, .inl (y 4, 4, .inr (.inr (.inr (.inr (va_up (va_up (va_up (va_up (fun _ => none) 0 (some s0)) 1 (some s1)) 2 (some s2)) 3 (some s3))))))), (s0, .inr (5, [.int 0, .int 0, .int 0, .ref nu0])), (s1, .inr (5, [.int 0, .int 0, .int 0, .ref nu1])), (s2, .inr (5, [.int 0, .int 0, .int 0, .ref nu2])), (s3, .inr (5, [.int 0, .int 0, .int 0, .ref nu3])), (sa, .inr (6, [.ref tw, .ref co, .ref de, .ref dd, .ref kn, .int 0, .int 0, .ref fo])), (tw, .inr (7, [.int 0, .int 0, .int 3, tw_3, tw_4, tw_5, tw_6, tw_7, tw_8, tw_9, tw_10, tw_11])), (de, .inr (1, [.int 0, de_1, de_2, de_3, de_4, de_5, de_6, de_7])), (dd, .inr (2, [.int 0, dd_1, dd_2, dd_3, dd_4])), (co, .inr (0, [.int 0, co_1, co_2, co_3, co_4, co_5, co_6, co_7, co_8, co_9]))] sz) := by
  refine Met.ofW (cc := cX9_count) (maxL := 2) (ret := (some .int)) (by decide) rfl ?_
  intro p e s m args below meth c s₁ B hml hv
  obtain ⟨rfl, hsz, hP, hK, hD0⟩ := hv
  have hx := B.exec
  have hb := B.bytes
  have hr := B.returns
  have hw0 : ∀ w ∈ wAll, w.before _ s = true := fun w h => atoms_spec (ws := Cond.code yX9_count cX9_count 2 (some .int) :: wAll) B.pre w (List.mem_cons_of_mem _ h)
  have hown : s.vm.findClass RX9 = some m.cls := findClass_of_methodNamed B.named
  have hlocks := B.notSynchronized
  subst hsz
  have hD := hD0.self (sz := s.heap.size)
  generalize hAe : va_A [(ob, .inr (9, [.ref tp, .int 0, .ref rd, .ref sa, .ref im, .ref sl, .ref ro, .ref wy, .ref od, .ref ok])), (sl, .inl (y 4, 4, .inr (.inr (.inr (.inr (va_up (va_up (va_up (va_up (fun _ => none) 0 (some s0)) 1 (some s1)) 2 (some s2)) 3 (some s3))))))), (s0, .inr (5, [.int 0, .int 0, .int 0, .ref nu0])), (s1, .inr (5, [.int 0, .int 0, .int 0, .ref nu1])), (s2, .inr (5, [.int 0, .int 0, .int 0, .ref nu2])), (s3, .inr (5, [.int 0, .int 0, .int 0, .ref nu3])), (sa, .inr (6, [.ref tw, .ref co, .ref de, .ref dd, .ref kn, .int 0, .int 0, .ref fo])), (tw, .inr (7, [.int 0, .int 0, .int 3, tw_3, tw_4, tw_5, tw_6, tw_7, tw_8, tw_9, tw_10, tw_11])), (de, .inr (1, [.int 0, de_1, de_2, de_3, de_4, de_5, de_6, de_7])), (dd, .inr (2, [.int 0, dd_1, dd_2, dd_3, dd_4])), (co, .inr (0, [.int 0, co_1, co_2, co_3, co_4, co_5, co_6, co_7, co_8, co_9]))] s.heap.size = A at hD ⊢
  have hA : ∀ q : Nat, s.heap.size ≤ q → A q := fun q h => by rw [← hAe]; exact Or.inr h
  have hS : va_S A s.heap s.heap [] := va_S.rf
  have hP : va_P G vwCl [(ob, .inr (9, [.ref tp, .int 0, .ref rd, .ref sa, .ref im, .ref sl, .ref ro, .ref wy, .ref od, .ref ok])), (sl, .inl (y 4, 4, .inr (.inr (.inr (.inr (va_up (va_up (va_up (va_up (fun _ => none) 0 (some s0)) 1 (some s1)) 2 (some s2)) 3 (some s3))))))), (s0, .inr (5, [.int 0, .int 0, .int 0, .ref nu0])), (s1, .inr (5, [.int 0, .int 0, .int 0, .ref nu1])), (s2, .inr (5, [.int 0, .int 0, .int 0, .ref nu2])), (s3, .inr (5, [.int 0, .int 0, .int 0, .ref nu3])), (sa, .inr (6, [.ref tw, .ref co, .ref de, .ref dd, .ref kn, .int 0, .int 0, .ref fo])), (tw, .inr (7, [.int 0, .int 0, .int 3, tw_3, tw_4, tw_5, tw_6, tw_7, tw_8, tw_9, tw_10, tw_11])), (de, .inr (1, [.int 0, de_1, de_2, de_3, de_4, de_5, de_6, de_7])), (dd, .inr (2, [.int 0, dd_1, dd_2, dd_3, dd_4])), (co, .inr (0, [.int 0, co_1, co_2, co_3, co_4, co_5, co_6, co_7, co_8, co_9]))] s.heap := hP
  have hl := lv_entry ([.ref ob, .int a1]) (n := 2) (Nat.le_of_ble_eq_true rfl)
  rw [lg_entry_eq]
  generalize (lg_sl ([.ref ob, .int a1]) ++ List.replicate (2 - (lg_sl ([.ref ob, .int a1])).length) Slot.unset).toArray = ls at hl ⊢
  have hl : lv_has ls 2 [(0, .ref ob), (1, .int a1)] := hl
  rcases cn_cases a1 with rfl | rfl | rfl | rfl | rfl | rfl | rfl | rfl | rfl | rfl | rfl | t_a1
  · have hl : lv_has ls 2 [(0, .ref ob), (1, .int 0)] := hl
    refine lv_iload_n hx hb dX9_count_0 rfl (lv_at hl 1 rfl) ?_
    refine lv_tableIn (tgt := 60) hx hb dX9_count_1 (by decide) (by decide) rfl (by decide) ?_
    refine lv_aload_n hx hb dX9_count_60 rfl (lv_at hl 0 rfl) ?_
    refine va_get (D := G) (ci := 9) (v := .ref sa) (C := RX9) (T := TX9) (N := 10) hx hb hw0 inA_wsX90 hown hK.1 hP 0 rfl rfl 3 (by decide) (hw0 _ m_110) (fun _ h9 => h9) rfl dX9_count_61 ?_
    refine va_get (D := G) (ci := 6) (v := .ref tw) (C := RX6) (T := TX6) (N := 8) hx hb hw0 inA_wsX60 hown hK.1 hP 6 rfl rfl 0 (by decide) (hw0 _ m_176) (fun _ h9 => h9) rfl dX9_count_64 ?_
    refine va_get (D := G) (ci := 7) (v := .int 0) (C := RX7) (T := TX7) (N := 12) hx hb hw0 inA_wsX70 hown hK.1 hP 7 rfl rfl 0 (by decide) (hw0 _ m_212) (fun _ h9 => h9) rfl dX9_count_67 ?_
    refine W.widen (k := 0) (n := 0) (Nat.le_of_ble_eq_true rfl) (Nat.le_of_ble_eq_true rfl) ?_
    exact W.iret (v := 0) hx hb hr (fun t ht hW => ⟨⟨0, _, rfl, (by first | rfl | decide | (simp only [sp_count]; (repeat' split) <;> first | rfl | (exfalso; omega))), by rw [ht]; exact hP, hD⟩, hS.F ht⟩) hS.2.2 dX9_count_70
  · have hl : lv_has ls 2 [(0, .ref ob), (1, .int 1)] := hl
    refine lv_iload_n hx hb dX9_count_0 rfl (lv_at hl 1 rfl) ?_
    refine lv_tableIn (tgt := 71) hx hb dX9_count_1 (by decide) (by decide) rfl (by decide) ?_
    refine lv_aload_n hx hb dX9_count_71 rfl (lv_at hl 0 rfl) ?_
    refine va_get (D := G) (ci := 9) (v := .ref sa) (C := RX9) (T := TX9) (N := 10) hx hb hw0 inA_wsX90 hown hK.1 hP 0 rfl rfl 3 (by decide) (hw0 _ m_110) (fun _ h9 => h9) rfl dX9_count_72 ?_
    refine va_get (D := G) (ci := 6) (v := .ref co) (C := RX6) (T := TX6) (N := 8) hx hb hw0 inA_wsX60 hown hK.1 hP 6 rfl rfl 1 (by decide) (hw0 _ m_264) (fun _ h9 => h9) rfl dX9_count_75 ?_
    refine va_get (D := G) (ci := 0) (v := .int 0) (C := RX0) (T := TX0) (N := 10) hx hb hw0 inA_wsX00 hown hK.1 hP 10 rfl rfl 0 (by decide) (hw0 _ m_265) (fun _ h9 => h9) rfl dX9_count_78 ?_
    refine W.widen (k := 0) (n := 0) (Nat.le_of_ble_eq_true rfl) (Nat.le_of_ble_eq_true rfl) ?_
    exact W.iret (v := 0) hx hb hr (fun t ht hW => ⟨⟨0, _, rfl, (by first | rfl | decide | (simp only [sp_count]; (repeat' split) <;> first | rfl | (exfalso; omega))), by rw [ht]; exact hP, hD⟩, hS.F ht⟩) hS.2.2 dX9_count_81
  · have hl : lv_has ls 2 [(0, .ref ob), (1, .int 2)] := hl
    refine lv_iload_n hx hb dX9_count_0 rfl (lv_at hl 1 rfl) ?_
    refine lv_tableIn (tgt := 82) hx hb dX9_count_1 (by decide) (by decide) rfl (by decide) ?_
    refine lv_aload_n hx hb dX9_count_82 rfl (lv_at hl 0 rfl) ?_
    refine va_get (D := G) (ci := 9) (v := .ref sa) (C := RX9) (T := TX9) (N := 10) hx hb hw0 inA_wsX90 hown hK.1 hP 0 rfl rfl 3 (by decide) (hw0 _ m_110) (fun _ h9 => h9) rfl dX9_count_83 ?_
    refine va_get (D := G) (ci := 6) (v := .int 0) (C := RX6) (T := TX6) (N := 8) hx hb hw0 inA_wsX60 hown hK.1 hP 6 rfl rfl 5 (by decide) (hw0 _ m_224) (fun _ h9 => h9) rfl dX9_count_86 ?_
    refine W.widen (k := 0) (n := 0) (Nat.le_of_ble_eq_true rfl) (Nat.le_of_ble_eq_true rfl) ?_
    exact W.iret (v := 0) hx hb hr (fun t ht hW => ⟨⟨0, _, rfl, (by first | rfl | decide | (simp only [sp_count]; (repeat' split) <;> first | rfl | (exfalso; omega))), by rw [ht]; exact hP, hD⟩, hS.F ht⟩) hS.2.2 dX9_count_89
  · have hl : lv_has ls 2 [(0, .ref ob), (1, .int 3)] := hl
    refine lv_iload_n hx hb dX9_count_0 rfl (lv_at hl 1 rfl) ?_
    refine lv_tableIn (tgt := 90) hx hb dX9_count_1 (by decide) (by decide) rfl (by decide) ?_
    refine lv_aload_n hx hb dX9_count_90 rfl (lv_at hl 0 rfl) ?_
    refine va_get (D := G) (ci := 9) (v := .ref sa) (C := RX9) (T := TX9) (N := 10) hx hb hw0 inA_wsX90 hown hK.1 hP 0 rfl rfl 3 (by decide) (hw0 _ m_110) (fun _ h9 => h9) rfl dX9_count_91 ?_
    refine va_get (D := G) (ci := 6) (v := .ref de) (C := RX6) (T := TX6) (N := 8) hx hb hw0 inA_wsX60 hown hK.1 hP 6 rfl rfl 2 (by decide) (hw0 _ m_266) (fun _ h9 => h9) rfl dX9_count_94 ?_
    refine va_get (D := G) (ci := 1) (v := .int 0) (C := RX1) (T := TX1) (N := 8) hx hb hw0 inA_wsX10 hown hK.1 hP 8 rfl rfl 0 (by decide) (hw0 _ m_267) (fun _ h9 => h9) rfl dX9_count_97 ?_
    refine W.widen (k := 0) (n := 0) (Nat.le_of_ble_eq_true rfl) (Nat.le_of_ble_eq_true rfl) ?_
    exact W.iret (v := 0) hx hb hr (fun t ht hW => ⟨⟨0, _, rfl, (by first | rfl | decide | (simp only [sp_count]; (repeat' split) <;> first | rfl | (exfalso; omega))), by rw [ht]; exact hP, hD⟩, hS.F ht⟩) hS.2.2 dX9_count_100
  · have hl : lv_has ls 2 [(0, .ref ob), (1, .int 4)] := hl
    refine lv_iload_n hx hb dX9_count_0 rfl (lv_at hl 1 rfl) ?_
    refine lv_tableIn (tgt := 101) hx hb dX9_count_1 (by decide) (by decide) rfl (by decide) ?_
    refine lv_aload_n hx hb dX9_count_101 rfl (lv_at hl 0 rfl) ?_
    refine va_get (D := G) (ci := 9) (v := .ref sa) (C := RX9) (T := TX9) (N := 10) hx hb hw0 inA_wsX90 hown hK.1 hP 0 rfl rfl 3 (by decide) (hw0 _ m_110) (fun _ h9 => h9) rfl dX9_count_102 ?_
    refine va_get (D := G) (ci := 6) (v := .ref de) (C := RX6) (T := TX6) (N := 8) hx hb hw0 inA_wsX60 hown hK.1 hP 6 rfl rfl 2 (by decide) (hw0 _ m_266) (fun _ h9 => h9) rfl dX9_count_105 ?_
    refine lv_aload_n hx hb dX9_count_108 rfl (lv_at hl 0 rfl) ?_
    refine va_get (D := G) (ci := 9) (v := .ref sa) (C := RX9) (T := TX9) (N := 10) hx hb hw0 inA_wsX90 hown hK.1 hP 0 rfl rfl 3 (by decide) (hw0 _ m_110) (fun _ h9 => h9) rfl dX9_count_109 ?_
    refine va_get (D := G) (ci := 6) (v := .int 0) (C := RX6) (T := TX6) (N := 8) hx hb hw0 inA_wsX60 hown hK.1 hP 6 rfl rfl 5 (by decide) (hw0 _ m_224) (fun _ h9 => h9) rfl dX9_count_112 ?_
    refine cVi (As := [.int 0]) (rest := []) ⟨hx, hb, hml, hown, hw0⟩ hA hK hP hD hS [8] [0, 1, 2, 3, 4, 5, 6, 7, 9, 10] [(de, .inr (1, [.int 0, de_1, de_2, de_3, de_4, de_5, de_6, de_7]))] [(ob, .inr (9, [.ref tp, .int 0, .ref rd, .ref sa, .ref im, .ref sl, .ref ro, .ref wy, .ref od, .ref ok])), (sl, .inl (y 4, 4, .inr (.inr (.inr (.inr (va_up (va_up (va_up (va_up (fun _ => none) 0 (some s0)) 1 (some s1)) 2 (some s2)) 3 (some s3))))))), (s0, .inr (5, [.int 0, .int 0, .int 0, .ref nu0])), (s1, .inr (5, [.int 0, .int 0, .int 0, .ref nu1])), (s2, .inr (5, [.int 0, .int 0, .int 0, .ref nu2])), (s3, .inr (5, [.int 0, .int 0, .int 0, .ref nu3])), (sa, .inr (6, [.ref tw, .ref co, .ref de, .ref dd, .ref kn, .int 0, .int 0, .ref fo])), (tw, .inr (7, [.int 0, .int 0, .int 3, tw_3, tw_4, tw_5, tw_6, tw_7, tw_8, tw_9, tw_10, tw_11])), (dd, .inr (2, [.int 0, dd_1, dd_2, dd_3, dd_4])), (co, .inr (0, [.int 0, co_1, co_2, co_3, co_4, co_5, co_6, co_7, co_8, co_9]))] rfl rfl (by decide) (by decide) (by decide) (kX1_overdue l G y _ de (de_1) (de_2) (de_3) (de_4) (de_5) (de_6) (de_7) ) ⟨(callB_of 1 hw0 (gA m_262) rfl rfl rfl (hw0 _ m_87) (hw0 _ m_268) (by decide +kernel) ⟨Nat.le_of_ble_eq_true rfl, Nat.le_of_ble_eq_true rfl⟩), (hw0 _ m_269), (hw0 _ m_270)⟩ (ci := 1) (q := (RX1, TX1, 8)) rfl rfl rfl hl.1 (Nat.le_of_ble_eq_true rfl) dX9_count_115 ⟨Nat.le_of_ble_eq_true rfl, Nat.le_of_ble_eq_true rfl⟩ (fun r_1 w_1 H locs hw_1 hP hD hS => ?_)
    obtain ⟨rfl, rfl⟩ := hw_1
    have hP : va_P G vwCl [(ob, .inr (9, [.ref tp, .int 0, .ref rd, .ref sa, .ref im, .ref sl, .ref ro, .ref wy, .ref od, .ref ok])), (sl, .inl (y 4, 4, .inr (.inr (.inr (.inr (va_up (va_up (va_up (va_up (fun _ => none) 0 (some s0)) 1 (some s1)) 2 (some s2)) 3 (some s3))))))), (s0, .inr (5, [.int 0, .int 0, .int 0, .ref nu0])), (s1, .inr (5, [.int 0, .int 0, .int 0, .ref nu1])), (s2, .inr (5, [.int 0, .int 0, .int 0, .ref nu2])), (s3, .inr (5, [.int 0, .int 0, .int 0, .ref nu3])), (sa, .inr (6, [.ref tw, .ref co, .ref de, .ref dd, .ref kn, .int 0, .int 0, .ref fo])), (tw, .inr (7, [.int 0, .int 0, .int 3, tw_3, tw_4, tw_5, tw_6, tw_7, tw_8, tw_9, tw_10, tw_11])), (dd, .inr (2, [.int 0, dd_1, dd_2, dd_3, dd_4])), (co, .inr (0, [.int 0, co_1, co_2, co_3, co_4, co_5, co_6, co_7, co_8, co_9])), (de, .inr (1, [.int 0, de_1, de_2, de_3, de_4, de_5, de_6, de_7]))] H := hP
    have hD : va_D A [(ob, .inr (9, [.ref tp, .int 0, .ref rd, .ref sa, .ref im, .ref sl, .ref ro, .ref wy, .ref od, .ref ok])), (sl, .inl (y 4, 4, .inr (.inr (.inr (.inr (va_up (va_up (va_up (va_up (fun _ => none) 0 (some s0)) 1 (some s1)) 2 (some s2)) 3 (some s3))))))), (s0, .inr (5, [.int 0, .int 0, .int 0, .ref nu0])), (s1, .inr (5, [.int 0, .int 0, .int 0, .ref nu1])), (s2, .inr (5, [.int 0, .int 0, .int 0, .ref nu2])), (s3, .inr (5, [.int 0, .int 0, .int 0, .ref nu3])), (sa, .inr (6, [.ref tw, .ref co, .ref de, .ref dd, .ref kn, .int 0, .int 0, .ref fo])), (tw, .inr (7, [.int 0, .int 0, .int 3, tw_3, tw_4, tw_5, tw_6, tw_7, tw_8, tw_9, tw_10, tw_11])), (dd, .inr (2, [.int 0, dd_1, dd_2, dd_3, dd_4])), (co, .inr (0, [.int 0, co_1, co_2, co_3, co_4, co_5, co_6, co_7, co_8, co_9])), (de, .inr (1, [.int 0, de_1, de_2, de_3, de_4, de_5, de_6, de_7]))] := hD
    refine W.widen (k := 0) (n := 0) (Nat.le_of_ble_eq_true rfl) (Nat.le_of_ble_eq_true rfl) ?_
    exact W.iret (v := 0) hx hb hr (fun t ht hW => ⟨⟨0, _, rfl, (by first | rfl | decide | (simp only [sp_count]; (repeat' split) <;> first | rfl | (exfalso; omega))), by rw [ht]; exact hP, hD⟩, hS.F ht⟩) hS.2.2 dX9_count_118
  · have hl : lv_has ls 2 [(0, .ref ob), (1, .int 5)] := hl
    refine lv_iload_n hx hb dX9_count_0 rfl (lv_at hl 1 rfl) ?_
    refine lv_tableIn (tgt := 119) hx hb dX9_count_1 (by decide) (by decide) rfl (by decide) ?_
    refine lv_aload_n hx hb dX9_count_119 rfl (lv_at hl 0 rfl) ?_
    refine va_get (D := G) (ci := 9) (v := .ref sa) (C := RX9) (T := TX9) (N := 10) hx hb hw0 inA_wsX90 hown hK.1 hP 0 rfl rfl 3 (by decide) (hw0 _ m_110) (fun _ h9 => h9) rfl dX9_count_120 ?_
    refine va_get (D := G) (ci := 6) (v := .ref dd) (C := RX6) (T := TX6) (N := 8) hx hb hw0 inA_wsX60 hown hK.1 hP 6 rfl rfl 3 (by decide) (hw0 _ m_271) (fun _ h9 => h9) rfl dX9_count_123 ?_
    refine va_get (D := G) (ci := 2) (v := .int 0) (C := RX2) (T := TX2) (N := 5) hx hb hw0 inA_wsX20 hown hK.1 hP 9 rfl rfl 0 (by decide) (hw0 _ m_272) (fun _ h9 => h9) rfl dX9_count_126 ?_
    refine W.widen (k := 0) (n := 0) (Nat.le_of_ble_eq_true rfl) (Nat.le_of_ble_eq_true rfl) ?_
    exact W.iret (v := 0) hx hb hr (fun t ht hW => ⟨⟨0, _, rfl, (by first | rfl | decide | (simp only [sp_count]; (repeat' split) <;> first | rfl | (exfalso; omega))), by rw [ht]; exact hP, hD⟩, hS.F ht⟩) hS.2.2 dX9_count_129
  · have hl : lv_has ls 2 [(0, .ref ob), (1, .int 6)] := hl
    refine lv_iload_n hx hb dX9_count_0 rfl (lv_at hl 1 rfl) ?_
    refine lv_tableIn (tgt := 130) hx hb dX9_count_1 (by decide) (by decide) rfl (by decide) ?_
    refine lv_aload_n hx hb dX9_count_130 rfl (lv_at hl 0 rfl) ?_
    refine va_get (D := G) (ci := 9) (v := .ref sa) (C := RX9) (T := TX9) (N := 10) hx hb hw0 inA_wsX90 hown hK.1 hP 0 rfl rfl 3 (by decide) (hw0 _ m_110) (fun _ h9 => h9) rfl dX9_count_131 ?_
    refine va_get (D := G) (ci := 6) (v := .int 0) (C := RX6) (T := TX6) (N := 8) hx hb hw0 inA_wsX60 hown hK.1 hP 6 rfl rfl 6 (by decide) (hw0 _ m_273) (fun _ h9 => h9) rfl dX9_count_134 ?_
    refine W.widen (k := 0) (n := 0) (Nat.le_of_ble_eq_true rfl) (Nat.le_of_ble_eq_true rfl) ?_
    exact W.iret (v := 0) hx hb hr (fun t ht hW => ⟨⟨0, _, rfl, (by first | rfl | decide | (simp only [sp_count]; (repeat' split) <;> first | rfl | (exfalso; omega))), by rw [ht]; exact hP, hD⟩, hS.F ht⟩) hS.2.2 dX9_count_137
  · have hl : lv_has ls 2 [(0, .ref ob), (1, .int 7)] := hl
    refine lv_iload_n hx hb dX9_count_0 rfl (lv_at hl 1 rfl) ?_
    refine lv_tableIn (tgt := 138) hx hb dX9_count_1 (by decide) (by decide) rfl (by decide) ?_
    refine lv_aload_n hx hb dX9_count_138 rfl (lv_at hl 0 rfl) ?_
    refine va_get (D := G) (ci := 9) (v := .int 0) (C := RX9) (T := TX9) (N := 10) hx hb hw0 inA_wsX90 hown hK.1 hP 0 rfl rfl 1 (by decide) (hw0 _ m_216) (fun _ h9 => h9) rfl dX9_count_139 ?_
    refine W.widen (k := 0) (n := 0) (Nat.le_of_ble_eq_true rfl) (Nat.le_of_ble_eq_true rfl) ?_
    exact W.iret (v := 0) hx hb hr (fun t ht hW => ⟨⟨0, _, rfl, (by first | rfl | decide | (simp only [sp_count]; (repeat' split) <;> first | rfl | (exfalso; omega))), by rw [ht]; exact hP, hD⟩, hS.F ht⟩) hS.2.2 dX9_count_142
  · have hl : lv_has ls 2 [(0, .ref ob), (1, .int 8)] := hl
    refine lv_iload_n hx hb dX9_count_0 rfl (lv_at hl 1 rfl) ?_
    refine lv_tableIn (tgt := 143) hx hb dX9_count_1 (by decide) (by decide) rfl (by decide) ?_
    refine lv_aload_n hx hb dX9_count_143 rfl (lv_at hl 0 rfl) ?_
    refine va_get (D := G) (ci := 9) (v := .ref sa) (C := RX9) (T := TX9) (N := 10) hx hb hw0 inA_wsX90 hown hK.1 hP 0 rfl rfl 3 (by decide) (hw0 _ m_110) (fun _ h9 => h9) rfl dX9_count_144 ?_
    refine va_get (D := G) (ci := 6) (v := .ref tw) (C := RX6) (T := TX6) (N := 8) hx hb hw0 inA_wsX60 hown hK.1 hP 6 rfl rfl 0 (by decide) (hw0 _ m_176) (fun _ h9 => h9) rfl dX9_count_147 ?_
    refine va_get (D := G) (ci := 7) (v := .int 3) (C := RX7) (T := TX7) (N := 12) hx hb hw0 inA_wsX70 hown hK.1 hP 7 rfl rfl 2 (by decide) (hw0 _ m_274) (fun _ h9 => h9) rfl dX9_count_150 ?_
    refine W.widen (k := 0) (n := 0) (Nat.le_of_ble_eq_true rfl) (Nat.le_of_ble_eq_true rfl) ?_
    exact W.iret (v := 3) hx hb hr (fun t ht hW => ⟨⟨3, _, rfl, (by first | rfl | decide | (simp only [sp_count]; (repeat' split) <;> first | rfl | (exfalso; omega))), by rw [ht]; exact hP, hD⟩, hS.F ht⟩) hS.2.2 dX9_count_153
  · have hl : lv_has ls 2 [(0, .ref ob), (1, .int 9)] := hl
    refine lv_iload_n hx hb dX9_count_0 rfl (lv_at hl 1 rfl) ?_
    refine lv_tableIn (tgt := 154) hx hb dX9_count_1 (by decide) (by decide) rfl (by decide) ?_
    refine lv_aload_n hx hb dX9_count_154 rfl (lv_at hl 0 rfl) ?_
    refine va_get (D := G) (ci := 9) (v := .ref sa) (C := RX9) (T := TX9) (N := 10) hx hb hw0 inA_wsX90 hown hK.1 hP 0 rfl rfl 3 (by decide) (hw0 _ m_110) (fun _ h9 => h9) rfl dX9_count_155 ?_
    refine va_get (D := G) (ci := 6) (v := .ref tw) (C := RX6) (T := TX6) (N := 8) hx hb hw0 inA_wsX60 hown hK.1 hP 6 rfl rfl 0 (by decide) (hw0 _ m_176) (fun _ h9 => h9) rfl dX9_count_158 ?_
    refine va_get (D := G) (ci := 7) (v := .int 0) (C := RX7) (T := TX7) (N := 12) hx hb hw0 inA_wsX70 hown hK.1 hP 7 rfl rfl 1 (by decide) (hw0 _ m_275) (fun _ h9 => h9) rfl dX9_count_161 ?_
    refine W.widen (k := 0) (n := 0) (Nat.le_of_ble_eq_true rfl) (Nat.le_of_ble_eq_true rfl) ?_
    exact W.iret (v := 0) hx hb hr (fun t ht hW => ⟨⟨0, _, rfl, (by first | rfl | decide | (simp only [sp_count]; (repeat' split) <;> first | rfl | (exfalso; omega))), by rw [ht]; exact hP, hD⟩, hS.F ht⟩) hS.2.2 dX9_count_164
  · have hl : lv_has ls 2 [(0, .ref ob), (1, .int 10)] := hl
    refine lv_iload_n hx hb dX9_count_0 rfl (lv_at hl 1 rfl) ?_
    refine lv_tableIn (tgt := 165) hx hb dX9_count_1 (by decide) (by decide) rfl (by decide) ?_
    refine lv_aload_n hx hb dX9_count_165 rfl (lv_at hl 0 rfl) ?_
    refine cVi (As := []) (rest := []) ⟨hx, hb, hml, hown, hw0⟩ hA hK hP hD hS [0, 1, 2, 3, 4, 5] [6, 7, 8, 9, 10] [(ob, .inr (9, [.ref tp, .int 0, .ref rd, .ref sa, .ref im, .ref sl, .ref ro, .ref wy, .ref od, .ref ok])), (sl, .inl (y 4, 4, .inr (.inr (.inr (.inr (va_up (va_up (va_up (va_up (fun _ => none) 0 (some s0)) 1 (some s1)) 2 (some s2)) 3 (some s3))))))), (s0, .inr (5, [.int 0, .int 0, .int 0, .ref nu0])), (s1, .inr (5, [.int 0, .int 0, .int 0, .ref nu1])), (s2, .inr (5, [.int 0, .int 0, .int 0, .ref nu2])), (s3, .inr (5, [.int 0, .int 0, .int 0, .ref nu3]))] [(sa, .inr (6, [.ref tw, .ref co, .ref de, .ref dd, .ref kn, .int 0, .int 0, .ref fo])), (tw, .inr (7, [.int 0, .int 0, .int 3, tw_3, tw_4, tw_5, tw_6, tw_7, tw_8, tw_9, tw_10, tw_11])), (de, .inr (1, [.int 0, de_1, de_2, de_3, de_4, de_5, de_6, de_7])), (dd, .inr (2, [.int 0, dd_1, dd_2, dd_3, dd_4])), (co, .inr (0, [.int 0, co_1, co_2, co_3, co_4, co_5, co_6, co_7, co_8, co_9]))] rfl rfl (by decide) (by decide) (by decide) (kX9_filledSlots l G y _ ob tp rd sa im sl ro wy od ok s0 s1 s2 s3 nu0 nu1 nu2 nu3 ) ⟨(callB_of 0 hw0 (gA m_263) rfl rfl rfl (hw0 _ m_183) (hw0 _ m_276) (by decide +kernel) ⟨Nat.le_of_ble_eq_true rfl, Nat.le_of_ble_eq_true rfl⟩), (hw0 _ m_277), (hw0 _ m_278)⟩ (ci := 9) (q := (RX9, TX9, 10)) rfl rfl rfl hl.1 (Nat.le_of_ble_eq_true rfl) dX9_count_166 ⟨Nat.le_of_ble_eq_true rfl, Nat.le_of_ble_eq_true rfl⟩ (fun r_2 w_2 H locs hw_2 hP hD hS => ?_)
    obtain ⟨rfl, rfl⟩ := hw_2
    have hP : va_P G vwCl [(sa, .inr (6, [.ref tw, .ref co, .ref de, .ref dd, .ref kn, .int 0, .int 0, .ref fo])), (tw, .inr (7, [.int 0, .int 0, .int 3, tw_3, tw_4, tw_5, tw_6, tw_7, tw_8, tw_9, tw_10, tw_11])), (de, .inr (1, [.int 0, de_1, de_2, de_3, de_4, de_5, de_6, de_7])), (dd, .inr (2, [.int 0, dd_1, dd_2, dd_3, dd_4])), (co, .inr (0, [.int 0, co_1, co_2, co_3, co_4, co_5, co_6, co_7, co_8, co_9])), (ob, .inr (9, [.ref tp, .int 0, .ref rd, .ref sa, .ref im, .ref sl, .ref ro, .ref wy, .ref od, .ref ok])), (sl, .inl (y 4, 4, .inr (.inr (.inr (.inr (va_up (va_up (va_up (va_up (fun _ => none) 0 (some s0)) 1 (some s1)) 2 (some s2)) 3 (some s3))))))), (s0, .inr (5, [.int 0, .int 0, .int 0, .ref nu0])), (s1, .inr (5, [.int 0, .int 0, .int 0, .ref nu1])), (s2, .inr (5, [.int 0, .int 0, .int 0, .ref nu2])), (s3, .inr (5, [.int 0, .int 0, .int 0, .ref nu3]))] H := hP
    have hD : va_D A [(sa, .inr (6, [.ref tw, .ref co, .ref de, .ref dd, .ref kn, .int 0, .int 0, .ref fo])), (tw, .inr (7, [.int 0, .int 0, .int 3, tw_3, tw_4, tw_5, tw_6, tw_7, tw_8, tw_9, tw_10, tw_11])), (de, .inr (1, [.int 0, de_1, de_2, de_3, de_4, de_5, de_6, de_7])), (dd, .inr (2, [.int 0, dd_1, dd_2, dd_3, dd_4])), (co, .inr (0, [.int 0, co_1, co_2, co_3, co_4, co_5, co_6, co_7, co_8, co_9])), (ob, .inr (9, [.ref tp, .int 0, .ref rd, .ref sa, .ref im, .ref sl, .ref ro, .ref wy, .ref od, .ref ok])), (sl, .inl (y 4, 4, .inr (.inr (.inr (.inr (va_up (va_up (va_up (va_up (fun _ => none) 0 (some s0)) 1 (some s1)) 2 (some s2)) 3 (some s3))))))), (s0, .inr (5, [.int 0, .int 0, .int 0, .ref nu0])), (s1, .inr (5, [.int 0, .int 0, .int 0, .ref nu1])), (s2, .inr (5, [.int 0, .int 0, .int 0, .ref nu2])), (s3, .inr (5, [.int 0, .int 0, .int 0, .ref nu3]))] := hD
    refine W.widen (k := 0) (n := 0) (Nat.le_of_ble_eq_true rfl) (Nat.le_of_ble_eq_true rfl) ?_
    exact W.iret (v := 0) hx hb hr (fun t ht hW => ⟨⟨0, _, rfl, (by first | rfl | decide | (simp only [sp_count]; (repeat' split) <;> first | rfl | (exfalso; omega))), by rw [ht]; exact hP, hD⟩, hS.F ht⟩) hS.2.2 dX9_count_169
  · have hl : lv_has ls 2 [(0, .ref ob), (1, .int a1)] := hl
    refine lv_iload_n hx hb dX9_count_0 rfl (lv_at hl 1 rfl) ?_
    refine lv_tableOut (tgt := 170) hx hb dX9_count_1 (by omega) (by decide) ?_
    refine lv_iconst (v := (-1)) hx hb dX9_count_170 (by decide) ?_
    refine W.widen (k := 0) (n := 0) (Nat.le_of_ble_eq_true rfl) (Nat.le_of_ble_eq_true rfl) ?_
    exact W.iret (v := (-1)) hx hb hr (fun t ht hW => ⟨⟨(-1), _, rfl, (by first | rfl | decide | (simp only [sp_count]; (repeat' split) <;> first | rfl | (exfalso; omega))), by rw [ht]; exact hP, hD⟩, hS.F ht⟩) hS.2.2 dX9_count_171
