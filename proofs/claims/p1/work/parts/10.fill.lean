set_option maxHeartbeats 4000000 in
set_option maxRecDepth 100000 in
theorem kfill16 (l : Launch) (G : va_G) (y : Nat → ClassId) (sz : Nat) (ar : Nat) (va : Int32) (f0 : Nat → Int32)  : Met l yJ7_fill_53178 (Cond.code yJ7_fill_53178 cJ7_fill_53178 4 none :: wAll) ({ frames := 0, cells := 0, slots := 0, locals := 0 }) (va_Pc [.ref ar, .int va] (kp G y sz [(ar, .inl (y 1, 16, .inl f0))])) (va_Qv (fun (w : va_W) => (∃ (f_1 : Nat → Int32), w = [(ar, .inl (y 1, 16, .inl f_1))])) (kq G (va_A [(ar, .inl (y 1, 16, .inl f0))] sz)) (va_A [(ar, .inl (y 1, 16, .inl f0))] sz)) 0 0 (va_A [(ar, .inl (y 1, 16, .inl f0))] sz) := by
  refine Met.ofW (cc := cJ7_fill_53178) (maxL := 4) (ret := none) (by decide) rfl ?_
  intro p e s m args below meth c s₁ B hml hv
  obtain ⟨rfl, hsz, hP, hK, hD0⟩ := hv
  have hx := B.exec
  have hb := B.bytes
  have hr := B.returns
  have hw0 : ∀ w ∈ wAll, w.before _ s = true := fun w h => atoms_spec (ws := Cond.code yJ7_fill_53178 cJ7_fill_53178 4 none :: wAll) B.pre w (List.mem_cons_of_mem _ h)
  have hown : s.vm.findClass RJ7 = some m.cls := findClass_of_methodNamed B.named
  have hlocks := B.notSynchronized
  subst hsz
  have hD := hD0.self (sz := s.heap.size)
  generalize hAe : va_A [(ar, .inl (y 1, 16, .inl f0))] s.heap.size = A at hD ⊢
  have hA : ∀ q : Nat, s.heap.size ≤ q → A q := fun q h => by rw [← hAe]; exact Or.inr h
  have hS : va_S A s.heap s.heap [] := va_S.rf
  have hP : va_P G vwCl [(ar, .inl (y 1, 16, .inl f0))] s.heap := hP
  have hl := lv_entry ([.ref ar, .int va]) (n := 4) (Nat.le_of_ble_eq_true rfl)
  rw [lg_entry_eq]
  generalize (lg_sl ([.ref ar, .int va]) ++ List.replicate (4 - (lg_sl ([.ref ar, .int va])).length) Slot.unset).toArray = ls at hl ⊢
  have hl : lv_has ls 4 [(0, .ref ar), (1, .int va)] := hl
  refine lv_iconst (v := 0) hx hb dJ7_fill_53178_0 (by decide) ?_
  refine lv_istore_n (lv' := [(2, .int 0), (0, .ref ar), (1, .int va)]) hx hb dJ7_fill_53178_1 rfl hl (by decide) rfl (fun ls hl => ?_)
  refine lv_aload_n hx hb dJ7_fill_53178_2 rfl (lv_at hl 1 rfl) ?_
  refine va_alen (v := 16) hx hb hK.1 hP 0 1 rfl rfl rfl dJ7_fill_53178_3 ?_
  refine lv_istore_n (lv' := [(3, .int 16), (2, .int 0), (0, .ref ar), (1, .int va)]) hx hb dJ7_fill_53178_4 rfl hl (by decide) rfl (fun ls hl => ?_)
  refine loopW (σ := (Nat → Int32)) (fun n x H locs ls => ∃ i_2 : Nat, i_2 + n = 16 ∧ va_P G vwCl [(ar, .inl (y 1, 16, .inl (x)))] H ∧ va_D A [(ar, .inl (y 1, 16, .inl (x)))] ∧ va_S A s.heap H locs ∧ lv_has ls 4 [(3, .int 16), (2, .int (nI (i_2))), (0, .ref ar), (1, .int va)]) ?_ ?_ 16 (f0) ⟨0, by omega, hP, hD, hS, lv_sub hl [0, 1, 2, 3] rfl⟩
  · rintro f_3 H locs ls ⟨i_5, hi9, hP, hD, hS, hl⟩
    obtain rfl : i_5 = 16 := by omega
    have hP : va_P G vwCl [(ar, .inl (y 1, 16, .inl f_3))] H := hP
    have hD : va_D A [(ar, .inl (y 1, 16, .inl f_3))] := hD
    have hl : lv_has ls 4 [(3, .int 16), (2, .int 16), (0, .ref ar), (1, .int va)] := hl
    refine lv_iload_n hx hb dJ7_fill_53178_5 rfl (lv_at hl 1 rfl) ?_
    refine lv_iload_n hx hb dJ7_fill_53178_6 rfl (lv_at hl 0 rfl) ?_
    refine lv_icmp_ge (tgt := 20) hx hb dJ7_fill_53178_7 (by decide) (fun _ => ?_) (fun c9 => absurd (by decide) c9)
    refine W.widen (k := 0) (n := 0) (Nat.le_of_ble_eq_true rfl) (Nat.le_of_ble_eq_true rfl) ?_
    exact W.vret hx hb hr (fun t ht hW => ⟨⟨([(ar, .inl (y 1, 16, .inl f_3))] : va_W), rfl, ⟨_, rfl⟩, by rw [ht]; exact hP, hD⟩, hS.F ht⟩) hS.2.2 dJ7_fill_53178_20
  · rintro n_8 ih_10 f_7 H locs ls ⟨i_9, hi_i_9, hP, hD, hS, hl⟩
    have hb_i_9 : i_9 < 16 := by omega
    have hP : va_P G vwCl [(ar, .inl (y 1, 16, .inl f_7))] H := hP
    have hD : va_D A [(ar, .inl (y 1, 16, .inl f_7))] := hD
    have hl : lv_has ls 4 [(3, .int 16), (2, .int (nI (i_9))), (0, .ref ar), (1, .int va)] := hl
    refine lv_iload_n hx hb dJ7_fill_53178_5 rfl (lv_at hl 1 rfl) ?_
    refine lv_iload_n hx hb dJ7_fill_53178_6 rfl (lv_at hl 0 rfl) ?_
    refine lv_icmp_ge (tgt := 20) hx hb dJ7_fill_53178_7 (by decide) (fun c9 => absurd c9 (nI_ge (a := i_9) (b := 16) (by omega) (by omega))) (fun _ => ?_)
    refine lv_aload_n hx hb dJ7_fill_53178_10 rfl (lv_at hl 2 rfl) ?_
    refine lv_iload_n hx hb dJ7_fill_53178_11 rfl (lv_at hl 1 rfl) ?_
    refine lv_iload_n hx hb dJ7_fill_53178_12 rfl (lv_at hl 3 rfl) ?_
    refine va_iast hx hb hK.1 hP hD hS 0 1 rfl rfl (vp_in_nI (n := i_9) (N := 16) (by omega) (by decide)) dJ7_fill_53178_13 (fun H locs hP hD hS => ?_)
    generalize (upd f_7 ((nI (i_9)) : Int32).toNatClampNeg va) = f_11 at hP hD
    have hP : va_P G vwCl [(ar, .inl (y 1, 16, .inl f_11))] H := hP
    have hD : va_D A [(ar, .inl (y 1, 16, .inl f_11))] := hD
    refine lv_iinc (v := (nI (i_9 + 1))) (lv' := [(2, .int (nI (i_9 + 1))), (3, .int 16), (0, .ref ar), (1, .int va)]) hx hb dJ7_fill_53178_14 hl (k := 1) rfl (by exact nI_1 _) (by decide) rfl (fun ls hl => ?_)
    refine lv_goto (tgt := 5) hx hb dJ7_fill_53178_17 (by decide) ?_
    exact ih_10 _ H locs ls ⟨i_9 + 1, by omega, hP, hD, hS, lv_sub hl [1, 0, 2, 3] rfl⟩

set_option maxHeartbeats 4000000 in
set_option maxRecDepth 100000 in
theorem kfill256 (l : Launch) (G : va_G) (y : Nat → ClassId) (sz : Nat) (ar : Nat) (va : Int32) (f0 : Nat → Int32)  : Met l yJ7_fill_53178 (Cond.code yJ7_fill_53178 cJ7_fill_53178 4 none :: wAll) ({ frames := 0, cells := 0, slots := 0, locals := 0 }) (va_Pc [.ref ar, .int va] (kp G y sz [(ar, .inl (y 1, 256, .inl f0))])) (va_Qv (fun (w : va_W) => (∃ (f_1 : Nat → Int32), w = [(ar, .inl (y 1, 256, .inl f_1))])) (kq G (va_A [(ar, .inl (y 1, 256, .inl f0))] sz)) (va_A [(ar, .inl (y 1, 256, .inl f0))] sz)) 0 0 (va_A [(ar, .inl (y 1, 256, .inl f0))] sz) := by
  refine Met.ofW (cc := cJ7_fill_53178) (maxL := 4) (ret := none) (by decide) rfl ?_
  intro p e s m args below meth c s₁ B hml hv
  obtain ⟨rfl, hsz, hP, hK, hD0⟩ := hv
  have hx := B.exec
  have hb := B.bytes
  have hr := B.returns
  have hw0 : ∀ w ∈ wAll, w.before _ s = true := fun w h => atoms_spec (ws := Cond.code yJ7_fill_53178 cJ7_fill_53178 4 none :: wAll) B.pre w (List.mem_cons_of_mem _ h)
  have hown : s.vm.findClass RJ7 = some m.cls := findClass_of_methodNamed B.named
  have hlocks := B.notSynchronized
  subst hsz
  have hD := hD0.self (sz := s.heap.size)
  generalize hAe : va_A [(ar, .inl (y 1, 256, .inl f0))] s.heap.size = A at hD ⊢
  have hA : ∀ q : Nat, s.heap.size ≤ q → A q := fun q h => by rw [← hAe]; exact Or.inr h
  have hS : va_S A s.heap s.heap [] := va_S.rf
  have hP : va_P G vwCl [(ar, .inl (y 1, 256, .inl f0))] s.heap := hP
  have hl := lv_entry ([.ref ar, .int va]) (n := 4) (Nat.le_of_ble_eq_true rfl)
  rw [lg_entry_eq]
  generalize (lg_sl ([.ref ar, .int va]) ++ List.replicate (4 - (lg_sl ([.ref ar, .int va])).length) Slot.unset).toArray = ls at hl ⊢
  have hl : lv_has ls 4 [(0, .ref ar), (1, .int va)] := hl
  refine lv_iconst (v := 0) hx hb dJ7_fill_53178_0 (by decide) ?_
  refine lv_istore_n (lv' := [(2, .int 0), (0, .ref ar), (1, .int va)]) hx hb dJ7_fill_53178_1 rfl hl (by decide) rfl (fun ls hl => ?_)
  refine lv_aload_n hx hb dJ7_fill_53178_2 rfl (lv_at hl 1 rfl) ?_
  refine va_alen (v := 256) hx hb hK.1 hP 0 1 rfl rfl rfl dJ7_fill_53178_3 ?_
  refine lv_istore_n (lv' := [(3, .int 256), (2, .int 0), (0, .ref ar), (1, .int va)]) hx hb dJ7_fill_53178_4 rfl hl (by decide) rfl (fun ls hl => ?_)
  refine loopW (σ := (Nat → Int32)) (fun n x H locs ls => ∃ i_2 : Nat, i_2 + n = 256 ∧ va_P G vwCl [(ar, .inl (y 1, 256, .inl (x)))] H ∧ va_D A [(ar, .inl (y 1, 256, .inl (x)))] ∧ va_S A s.heap H locs ∧ lv_has ls 4 [(3, .int 256), (2, .int (nI (i_2))), (0, .ref ar), (1, .int va)]) ?_ ?_ 256 (f0) ⟨0, by omega, hP, hD, hS, lv_sub hl [0, 1, 2, 3] rfl⟩
  · rintro f_3 H locs ls ⟨i_5, hi9, hP, hD, hS, hl⟩
    obtain rfl : i_5 = 256 := by omega
    have hP : va_P G vwCl [(ar, .inl (y 1, 256, .inl f_3))] H := hP
    have hD : va_D A [(ar, .inl (y 1, 256, .inl f_3))] := hD
    have hl : lv_has ls 4 [(3, .int 256), (2, .int 256), (0, .ref ar), (1, .int va)] := hl
    refine lv_iload_n hx hb dJ7_fill_53178_5 rfl (lv_at hl 1 rfl) ?_
    refine lv_iload_n hx hb dJ7_fill_53178_6 rfl (lv_at hl 0 rfl) ?_
    refine lv_icmp_ge (tgt := 20) hx hb dJ7_fill_53178_7 (by decide) (fun _ => ?_) (fun c9 => absurd (by decide) c9)
    refine W.widen (k := 0) (n := 0) (Nat.le_of_ble_eq_true rfl) (Nat.le_of_ble_eq_true rfl) ?_
    exact W.vret hx hb hr (fun t ht hW => ⟨⟨([(ar, .inl (y 1, 256, .inl f_3))] : va_W), rfl, ⟨_, rfl⟩, by rw [ht]; exact hP, hD⟩, hS.F ht⟩) hS.2.2 dJ7_fill_53178_20
  · rintro n_8 ih_10 f_7 H locs ls ⟨i_9, hi_i_9, hP, hD, hS, hl⟩
    have hb_i_9 : i_9 < 256 := by omega
    have hP : va_P G vwCl [(ar, .inl (y 1, 256, .inl f_7))] H := hP
    have hD : va_D A [(ar, .inl (y 1, 256, .inl f_7))] := hD
    have hl : lv_has ls 4 [(3, .int 256), (2, .int (nI (i_9))), (0, .ref ar), (1, .int va)] := hl
    refine lv_iload_n hx hb dJ7_fill_53178_5 rfl (lv_at hl 1 rfl) ?_
    refine lv_iload_n hx hb dJ7_fill_53178_6 rfl (lv_at hl 0 rfl) ?_
    refine lv_icmp_ge (tgt := 20) hx hb dJ7_fill_53178_7 (by decide) (fun c9 => absurd c9 (nI_ge (a := i_9) (b := 256) (by omega) (by omega))) (fun _ => ?_)
    refine lv_aload_n hx hb dJ7_fill_53178_10 rfl (lv_at hl 2 rfl) ?_
    refine lv_iload_n hx hb dJ7_fill_53178_11 rfl (lv_at hl 1 rfl) ?_
    refine lv_iload_n hx hb dJ7_fill_53178_12 rfl (lv_at hl 3 rfl) ?_
    refine va_iast hx hb hK.1 hP hD hS 0 1 rfl rfl (vp_in_nI (n := i_9) (N := 256) (by omega) (by decide)) dJ7_fill_53178_13 (fun H locs hP hD hS => ?_)
    generalize (upd f_7 ((nI (i_9)) : Int32).toNatClampNeg va) = f_11 at hP hD
    have hP : va_P G vwCl [(ar, .inl (y 1, 256, .inl f_11))] H := hP
    have hD : va_D A [(ar, .inl (y 1, 256, .inl f_11))] := hD
    refine lv_iinc (v := (nI (i_9 + 1))) (lv' := [(2, .int (nI (i_9 + 1))), (3, .int 256), (0, .ref ar), (1, .int va)]) hx hb dJ7_fill_53178_14 hl (k := 1) rfl (by exact nI_1 _) (by decide) rfl (fun ls hl => ?_)
    refine lv_goto (tgt := 5) hx hb dJ7_fill_53178_17 (by decide) ?_
    exact ih_10 _ H locs ls ⟨i_9 + 1, by omega, hP, hD, hS, lv_sub hl [1, 0, 2, 3] rfl⟩

set_option maxHeartbeats 4000000 in
set_option maxRecDepth 100000 in
theorem kfill60 (l : Launch) (G : va_G) (y : Nat → ClassId) (sz : Nat) (ar : Nat) (va : Int64) (f0 : Nat → Int64)  : Met l yJ7_fill_d0a16 (Cond.code yJ7_fill_d0a16 cJ7_fill_d0a16 5 none :: wAll) ({ frames := 0, cells := 0, slots := 0, locals := 0 }) (va_Pc [.ref ar, .long va] (kp G y sz [(ar, .inl (y 2, 60, .inr (.inl f0)))])) (va_Qv (fun (w : va_W) => (∃ (f_1 : Nat → Int64), w = [(ar, .inl (y 2, 60, .inr (.inl f_1)))])) (kq G (va_A [(ar, .inl (y 2, 60, .inr (.inl f0)))] sz)) (va_A [(ar, .inl (y 2, 60, .inr (.inl f0)))] sz)) 0 0 (va_A [(ar, .inl (y 2, 60, .inr (.inl f0)))] sz) := by
  refine Met.ofW (cc := cJ7_fill_d0a16) (maxL := 5) (ret := none) (by decide) rfl ?_
  intro p e s m args below meth c s₁ B hml hv
  obtain ⟨rfl, hsz, hP, hK, hD0⟩ := hv
  have hx := B.exec
  have hb := B.bytes
  have hr := B.returns
  have hw0 : ∀ w ∈ wAll, w.before _ s = true := fun w h => atoms_spec (ws := Cond.code yJ7_fill_d0a16 cJ7_fill_d0a16 5 none :: wAll) B.pre w (List.mem_cons_of_mem _ h)
  have hown : s.vm.findClass RJ7 = some m.cls := findClass_of_methodNamed B.named
  have hlocks := B.notSynchronized
  subst hsz
  have hD := hD0.self (sz := s.heap.size)
  generalize hAe : va_A [(ar, .inl (y 2, 60, .inr (.inl f0)))] s.heap.size = A at hD ⊢
  have hA : ∀ q : Nat, s.heap.size ≤ q → A q := fun q h => by rw [← hAe]; exact Or.inr h
  have hS : va_S A s.heap s.heap [] := va_S.rf
  have hP : va_P G vwCl [(ar, .inl (y 2, 60, .inr (.inl f0)))] s.heap := hP
  have hl := lv_entry ([.ref ar, .long va]) (n := 5) (Nat.le_of_ble_eq_true rfl)
  rw [lg_entry_eq]
  generalize (lg_sl ([.ref ar, .long va]) ++ List.replicate (5 - (lg_sl ([.ref ar, .long va])).length) Slot.unset).toArray = ls at hl ⊢
  have hl : lv_has ls 5 [(0, .ref ar), (1, .long va)] := hl
  refine lv_iconst (v := 0) hx hb dJ7_fill_d0a16_0 (by decide) ?_
  refine lv_istore_n (lv' := [(3, .int 0), (0, .ref ar), (1, .long va)]) hx hb dJ7_fill_d0a16_1 rfl hl (by decide) rfl (fun ls hl => ?_)
  refine lv_aload_n hx hb dJ7_fill_d0a16_2 rfl (lv_at hl 1 rfl) ?_
  refine va_alen (v := 60) hx hb hK.1 hP 0 2 rfl rfl rfl dJ7_fill_d0a16_3 ?_
  refine lv_istore (lv' := [(4, .int 60), (3, .int 0), (0, .ref ar), (1, .long va)]) hx hb dJ7_fill_d0a16_4 hl (by decide) rfl (fun ls hl => ?_)
  refine loopW (σ := (Nat → Int64)) (fun n x H locs ls => ∃ i_2 : Nat, i_2 + n = 60 ∧ va_P G vwCl [(ar, .inl (y 2, 60, .inr (.inl (x))))] H ∧ va_D A [(ar, .inl (y 2, 60, .inr (.inl (x))))] ∧ va_S A s.heap H locs ∧ lv_has ls 5 [(4, .int 60), (3, .int (nI (i_2))), (0, .ref ar), (1, .long va)]) ?_ ?_ 60 (f0) ⟨0, by omega, hP, hD, hS, lv_sub hl [0, 1, 2, 3] rfl⟩
  · rintro f_3 H locs ls ⟨i_5, hi9, hP, hD, hS, hl⟩
    obtain rfl : i_5 = 60 := by omega
    have hP : va_P G vwCl [(ar, .inl (y 2, 60, .inr (.inl f_3)))] H := hP
    have hD : va_D A [(ar, .inl (y 2, 60, .inr (.inl f_3)))] := hD
    have hl : lv_has ls 5 [(4, .int 60), (3, .int 60), (0, .ref ar), (1, .long va)] := hl
    refine lv_iload_n hx hb dJ7_fill_d0a16_6 rfl (lv_at hl 1 rfl) ?_
    refine lv_iload hx hb dJ7_fill_d0a16_7 (lv_at hl 0 rfl) ?_
    refine lv_icmp_ge (tgt := 22) hx hb dJ7_fill_d0a16_9 (by decide) (fun _ => ?_) (fun c9 => absurd (by decide) c9)
    refine W.widen (k := 0) (n := 0) (Nat.le_of_ble_eq_true rfl) (Nat.le_of_ble_eq_true rfl) ?_
    exact W.vret hx hb hr (fun t ht hW => ⟨⟨([(ar, .inl (y 2, 60, .inr (.inl f_3)))] : va_W), rfl, ⟨_, rfl⟩, by rw [ht]; exact hP, hD⟩, hS.F ht⟩) hS.2.2 dJ7_fill_d0a16_22
  · rintro n_8 ih_10 f_7 H locs ls ⟨i_9, hi_i_9, hP, hD, hS, hl⟩
    have hb_i_9 : i_9 < 60 := by omega
    have hP : va_P G vwCl [(ar, .inl (y 2, 60, .inr (.inl f_7)))] H := hP
    have hD : va_D A [(ar, .inl (y 2, 60, .inr (.inl f_7)))] := hD
    have hl : lv_has ls 5 [(4, .int 60), (3, .int (nI (i_9))), (0, .ref ar), (1, .long va)] := hl
    refine lv_iload_n hx hb dJ7_fill_d0a16_6 rfl (lv_at hl 1 rfl) ?_
    refine lv_iload hx hb dJ7_fill_d0a16_7 (lv_at hl 0 rfl) ?_
    refine lv_icmp_ge (tgt := 22) hx hb dJ7_fill_d0a16_9 (by decide) (fun c9 => absurd c9 (nI_ge (a := i_9) (b := 60) (by omega) (by omega))) (fun _ => ?_)
    refine lv_aload_n hx hb dJ7_fill_d0a16_12 rfl (lv_at hl 2 rfl) ?_
    refine lv_iload_n hx hb dJ7_fill_d0a16_13 rfl (lv_at hl 1 rfl) ?_
    refine lv_lload_n hx hb dJ7_fill_d0a16_14 rfl (lv_at hl 3 rfl) ?_
    refine va_last hx hb hK.1 hP hD hS 0 2 rfl rfl (vp_in_nI (n := i_9) (N := 60) (by omega) (by decide)) dJ7_fill_d0a16_15 (fun H locs hP hD hS => ?_)
    generalize (vp_updL f_7 ((nI (i_9)) : Int32).toNatClampNeg va) = f_11 at hP hD
    have hP : va_P G vwCl [(ar, .inl (y 2, 60, .inr (.inl f_11)))] H := hP
    have hD : va_D A [(ar, .inl (y 2, 60, .inr (.inl f_11)))] := hD
    refine lv_iinc (v := (nI (i_9 + 1))) (lv' := [(3, .int (nI (i_9 + 1))), (4, .int 60), (0, .ref ar), (1, .long va)]) hx hb dJ7_fill_d0a16_16 hl (k := 1) rfl (by exact nI_1 _) (by decide) rfl (fun ls hl => ?_)
    refine lv_goto (tgt := 6) hx hb dJ7_fill_d0a16_19 (by decide) ?_
    exact ih_10 _ H locs ls ⟨i_9 + 1, by omega, hP, hD, hS, lv_sub hl [1, 0, 2, 3] rfl⟩

set_option maxHeartbeats 4000000 in
set_option maxRecDepth 100000 in
theorem kX5_lay (l : Launch) (G : va_G) (y : Nat → ClassId) (sz : Nat) (s0 : Nat) (a1 : Int32) (a2 : Int32) (nu0 : Nat) (f0 : Nat → Int64)  : Met l yX5_lay (Cond.code yX5_lay cX5_lay 3 none :: wAll) ({ frames := 1, cells := 0, slots := 0, locals := 24 }) (va_Pc [.ref s0, .int a1, .int a2] (kp G y sz [(s0, .inr (5, [.int 0, .int 0, .int 0, .ref nu0])), (nu0, .inl (y 2, 60, .inr (.inl f0)))])) (va_Qv (fun (w : va_W) => (∃ (f_1 : Nat → Int64), w = [(s0, .inr (5, [.int 1, .int a1, .int a2, .ref nu0])), (nu0, .inl (y 2, 60, .inr (.inl f_1)))])) (kq G (va_A [(s0, .inr (5, [.int 0, .int 0, .int 0, .ref nu0])), (nu0, .inl (y 2, 60, .inr (.inl f0)))] sz)) (va_A [(s0, .inr (5, [.int 0, .int 0, .int 0, .ref nu0])), (nu0, .inl (y 2, 60, .inr (.inl f0)))] sz)) 0 0 (va_A [(s0, .inr (5, [.int 0, .int 0, .int 0, .ref nu0])), (nu0, .inl (y 2, 60, .inr (.inl f0)))] sz) := by
  refine Met.ofW (cc := cX5_lay) (maxL := 3) (ret := none) (by decide) rfl ?_
  intro p e s m args below meth c s₁ B hml hv
  obtain ⟨rfl, hsz, hP, hK, hD0⟩ := hv
  have hx := B.exec
  have hb := B.bytes
  have hr := B.returns
  have hw0 : ∀ w ∈ wAll, w.before _ s = true := fun w h => atoms_spec (ws := Cond.code yX5_lay cX5_lay 3 none :: wAll) B.pre w (List.mem_cons_of_mem _ h)
  have hown : s.vm.findClass RX5 = some m.cls := findClass_of_methodNamed B.named
  have hlocks := B.notSynchronized
  subst hsz
  have hD := hD0.self (sz := s.heap.size)
  generalize hAe : va_A [(s0, .inr (5, [.int 0, .int 0, .int 0, .ref nu0])), (nu0, .inl (y 2, 60, .inr (.inl f0)))] s.heap.size = A at hD ⊢
  have hA : ∀ q : Nat, s.heap.size ≤ q → A q := fun q h => by rw [← hAe]; exact Or.inr h
  have hS : va_S A s.heap s.heap [] := va_S.rf
  have hP : va_P G vwCl [(s0, .inr (5, [.int 0, .int 0, .int 0, .ref nu0])), (nu0, .inl (y 2, 60, .inr (.inl f0)))] s.heap := hP
  have hl := lv_entry ([.ref s0, .int a1, .int a2]) (n := 3) (Nat.le_of_ble_eq_true rfl)
  rw [lg_entry_eq]
  generalize (lg_sl ([.ref s0, .int a1, .int a2]) ++ List.replicate (3 - (lg_sl ([.ref s0, .int a1, .int a2])).length) Slot.unset).toArray = ls at hl ⊢
  have hl : lv_has ls 3 [(0, .ref s0), (1, .int a1), (2, .int a2)] := hl
  refine lv_aload_n hx hb dX5_lay_0 rfl (lv_at hl 0 rfl) ?_
  refine lv_iconst (v := 1) hx hb dX5_lay_1 (by decide) ?_
  refine va_put (D := G) (ci := 5) (v := .int 1) (ty := .boolean) (C := RX5) (T := TX5) (N := 4) hx hb hw0 inA_wsX50 tyX5 tyX5_ok nmX5 hown hK.1 hP hD hS 0 rfl rfl 0 (by decide) (hw0 _ m_239) (fun _ h9 => h9) rfl (by decide +kernel) rfl rfl (Nat.le_of_ble_eq_true rfl) dX5_lay_2 (fun H locs hP hD hS => ?_)
  have hP : va_P G vwCl [(s0, .inr (5, [.int 1, .int 0, .int 0, .ref nu0])), (nu0, .inl (y 2, 60, .inr (.inl f0)))] H := hP
  have hD : va_D A [(s0, .inr (5, [.int 1, .int 0, .int 0, .ref nu0])), (nu0, .inl (y 2, 60, .inr (.inl f0)))] := hD
  refine lv_aload_n hx hb dX5_lay_5 rfl (lv_at hl 0 rfl) ?_
  refine lv_iload_n hx hb dX5_lay_6 rfl (lv_at hl 1 rfl) ?_
  refine va_put (D := G) (ci := 5) (v := .int a1) (ty := .int) (C := RX5) (T := TX5) (N := 4) hx hb hw0 inA_wsX50 tyX5 tyX5_ok nmX5 hown hK.1 hP hD hS 0 rfl rfl 1 (by decide) (hw0 _ m_240) (fun _ h9 => h9) rfl (by decide +kernel) rfl rfl (Nat.le_of_ble_eq_true rfl) dX5_lay_7 (fun H locs hP hD hS => ?_)
  have hP : va_P G vwCl [(s0, .inr (5, [.int 1, .int a1, .int 0, .ref nu0])), (nu0, .inl (y 2, 60, .inr (.inl f0)))] H := hP
  have hD : va_D A [(s0, .inr (5, [.int 1, .int a1, .int 0, .ref nu0])), (nu0, .inl (y 2, 60, .inr (.inl f0)))] := hD
  refine lv_aload_n hx hb dX5_lay_10 rfl (lv_at hl 0 rfl) ?_
  refine lv_iload_n hx hb dX5_lay_11 rfl (lv_at hl 2 rfl) ?_
  refine va_put (D := G) (ci := 5) (v := .int a2) (ty := .int) (C := RX5) (T := TX5) (N := 4) hx hb hw0 inA_wsX50 tyX5 tyX5_ok nmX5 hown hK.1 hP hD hS 0 rfl rfl 2 (by decide) (hw0 _ m_241) (fun _ h9 => h9) rfl (by decide +kernel) rfl rfl (Nat.le_of_ble_eq_true rfl) dX5_lay_12 (fun H locs hP hD hS => ?_)
  have hP : va_P G vwCl [(s0, .inr (5, [.int 1, .int a1, .int a2, .ref nu0])), (nu0, .inl (y 2, 60, .inr (.inl f0)))] H := hP
  have hD : va_D A [(s0, .inr (5, [.int 1, .int a1, .int a2, .ref nu0])), (nu0, .inl (y 2, 60, .inr (.inl f0)))] := hD
  refine lv_aload_n hx hb dX5_lay_15 rfl (lv_at hl 0 rfl) ?_
  refine va_get (D := G) (ci := 5) (v := .ref nu0) (C := RX5) (T := TX5) (N := 4) hx hb hw0 inA_wsX50 hown hK.1 hP 0 rfl rfl 3 (by decide) (hw0 _ m_4) (fun _ h9 => h9) rfl dX5_lay_16 ?_
  refine lv_lconst (v := 0) hx hb dX5_lay_19 (by decide) ?_
  refine cSv (As := [.ref nu0, .long 0]) (rest := []) ⟨hx, hb, hml, hown, hw0⟩ hA hK hP hD hS [1] [0] [(nu0, .inl (y 2, 60, .inr (.inl f0)))] [(s0, .inr (5, [.int 1, .int a1, .int a2, .ref nu0]))] rfl rfl (by decide) (by decide) (by decide) (kfill60 l G y _ nu0 0 f0 ) ⟨(callB_of 2 hw0 (gA m_238) rfl rfl rfl (hw0 _ m_242) (hw0 _ m_243) (by decide +kernel) ⟨Nat.le_of_ble_eq_true rfl, Nat.le_of_ble_eq_true rfl⟩), (hw0 _ m_244)⟩ rfl hl.1 (Nat.le_of_ble_eq_true rfl) dX5_lay_20 ⟨Nat.le_of_ble_eq_true rfl, Nat.le_of_ble_eq_true rfl⟩ (fun w_1 H locs hw_1 hP hD hS => ?_)
  obtain ⟨f_2, rfl⟩ := hw_1
  have hP : va_P G vwCl [(s0, .inr (5, [.int 1, .int a1, .int a2, .ref nu0])), (nu0, .inl (y 2, 60, .inr (.inl f_2)))] H := hP
  have hD : va_D A [(s0, .inr (5, [.int 1, .int a1, .int a2, .ref nu0])), (nu0, .inl (y 2, 60, .inr (.inl f_2)))] := hD
  refine W.widen (k := 0) (n := 0) (Nat.le_of_ble_eq_true rfl) (Nat.le_of_ble_eq_true rfl) ?_
  exact W.vret hx hb hr (fun t ht hW => ⟨⟨([(s0, .inr (5, [.int 1, .int a1, .int a2, .ref nu0])), (nu0, .inl (y 2, 60, .inr (.inl f_2)))] : va_W), rfl, ⟨_, rfl⟩, by rw [ht]; exact hP, hD⟩, hS.F ht⟩) hS.2.2 dX5_lay_23

set_option maxHeartbeats 4000000 in
set_option maxRecDepth 100000 in
theorem kX9_row (l : Launch) (G : va_G) (y : Nat → ClassId) (sz : Nat) (ob : Nat) (a1 : Int32) (a2 : Int32) (a3 : Int32) (tp : Nat) (rd : Nat) (sa : Nat) (im : Nat) (sl : Nat) (ro : Nat) (wy : Nat) (od : Nat) (ok : Nat) (s0 : Nat) (s1 : Nat) (s2 : Nat) (s3 : Nat) (nu0 : Nat) (nu1 : Nat) (nu2 : Nat) (nu3 : Nat) (f0 : Nat → Int64) (f1 : Nat → Int64) (f2 : Nat → Int64) (f3 : Nat → Int64)  : Met l yX9_row (Cond.code yX9_row cX9_row 4 (some .int) :: wAll) ({ frames := 2, cells := 0, slots := 0, locals := 46 }) (va_Pc [.ref ob, .int a1, .int a2, .int a3] (kp G y sz [(ob, .inr (9, [.ref tp, .int 0, .ref rd, .ref sa, .ref im, .ref sl, .ref ro, .ref wy, .ref od, .ref ok])), (sl, .inl (y 4, 4, .inr (.inr (.inr (.inr (va_up (va_up (va_up (va_up (fun _ => none) 0 (some s0)) 1 (some s1)) 2 (some s2)) 3 (some s3))))))), (s0, .inr (5, [.int 0, .int 0, .int 0, .ref nu0])), (s1, .inr (5, [.int 0, .int 0, .int 0, .ref nu1])), (s2, .inr (5, [.int 0, .int 0, .int 0, .ref nu2])), (s3, .inr (5, [.int 0, .int 0, .int 0, .ref nu3])), (nu0, .inl (y 2, 60, .inr (.inl f0))), (nu1, .inl (y 2, 60, .inr (.inl f1))), (nu2, .inl (y 2, 60, .inr (.inl f2))), (nu3, .inl (y 2, 60, .inr (.inl f3)))])) (va_Qi (fun (r : Int32) (_ : va_W) => r = sp_row a1 a2 a3) (kq G (va_A [(ob, .inr (9, [.ref tp, .int 0, .ref rd, .ref sa, .ref im, .ref sl, .ref ro, .ref wy, .ref od, .ref ok])), (sl, .inl (y 4, 4, .inr (.inr (.inr (.inr (va_up (va_up (va_up (va_up (fun _ => none) 0 (some s0)) 1 (some s1)) 2 (some s2)) 3 (some s3))))))), (s0, .inr (5, [.int 0, .int 0, .int 0, .ref nu0])), (s1, .inr (5, [.int 0, .int 0, .int 0, .ref nu1])), (s2, .inr (5, [.int 0, .int 0, .int 0, .ref nu2])), (s3, .inr (5, [.int 0, .int 0, .int 0, .ref nu3])), (nu0, .inl (y 2, 60, .inr (.inl f0))), (nu1, .inl (y 2, 60, .inr (.inl f1))), (nu2, .inl (y 2, 60, .inr (.inl f2))), (nu3, .inl (y 2, 60, .inr (.inl f3)))] sz)) (va_A [(ob, .inr (9, [.ref tp, .int 0, .ref rd, .ref sa, .ref im, .ref sl, .ref ro, .ref wy, .ref od, .ref ok])), (sl, .inl (y 4, 4, .inr (.inr (.inr (.inr (va_up (va_up (va_up (va_up (fun _ => none) 0 (some s0)) 1 (some s1)) 2 (some s2)) 3 (some s3))))))), (s0, .inr (5, [.int 0, .int 0, .int 0, .ref nu0])), (s1, .inr (5, [.int 0, .int 0, .int 0, .ref nu1])), (s2, .inr (5, [.int 0, .int 0, .int 0, .ref nu2])), (s3, .inr (5, [.int 0, .int 0, .int 0, .ref nu3])), (nu0, .inl (y 2, 60, .inr (.inl f0))), (nu1, .inl (y 2, 60, .inr (.inl f1))), (nu2, .inl (y 2, 60, .inr (.inl f2))), (nu3, .inl (y 2, 60, .inr (.inl f3)))] sz)) 0 0 (va_A [(ob, .inr (9, [.ref tp, .int 0, .ref rd, .ref sa, .ref im, .ref sl, .ref ro, .ref wy, .ref od, .ref ok])), (sl, .inl (y 4, 4, .inr (.inr (.inr (.inr (va_up (va_up (va_up (va_up (fun _ => none) 0 (some s0)) 1 (some s1)) 2 (some s2)) 3 (some s3))))))), (s0, .inr (5, [.int 0, .int 0, .int 0, .ref nu0])), (s1, .inr (5, [.int 0, .int 0, .int 0, .ref nu1])), (s2, .inr (5, [.int 0, .int 0, .int 0, .ref nu2])), (s3, .inr (5, [.int 0, .int 0, .int 0, .ref nu3])), (nu0, .inl (y 2, 60, .inr (.inl f0))), (nu1, .inl (y 2, 60, .inr (.inl f1))), (nu2, .inl (y 2, 60, .inr (.inl f2))), (nu3, .inl (y 2, 60, .inr (.inl f3)))] sz) := by
  refine Met.ofW (cc := cX9_row) (maxL := 4) (ret := (some .int)) (by decide) rfl ?_
  intro p e s m args below meth c s₁ B hml hv
  obtain ⟨rfl, hsz, hP, hK, hD0⟩ := hv
  have hx := B.exec
  have hb := B.bytes
  have hr := B.returns
  have hw0 : ∀ w ∈ wAll, w.before _ s = true := fun w h => atoms_spec (ws := Cond.code yX9_row cX9_row 4 (some .int) :: wAll) B.pre w (List.mem_cons_of_mem _ h)
  have hown : s.vm.findClass RX9 = some m.cls := findClass_of_methodNamed B.named
  have hlocks := B.notSynchronized
  subst hsz
  have hD := hD0.self (sz := s.heap.size)
  generalize hAe : va_A [(ob, .inr (9, [.ref tp, .int 0, .ref rd, .ref sa, .ref im, .ref sl, .ref ro, .ref wy, .ref od, .ref ok])), (sl, .inl (y 4, 4, .inr (.inr (.inr (.inr (va_up (va_up (va_up (va_up (fun _ => none) 0 (some s0)) 1 (some s1)) 2 (some s2)) 3 (some s3))))))), (s0, .inr (5, [.int 0, .int 0, .int 0, .ref nu0])), (s1, .inr (5, [.int 0, .int 0, .int 0, .ref nu1])), (s2, .inr (5, [.int 0, .int 0, .int 0, .ref nu2])), (s3, .inr (5, [.int 0, .int 0, .int 0, .ref nu3])), (nu0, .inl (y 2, 60, .inr (.inl f0))), (nu1, .inl (y 2, 60, .inr (.inl f1))), (nu2, .inl (y 2, 60, .inr (.inl f2))), (nu3, .inl (y 2, 60, .inr (.inl f3)))] s.heap.size = A at hD ⊢
  have hA : ∀ q : Nat, s.heap.size ≤ q → A q := fun q h => by rw [← hAe]; exact Or.inr h
  have hS : va_S A s.heap s.heap [] := va_S.rf
  have hP : va_P G vwCl [(ob, .inr (9, [.ref tp, .int 0, .ref rd, .ref sa, .ref im, .ref sl, .ref ro, .ref wy, .ref od, .ref ok])), (sl, .inl (y 4, 4, .inr (.inr (.inr (.inr (va_up (va_up (va_up (va_up (fun _ => none) 0 (some s0)) 1 (some s1)) 2 (some s2)) 3 (some s3))))))), (s0, .inr (5, [.int 0, .int 0, .int 0, .ref nu0])), (s1, .inr (5, [.int 0, .int 0, .int 0, .ref nu1])), (s2, .inr (5, [.int 0, .int 0, .int 0, .ref nu2])), (s3, .inr (5, [.int 0, .int 0, .int 0, .ref nu3])), (nu0, .inl (y 2, 60, .inr (.inl f0))), (nu1, .inl (y 2, 60, .inr (.inl f1))), (nu2, .inl (y 2, 60, .inr (.inl f2))), (nu3, .inl (y 2, 60, .inr (.inl f3)))] s.heap := hP
  have hl := lv_entry ([.ref ob, .int a1, .int a2, .int a3]) (n := 4) (Nat.le_of_ble_eq_true rfl)
  rw [lg_entry_eq]
  generalize (lg_sl ([.ref ob, .int a1, .int a2, .int a3]) ++ List.replicate (4 - (lg_sl ([.ref ob, .int a1, .int a2, .int a3])).length) Slot.unset).toArray = ls at hl ⊢
  have hl : lv_has ls 4 [(0, .ref ob), (1, .int a1), (2, .int a2), (3, .int a3)] := hl
  rcases sl_cases a1 with rfl | rfl | rfl | rfl | t_a1
  · have hl : lv_has ls 4 [(0, .ref ob), (1, .int 0), (2, .int a2), (3, .int a3)] := hl
    refine lv_iload_n hx hb dX9_row_0 rfl (lv_at hl 1 rfl) ?_
    refine cSi (As := [.int 0]) (rest := []) ⟨hx, hb, hml, hown, hw0⟩ hA hK hP hD hS [] [0, 1, 2, 3, 4, 5, 6, 7, 8, 9] [] [(ob, .inr (9, [.ref tp, .int 0, .ref rd, .ref sa, .ref im, .ref sl, .ref ro, .ref wy, .ref od, .ref ok])), (sl, .inl (y 4, 4, .inr (.inr (.inr (.inr (va_up (va_up (va_up (va_up (fun _ => none) 0 (some s0)) 1 (some s1)) 2 (some s2)) 3 (some s3))))))), (s0, .inr (5, [.int 0, .int 0, .int 0, .ref nu0])), (s1, .inr (5, [.int 0, .int 0, .int 0, .ref nu1])), (s2, .inr (5, [.int 0, .int 0, .int 0, .ref nu2])), (s3, .inr (5, [.int 0, .int 0, .int 0, .ref nu3])), (nu0, .inl (y 2, 60, .inr (.inl f0))), (nu1, .inl (y 2, 60, .inr (.inl f1))), (nu2, .inl (y 2, 60, .inr (.inl f2))), (nu3, .inl (y 2, 60, .inr (.inl f3)))] rfl rfl (by decide) (by decide) (by decide) (kX9_isSlot l G y _ 0 ) ⟨(callB_of 1 hw0 (gA m_162) rfl rfl rfl (hw0 _ m_183) (hw0 _ m_200) (by decide +kernel) ⟨Nat.le_of_ble_eq_true rfl, Nat.le_of_ble_eq_true rfl⟩), (hw0 _ m_201)⟩ rfl hl.1 (Nat.le_of_ble_eq_true rfl) dX9_row_1 ⟨Nat.le_of_ble_eq_true rfl, Nat.le_of_ble_eq_true rfl⟩ (fun r_1 w_1 H locs hw_1 hP hD hS => ?_)
    rcases hw_1 with ⟨c_2, rfl, rfl⟩ | ⟨c_3, rfl, rfl⟩
    · skip
      have hP : va_P G vwCl [(ob, .inr (9, [.ref tp, .int 0, .ref rd, .ref sa, .ref im, .ref sl, .ref ro, .ref wy, .ref od, .ref ok])), (sl, .inl (y 4, 4, .inr (.inr (.inr (.inr (va_up (va_up (va_up (va_up (fun _ => none) 0 (some s0)) 1 (some s1)) 2 (some s2)) 3 (some s3))))))), (s0, .inr (5, [.int 0, .int 0, .int 0, .ref nu0])), (s1, .inr (5, [.int 0, .int 0, .int 0, .ref nu1])), (s2, .inr (5, [.int 0, .int 0, .int 0, .ref nu2])), (s3, .inr (5, [.int 0, .int 0, .int 0, .ref nu3])), (nu0, .inl (y 2, 60, .inr (.inl f0))), (nu1, .inl (y 2, 60, .inr (.inl f1))), (nu2, .inl (y 2, 60, .inr (.inl f2))), (nu3, .inl (y 2, 60, .inr (.inl f3)))] H := hP
      have hD : va_D A [(ob, .inr (9, [.ref tp, .int 0, .ref rd, .ref sa, .ref im, .ref sl, .ref ro, .ref wy, .ref od, .ref ok])), (sl, .inl (y 4, 4, .inr (.inr (.inr (.inr (va_up (va_up (va_up (va_up (fun _ => none) 0 (some s0)) 1 (some s1)) 2 (some s2)) 3 (some s3))))))), (s0, .inr (5, [.int 0, .int 0, .int 0, .ref nu0])), (s1, .inr (5, [.int 0, .int 0, .int 0, .ref nu1])), (s2, .inr (5, [.int 0, .int 0, .int 0, .ref nu2])), (s3, .inr (5, [.int 0, .int 0, .int 0, .ref nu3])), (nu0, .inl (y 2, 60, .inr (.inl f0))), (nu1, .inl (y 2, 60, .inr (.inl f1))), (nu2, .inl (y 2, 60, .inr (.inl f2))), (nu3, .inl (y 2, 60, .inr (.inl f3)))] := hD
      refine lv_if_eq (tgt := 22) hx hb dX9_row_4 (by decide) (fun c9 => absurd c9 (by decide)) (fun _ => ?_)
      refine lv_iload_n hx hb dX9_row_7 rfl (lv_at hl 2 rfl) ?_
      refine lv_if_lt (tgt := 22) hx hb dX9_row_8 (by decide) (fun c_4 => ?_) (fun c_4 => ?_)
      · skip
        have tc_4 : (a2.toInt : Int) < 0 := il_lt c_4 rfl (by decide)
        refine lv_bipush (v := (-2)) hx hb dX9_row_22 (by decide) ?_
        refine W.widen (k := 0) (n := 0) (Nat.le_of_ble_eq_true rfl) (Nat.le_of_ble_eq_true rfl) ?_
        exact W.iret (v := (-2)) hx hb hr (fun t ht hW => ⟨⟨(-2), _, rfl, (by first | rfl | decide | (simp only [sp_row]; (repeat' split) <;> first | rfl | (exfalso; omega))), by rw [ht]; exact hP, hD⟩, hS.F ht⟩) hS.2.2 dX9_row_24
      · skip
        have tc_4 : (a2.toInt : Int) ≥ 0 := il_nlt c_4 rfl (by decide)
        refine lv_iload_n hx hb dX9_row_11 rfl (lv_at hl 2 rfl) ?_
        refine lv_iconst (v := 4) hx hb dX9_row_12 (by decide) ?_
        refine lv_icmp_ge (tgt := 22) hx hb dX9_row_13 (by decide) (fun c_5 => ?_) (fun c_5 => ?_)
        · skip
          have tc_5 : (4 : Int) ≤ a2.toInt := il_le c_5 (by decide) rfl
          refine lv_bipush (v := (-2)) hx hb dX9_row_22 (by decide) ?_
          refine W.widen (k := 0) (n := 0) (Nat.le_of_ble_eq_true rfl) (Nat.le_of_ble_eq_true rfl) ?_
          exact W.iret (v := (-2)) hx hb hr (fun t ht hW => ⟨⟨(-2), _, rfl, (by first | rfl | decide | (simp only [sp_row]; (repeat' split) <;> first | rfl | (exfalso; omega))), by rw [ht]; exact hP, hD⟩, hS.F ht⟩) hS.2.2 dX9_row_24
        · skip
          have tc_5 : (4 : Int) > a2.toInt := il_nle c_5 (by decide) rfl
          refine lv_iload_n hx hb dX9_row_16 rfl (lv_at hl 3 rfl) ?_
          refine lv_bipush (v := 60) hx hb dX9_row_17 (by decide) ?_
          refine lv_icmp_le (tgt := 25) hx hb dX9_row_19 (by decide) (fun c_6 => ?_) (fun c_6 => ?_)
          · skip
            have tc_6 : (a3.toInt : Int) ≤ 60 := il_le c_6 rfl (by decide)
            refine lv_iload_n hx hb dX9_row_25 rfl (lv_at hl 3 rfl) ?_
            refine lv_if_ge (tgt := 32) hx hb dX9_row_26 (by decide) (fun c_7 => ?_) (fun c_7 => ?_)
            · skip
              have tc_7 : (0 : Int) ≤ a3.toInt := il_le c_7 (by decide) rfl
              refine lv_aload_n hx hb dX9_row_32 rfl (lv_at hl 0 rfl) ?_
              refine va_get (D := G) (ci := 9) (v := .ref sl) (C := RX9) (T := TX9) (N := 10) hx hb hw0 inA_wsX90 hown hK.1 hP 0 rfl rfl 5 (by decide) (hw0 _ m_113) (fun _ h9 => h9) rfl dX9_row_33 ?_
              refine lv_iload_n hx hb dX9_row_36 rfl (lv_at hl 1 rfl) ?_
              refine va_aldq hx hb hK.1 hP 1 4 rfl rfl (vp_in_nI (n := 0) (N := 4) (by decide) (by decide)) dX9_row_37 ?_
              refine W.eq (g2 := F0 m 38 ls [.ref s0]) rfl ?_
              refine lv_iload_n hx hb dX9_row_38 rfl (lv_at hl 2 rfl) ?_
              refine lv_iload_n hx hb dX9_row_39 rfl (lv_at hl 3 rfl) ?_
              refine cVv (As := [.int a2, .int a3]) (rest := []) ⟨hx, hb, hml, hown, hw0⟩ hA hK hP hD hS [2, 6] [0, 1, 3, 4, 5, 7, 8, 9] [(s0, .inr (5, [.int 0, .int 0, .int 0, .ref nu0])), (nu0, .inl (y 2, 60, .inr (.inl f0)))] [(ob, .inr (9, [.ref tp, .int 0, .ref rd, .ref sa, .ref im, .ref sl, .ref ro, .ref wy, .ref od, .ref ok])), (sl, .inl (y 4, 4, .inr (.inr (.inr (.inr (va_up (va_up (va_up (va_up (fun _ => none) 0 (some s0)) 1 (some s1)) 2 (some s2)) 3 (some s3))))))), (s1, .inr (5, [.int 0, .int 0, .int 0, .ref nu1])), (s2, .inr (5, [.int 0, .int 0, .int 0, .ref nu2])), (s3, .inr (5, [.int 0, .int 0, .int 0, .ref nu3])), (nu1, .inl (y 2, 60, .inr (.inl f1))), (nu2, .inl (y 2, 60, .inr (.inl f2))), (nu3, .inl (y 2, 60, .inr (.inl f3)))] rfl rfl (by decide) (by decide) (by decide) (kX5_lay l G y _ s0 a2 a3 nu0 f0 ) ⟨(callB_of 2 hw0 (gA m_245) rfl rfl rfl (hw0 _ m_128) (hw0 _ m_246) (by decide +kernel) ⟨Nat.le_of_ble_eq_true rfl, Nat.le_of_ble_eq_true rfl⟩), (hw0 _ m_247), (hw0 _ m_248)⟩ (ci := 5) (q := (RX5, TX5, 4)) rfl rfl rfl hl.1 (Nat.le_of_ble_eq_true rfl) dX9_row_40 ⟨Nat.le_of_ble_eq_true rfl, Nat.le_of_ble_eq_true rfl⟩ (fun w_8 H locs hw_8 hP hD hS => ?_)
              obtain ⟨f_9, rfl⟩ := hw_8
              have hP : va_P G vwCl [(ob, .inr (9, [.ref tp, .int 0, .ref rd, .ref sa, .ref im, .ref sl, .ref ro, .ref wy, .ref od, .ref ok])), (sl, .inl (y 4, 4, .inr (.inr (.inr (.inr (va_up (va_up (va_up (va_up (fun _ => none) 0 (some s0)) 1 (some s1)) 2 (some s2)) 3 (some s3))))))), (s1, .inr (5, [.int 0, .int 0, .int 0, .ref nu1])), (s2, .inr (5, [.int 0, .int 0, .int 0, .ref nu2])), (s3, .inr (5, [.int 0, .int 0, .int 0, .ref nu3])), (nu1, .inl (y 2, 60, .inr (.inl f1))), (nu2, .inl (y 2, 60, .inr (.inl f2))), (nu3, .inl (y 2, 60, .inr (.inl f3))), (s0, .inr (5, [.int 1, .int a2, .int a3, .ref nu0])), (nu0, .inl (y 2, 60, .inr (.inl f_9)))] H := hP
              have hD : va_D A [(ob, .inr (9, [.ref tp, .int 0, .ref rd, .ref sa, .ref im, .ref sl, .ref ro, .ref wy, .ref od, .ref ok])), (sl, .inl (y 4, 4, .inr (.inr (.inr (.inr (va_up (va_up (va_up (va_up (fun _ => none) 0 (some s0)) 1 (some s1)) 2 (some s2)) 3 (some s3))))))), (s1, .inr (5, [.int 0, .int 0, .int 0, .ref nu1])), (s2, .inr (5, [.int 0, .int 0, .int 0, .ref nu2])), (s3, .inr (5, [.int 0, .int 0, .int 0, .ref nu3])), (nu1, .inl (y 2, 60, .inr (.inl f1))), (nu2, .inl (y 2, 60, .inr (.inl f2))), (nu3, .inl (y 2, 60, .inr (.inl f3))), (s0, .inr (5, [.int 1, .int a2, .int a3, .ref nu0])), (nu0, .inl (y 2, 60, .inr (.inl f_9)))] := hD
              refine lv_iconst (v := 0) hx hb dX9_row_43 (by decide) ?_
              refine W.widen (k := 0) (n := 0) (Nat.le_of_ble_eq_true rfl) (Nat.le_of_ble_eq_true rfl) ?_
              exact W.iret (v := 0) hx hb hr (fun t ht hW => ⟨⟨0, _, rfl, (by first | rfl | decide | (simp only [sp_row]; (repeat' split) <;> first | rfl | (exfalso; omega))), by rw [ht]; exact hP, hD⟩, hS.F ht⟩) hS.2.2 dX9_row_44
            · skip
              have tc_7 : (0 : Int) > a3.toInt := il_nle c_7 (by decide) rfl
              refine lv_bipush (v := (-3)) hx hb dX9_row_29 (by decide) ?_
              refine W.widen (k := 0) (n := 0) (Nat.le_of_ble_eq_true rfl) (Nat.le_of_ble_eq_true rfl) ?_
              exact W.iret (v := (-3)) hx hb hr (fun t ht hW => ⟨⟨(-3), _, rfl, (by first | rfl | decide | (simp only [sp_row]; (repeat' split) <;> first | rfl | (exfalso; omega))), by rw [ht]; exact hP, hD⟩, hS.F ht⟩) hS.2.2 dX9_row_31
          · skip
            have tc_6 : (a3.toInt : Int) > 60 := il_nle c_6 rfl (by decide)
            refine lv_bipush (v := (-2)) hx hb dX9_row_22 (by decide) ?_
            refine W.widen (k := 0) (n := 0) (Nat.le_of_ble_eq_true rfl) (Nat.le_of_ble_eq_true rfl) ?_
            exact W.iret (v := (-2)) hx hb hr (fun t ht hW => ⟨⟨(-2), _, rfl, (by first | rfl | decide | (simp only [sp_row]; (repeat' split) <;> first | rfl | (exfalso; omega))), by rw [ht]; exact hP, hD⟩, hS.F ht⟩) hS.2.2 dX9_row_24
    · skip
      exact absurd c_3 (by decide)
  · have hl : lv_has ls 4 [(0, .ref ob), (1, .int 1), (2, .int a2), (3, .int a3)] := hl
    refine lv_iload_n hx hb dX9_row_0 rfl (lv_at hl 1 rfl) ?_
    refine cSi (As := [.int 1]) (rest := []) ⟨hx, hb, hml, hown, hw0⟩ hA hK hP hD hS [] [0, 1, 2, 3, 4, 5, 6, 7, 8, 9] [] [(ob, .inr (9, [.ref tp, .int 0, .ref rd, .ref sa, .ref im, .ref sl, .ref ro, .ref wy, .ref od, .ref ok])), (sl, .inl (y 4, 4, .inr (.inr (.inr (.inr (va_up (va_up (va_up (va_up (fun _ => none) 0 (some s0)) 1 (some s1)) 2 (some s2)) 3 (some s3))))))), (s0, .inr (5, [.int 0, .int 0, .int 0, .ref nu0])), (s1, .inr (5, [.int 0, .int 0, .int 0, .ref nu1])), (s2, .inr (5, [.int 0, .int 0, .int 0, .ref nu2])), (s3, .inr (5, [.int 0, .int 0, .int 0, .ref nu3])), (nu0, .inl (y 2, 60, .inr (.inl f0))), (nu1, .inl (y 2, 60, .inr (.inl f1))), (nu2, .inl (y 2, 60, .inr (.inl f2))), (nu3, .inl (y 2, 60, .inr (.inl f3)))] rfl rfl (by decide) (by decide) (by decide) (kX9_isSlot l G y _ 1 ) ⟨(callB_of 1 hw0 (gA m_162) rfl rfl rfl (hw0 _ m_183) (hw0 _ m_200) (by decide +kernel) ⟨Nat.le_of_ble_eq_true rfl, Nat.le_of_ble_eq_true rfl⟩), (hw0 _ m_201)⟩ rfl hl.1 (Nat.le_of_ble_eq_true rfl) dX9_row_1 ⟨Nat.le_of_ble_eq_true rfl, Nat.le_of_ble_eq_true rfl⟩ (fun r_10 w_10 H locs hw_10 hP hD hS => ?_)
    rcases hw_10 with ⟨c_11, rfl, rfl⟩ | ⟨c_12, rfl, rfl⟩
    · skip
      have hP : va_P G vwCl [(ob, .inr (9, [.ref tp, .int 0, .ref rd, .ref sa, .ref im, .ref sl, .ref ro, .ref wy, .ref od, .ref ok])), (sl, .inl (y 4, 4, .inr (.inr (.inr (.inr (va_up (va_up (va_up (va_up (fun _ => none) 0 (some s0)) 1 (some s1)) 2 (some s2)) 3 (some s3))))))), (s0, .inr (5, [.int 0, .int 0, .int 0, .ref nu0])), (s1, .inr (5, [.int 0, .int 0, .int 0, .ref nu1])), (s2, .inr (5, [.int 0, .int 0, .int 0, .ref nu2])), (s3, .inr (5, [.int 0, .int 0, .int 0, .ref nu3])), (nu0, .inl (y 2, 60, .inr (.inl f0))), (nu1, .inl (y 2, 60, .inr (.inl f1))), (nu2, .inl (y 2, 60, .inr (.inl f2))), (nu3, .inl (y 2, 60, .inr (.inl f3)))] H := hP
      have hD : va_D A [(ob, .inr (9, [.ref tp, .int 0, .ref rd, .ref sa, .ref im, .ref sl, .ref ro, .ref wy, .ref od, .ref ok])), (sl, .inl (y 4, 4, .inr (.inr (.inr (.inr (va_up (va_up (va_up (va_up (fun _ => none) 0 (some s0)) 1 (some s1)) 2 (some s2)) 3 (some s3))))))), (s0, .inr (5, [.int 0, .int 0, .int 0, .ref nu0])), (s1, .inr (5, [.int 0, .int 0, .int 0, .ref nu1])), (s2, .inr (5, [.int 0, .int 0, .int 0, .ref nu2])), (s3, .inr (5, [.int 0, .int 0, .int 0, .ref nu3])), (nu0, .inl (y 2, 60, .inr (.inl f0))), (nu1, .inl (y 2, 60, .inr (.inl f1))), (nu2, .inl (y 2, 60, .inr (.inl f2))), (nu3, .inl (y 2, 60, .inr (.inl f3)))] := hD
      refine lv_if_eq (tgt := 22) hx hb dX9_row_4 (by decide) (fun c9 => absurd c9 (by decide)) (fun _ => ?_)
      refine lv_iload_n hx hb dX9_row_7 rfl (lv_at hl 2 rfl) ?_
      refine lv_if_lt (tgt := 22) hx hb dX9_row_8 (by decide) (fun c_13 => ?_) (fun c_13 => ?_)
      · skip
        have tc_13 : (a2.toInt : Int) < 0 := il_lt c_13 rfl (by decide)
        refine lv_bipush (v := (-2)) hx hb dX9_row_22 (by decide) ?_
        refine W.widen (k := 0) (n := 0) (Nat.le_of_ble_eq_true rfl) (Nat.le_of_ble_eq_true rfl) ?_
        exact W.iret (v := (-2)) hx hb hr (fun t ht hW => ⟨⟨(-2), _, rfl, (by first | rfl | decide | (simp only [sp_row]; (repeat' split) <;> first | rfl | (exfalso; omega))), by rw [ht]; exact hP, hD⟩, hS.F ht⟩) hS.2.2 dX9_row_24
      · skip
        have tc_13 : (a2.toInt : Int) ≥ 0 := il_nlt c_13 rfl (by decide)
        refine lv_iload_n hx hb dX9_row_11 rfl (lv_at hl 2 rfl) ?_
        refine lv_iconst (v := 4) hx hb dX9_row_12 (by decide) ?_
        refine lv_icmp_ge (tgt := 22) hx hb dX9_row_13 (by decide) (fun c_14 => ?_) (fun c_14 => ?_)
        · skip
          have tc_14 : (4 : Int) ≤ a2.toInt := il_le c_14 (by decide) rfl
          refine lv_bipush (v := (-2)) hx hb dX9_row_22 (by decide) ?_
          refine W.widen (k := 0) (n := 0) (Nat.le_of_ble_eq_true rfl) (Nat.le_of_ble_eq_true rfl) ?_
          exact W.iret (v := (-2)) hx hb hr (fun t ht hW => ⟨⟨(-2), _, rfl, (by first | rfl | decide | (simp only [sp_row]; (repeat' split) <;> first | rfl | (exfalso; omega))), by rw [ht]; exact hP, hD⟩, hS.F ht⟩) hS.2.2 dX9_row_24
        · skip
          have tc_14 : (4 : Int) > a2.toInt := il_nle c_14 (by decide) rfl
          refine lv_iload_n hx hb dX9_row_16 rfl (lv_at hl 3 rfl) ?_
          refine lv_bipush (v := 60) hx hb dX9_row_17 (by decide) ?_
          refine lv_icmp_le (tgt := 25) hx hb dX9_row_19 (by decide) (fun c_15 => ?_) (fun c_15 => ?_)
          · skip
            have tc_15 : (a3.toInt : Int) ≤ 60 := il_le c_15 rfl (by decide)
            refine lv_iload_n hx hb dX9_row_25 rfl (lv_at hl 3 rfl) ?_
            refine lv_if_ge (tgt := 32) hx hb dX9_row_26 (by decide) (fun c_16 => ?_) (fun c_16 => ?_)
            · skip
              have tc_16 : (0 : Int) ≤ a3.toInt := il_le c_16 (by decide) rfl
              refine lv_aload_n hx hb dX9_row_32 rfl (lv_at hl 0 rfl) ?_
              refine va_get (D := G) (ci := 9) (v := .ref sl) (C := RX9) (T := TX9) (N := 10) hx hb hw0 inA_wsX90 hown hK.1 hP 0 rfl rfl 5 (by decide) (hw0 _ m_113) (fun _ h9 => h9) rfl dX9_row_33 ?_
              refine lv_iload_n hx hb dX9_row_36 rfl (lv_at hl 1 rfl) ?_
              refine va_aldq hx hb hK.1 hP 1 4 rfl rfl (vp_in_nI (n := 1) (N := 4) (by decide) (by decide)) dX9_row_37 ?_
              refine W.eq (g2 := F0 m 38 ls [.ref s1]) rfl ?_
              refine lv_iload_n hx hb dX9_row_38 rfl (lv_at hl 2 rfl) ?_
              refine lv_iload_n hx hb dX9_row_39 rfl (lv_at hl 3 rfl) ?_
              refine cVv (As := [.int a2, .int a3]) (rest := []) ⟨hx, hb, hml, hown, hw0⟩ hA hK hP hD hS [3, 7] [0, 1, 2, 4, 5, 6, 8, 9] [(s1, .inr (5, [.int 0, .int 0, .int 0, .ref nu1])), (nu1, .inl (y 2, 60, .inr (.inl f1)))] [(ob, .inr (9, [.ref tp, .int 0, .ref rd, .ref sa, .ref im, .ref sl, .ref ro, .ref wy, .ref od, .ref ok])), (sl, .inl (y 4, 4, .inr (.inr (.inr (.inr (va_up (va_up (va_up (va_up (fun _ => none) 0 (some s0)) 1 (some s1)) 2 (some s2)) 3 (some s3))))))), (s0, .inr (5, [.int 0, .int 0, .int 0, .ref nu0])), (s2, .inr (5, [.int 0, .int 0, .int 0, .ref nu2])), (s3, .inr (5, [.int 0, .int 0, .int 0, .ref nu3])), (nu0, .inl (y 2, 60, .inr (.inl f0))), (nu2, .inl (y 2, 60, .inr (.inl f2))), (nu3, .inl (y 2, 60, .inr (.inl f3)))] rfl rfl (by decide) (by decide) (by decide) (kX5_lay l G y _ s1 a2 a3 nu1 f1 ) ⟨(callB_of 2 hw0 (gA m_245) rfl rfl rfl (hw0 _ m_128) (hw0 _ m_246) (by decide +kernel) ⟨Nat.le_of_ble_eq_true rfl, Nat.le_of_ble_eq_true rfl⟩), (hw0 _ m_247), (hw0 _ m_248)⟩ (ci := 5) (q := (RX5, TX5, 4)) rfl rfl rfl hl.1 (Nat.le_of_ble_eq_true rfl) dX9_row_40 ⟨Nat.le_of_ble_eq_true rfl, Nat.le_of_ble_eq_true rfl⟩ (fun w_17 H locs hw_17 hP hD hS => ?_)
              obtain ⟨f_18, rfl⟩ := hw_17
              have hP : va_P G vwCl [(ob, .inr (9, [.ref tp, .int 0, .ref rd, .ref sa, .ref im, .ref sl, .ref ro, .ref wy, .ref od, .ref ok])), (sl, .inl (y 4, 4, .inr (.inr (.inr (.inr (va_up (va_up (va_up (va_up (fun _ => none) 0 (some s0)) 1 (some s1)) 2 (some s2)) 3 (some s3))))))), (s0, .inr (5, [.int 0, .int 0, .int 0, .ref nu0])), (s2, .inr (5, [.int 0, .int 0, .int 0, .ref nu2])), (s3, .inr (5, [.int 0, .int 0, .int 0, .ref nu3])), (nu0, .inl (y 2, 60, .inr (.inl f0))), (nu2, .inl (y 2, 60, .inr (.inl f2))), (nu3, .inl (y 2, 60, .inr (.inl f3))), (s1, .inr (5, [.int 1, .int a2, .int a3, .ref nu1])), (nu1, .inl (y 2, 60, .inr (.inl f_18)))] H := hP
              have hD : va_D A [(ob, .inr (9, [.ref tp, .int 0, .ref rd, .ref sa, .ref im, .ref sl, .ref ro, .ref wy, .ref od, .ref ok])), (sl, .inl (y 4, 4, .inr (.inr (.inr (.inr (va_up (va_up (va_up (va_up (fun _ => none) 0 (some s0)) 1 (some s1)) 2 (some s2)) 3 (some s3))))))), (s0, .inr (5, [.int 0, .int 0, .int 0, .ref nu0])), (s2, .inr (5, [.int 0, .int 0, .int 0, .ref nu2])), (s3, .inr (5, [.int 0, .int 0, .int 0, .ref nu3])), (nu0, .inl (y 2, 60, .inr (.inl f0))), (nu2, .inl (y 2, 60, .inr (.inl f2))), (nu3, .inl (y 2, 60, .inr (.inl f3))), (s1, .inr (5, [.int 1, .int a2, .int a3, .ref nu1])), (nu1, .inl (y 2, 60, .inr (.inl f_18)))] := hD
              refine lv_iconst (v := 0) hx hb dX9_row_43 (by decide) ?_
              refine W.widen (k := 0) (n := 0) (Nat.le_of_ble_eq_true rfl) (Nat.le_of_ble_eq_true rfl) ?_
              exact W.iret (v := 0) hx hb hr (fun t ht hW => ⟨⟨0, _, rfl, (by first | rfl | decide | (simp only [sp_row]; (repeat' split) <;> first | rfl | (exfalso; omega))), by rw [ht]; exact hP, hD⟩, hS.F ht⟩) hS.2.2 dX9_row_44
            · skip
              have tc_16 : (0 : Int) > a3.toInt := il_nle c_16 (by decide) rfl
              refine lv_bipush (v := (-3)) hx hb dX9_row_29 (by decide) ?_
              refine W.widen (k := 0) (n := 0) (Nat.le_of_ble_eq_true rfl) (Nat.le_of_ble_eq_true rfl) ?_
              exact W.iret (v := (-3)) hx hb hr (fun t ht hW => ⟨⟨(-3), _, rfl, (by first | rfl | decide | (simp only [sp_row]; (repeat' split) <;> first | rfl | (exfalso; omega))), by rw [ht]; exact hP, hD⟩, hS.F ht⟩) hS.2.2 dX9_row_31
          · skip
            have tc_15 : (a3.toInt : Int) > 60 := il_nle c_15 rfl (by decide)
            refine lv_bipush (v := (-2)) hx hb dX9_row_22 (by decide) ?_
            refine W.widen (k := 0) (n := 0) (Nat.le_of_ble_eq_true rfl) (Nat.le_of_ble_eq_true rfl) ?_
            exact W.iret (v := (-2)) hx hb hr (fun t ht hW => ⟨⟨(-2), _, rfl, (by first | rfl | decide | (simp only [sp_row]; (repeat' split) <;> first | rfl | (exfalso; omega))), by rw [ht]; exact hP, hD⟩, hS.F ht⟩) hS.2.2 dX9_row_24
    · skip
      exact absurd c_12 (by decide)
  · have hl : lv_has ls 4 [(0, .ref ob), (1, .int 2), (2, .int a2), (3, .int a3)] := hl
    refine lv_iload_n hx hb dX9_row_0 rfl (lv_at hl 1 rfl) ?_
    refine cSi (As := [.int 2]) (rest := []) ⟨hx, hb, hml, hown, hw0⟩ hA hK hP hD hS [] [0, 1, 2, 3, 4, 5, 6, 7, 8, 9] [] [(ob, .inr (9, [.ref tp, .int 0, .ref rd, .ref sa, .ref im, .ref sl, .ref ro, .ref wy, .ref od, .ref ok])), (sl, .inl (y 4, 4, .inr (.inr (.inr (.inr (va_up (va_up (va_up (va_up (fun _ => none) 0 (some s0)) 1 (some s1)) 2 (some s2)) 3 (some s3))))))), (s0, .inr (5, [.int 0, .int 0, .int 0, .ref nu0])), (s1, .inr (5, [.int 0, .int 0, .int 0, .ref nu1])), (s2, .inr (5, [.int 0, .int 0, .int 0, .ref nu2])), (s3, .inr (5, [.int 0, .int 0, .int 0, .ref nu3])), (nu0, .inl (y 2, 60, .inr (.inl f0))), (nu1, .inl (y 2, 60, .inr (.inl f1))), (nu2, .inl (y 2, 60, .inr (.inl f2))), (nu3, .inl (y 2, 60, .inr (.inl f3)))] rfl rfl (by decide) (by decide) (by decide) (kX9_isSlot l G y _ 2 ) ⟨(callB_of 1 hw0 (gA m_162) rfl rfl rfl (hw0 _ m_183) (hw0 _ m_200) (by decide +kernel) ⟨Nat.le_of_ble_eq_true rfl, Nat.le_of_ble_eq_true rfl⟩), (hw0 _ m_201)⟩ rfl hl.1 (Nat.le_of_ble_eq_true rfl) dX9_row_1 ⟨Nat.le_of_ble_eq_true rfl, Nat.le_of_ble_eq_true rfl⟩ (fun r_19 w_19 H locs hw_19 hP hD hS => ?_)
    rcases hw_19 with ⟨c_20, rfl, rfl⟩ | ⟨c_21, rfl, rfl⟩
    · skip
      have hP : va_P G vwCl [(ob, .inr (9, [.ref tp, .int 0, .ref rd, .ref sa, .ref im, .ref sl, .ref ro, .ref wy, .ref od, .ref ok])), (sl, .inl (y 4, 4, .inr (.inr (.inr (.inr (va_up (va_up (va_up (va_up (fun _ => none) 0 (some s0)) 1 (some s1)) 2 (some s2)) 3 (some s3))))))), (s0, .inr (5, [.int 0, .int 0, .int 0, .ref nu0])), (s1, .inr (5, [.int 0, .int 0, .int 0, .ref nu1])), (s2, .inr (5, [.int 0, .int 0, .int 0, .ref nu2])), (s3, .inr (5, [.int 0, .int 0, .int 0, .ref nu3])), (nu0, .inl (y 2, 60, .inr (.inl f0))), (nu1, .inl (y 2, 60, .inr (.inl f1))), (nu2, .inl (y 2, 60, .inr (.inl f2))), (nu3, .inl (y 2, 60, .inr (.inl f3)))] H := hP
      have hD : va_D A [(ob, .inr (9, [.ref tp, .int 0, .ref rd, .ref sa, .ref im, .ref sl, .ref ro, .ref wy, .ref od, .ref ok])), (sl, .inl (y 4, 4, .inr (.inr (.inr (.inr (va_up (va_up (va_up (va_up (fun _ => none) 0 (some s0)) 1 (some s1)) 2 (some s2)) 3 (some s3))))))), (s0, .inr (5, [.int 0, .int 0, .int 0, .ref nu0])), (s1, .inr (5, [.int 0, .int 0, .int 0, .ref nu1])), (s2, .inr (5, [.int 0, .int 0, .int 0, .ref nu2])), (s3, .inr (5, [.int 0, .int 0, .int 0, .ref nu3])), (nu0, .inl (y 2, 60, .inr (.inl f0))), (nu1, .inl (y 2, 60, .inr (.inl f1))), (nu2, .inl (y 2, 60, .inr (.inl f2))), (nu3, .inl (y 2, 60, .inr (.inl f3)))] := hD
      refine lv_if_eq (tgt := 22) hx hb dX9_row_4 (by decide) (fun c9 => absurd c9 (by decide)) (fun _ => ?_)
      refine lv_iload_n hx hb dX9_row_7 rfl (lv_at hl 2 rfl) ?_
      refine lv_if_lt (tgt := 22) hx hb dX9_row_8 (by decide) (fun c_22 => ?_) (fun c_22 => ?_)
      · skip
        have tc_22 : (a2.toInt : Int) < 0 := il_lt c_22 rfl (by decide)
        refine lv_bipush (v := (-2)) hx hb dX9_row_22 (by decide) ?_
        refine W.widen (k := 0) (n := 0) (Nat.le_of_ble_eq_true rfl) (Nat.le_of_ble_eq_true rfl) ?_
        exact W.iret (v := (-2)) hx hb hr (fun t ht hW => ⟨⟨(-2), _, rfl, (by first | rfl | decide | (simp only [sp_row]; (repeat' split) <;> first | rfl | (exfalso; omega))), by rw [ht]; exact hP, hD⟩, hS.F ht⟩) hS.2.2 dX9_row_24
      · skip
        have tc_22 : (a2.toInt : Int) ≥ 0 := il_nlt c_22 rfl (by decide)
        refine lv_iload_n hx hb dX9_row_11 rfl (lv_at hl 2 rfl) ?_
        refine lv_iconst (v := 4) hx hb dX9_row_12 (by decide) ?_
        refine lv_icmp_ge (tgt := 22) hx hb dX9_row_13 (by decide) (fun c_23 => ?_) (fun c_23 => ?_)
        · skip
          have tc_23 : (4 : Int) ≤ a2.toInt := il_le c_23 (by decide) rfl
          refine lv_bipush (v := (-2)) hx hb dX9_row_22 (by decide) ?_
          refine W.widen (k := 0) (n := 0) (Nat.le_of_ble_eq_true rfl) (Nat.le_of_ble_eq_true rfl) ?_
          exact W.iret (v := (-2)) hx hb hr (fun t ht hW => ⟨⟨(-2), _, rfl, (by first | rfl | decide | (simp only [sp_row]; (repeat' split) <;> first | rfl | (exfalso; omega))), by rw [ht]; exact hP, hD⟩, hS.F ht⟩) hS.2.2 dX9_row_24
        · skip
          have tc_23 : (4 : Int) > a2.toInt := il_nle c_23 (by decide) rfl
          refine lv_iload_n hx hb dX9_row_16 rfl (lv_at hl 3 rfl) ?_
          refine lv_bipush (v := 60) hx hb dX9_row_17 (by decide) ?_
          refine lv_icmp_le (tgt := 25) hx hb dX9_row_19 (by decide) (fun c_24 => ?_) (fun c_24 => ?_)
          · skip
            have tc_24 : (a3.toInt : Int) ≤ 60 := il_le c_24 rfl (by decide)
            refine lv_iload_n hx hb dX9_row_25 rfl (lv_at hl 3 rfl) ?_
            refine lv_if_ge (tgt := 32) hx hb dX9_row_26 (by decide) (fun c_25 => ?_) (fun c_25 => ?_)
            · skip
              have tc_25 : (0 : Int) ≤ a3.toInt := il_le c_25 (by decide) rfl
              refine lv_aload_n hx hb dX9_row_32 rfl (lv_at hl 0 rfl) ?_
              refine va_get (D := G) (ci := 9) (v := .ref sl) (C := RX9) (T := TX9) (N := 10) hx hb hw0 inA_wsX90 hown hK.1 hP 0 rfl rfl 5 (by decide) (hw0 _ m_113) (fun _ h9 => h9) rfl dX9_row_33 ?_
              refine lv_iload_n hx hb dX9_row_36 rfl (lv_at hl 1 rfl) ?_
              refine va_aldq hx hb hK.1 hP 1 4 rfl rfl (vp_in_nI (n := 2) (N := 4) (by decide) (by decide)) dX9_row_37 ?_
              refine W.eq (g2 := F0 m 38 ls [.ref s2]) rfl ?_
              refine lv_iload_n hx hb dX9_row_38 rfl (lv_at hl 2 rfl) ?_
              refine lv_iload_n hx hb dX9_row_39 rfl (lv_at hl 3 rfl) ?_
              refine cVv (As := [.int a2, .int a3]) (rest := []) ⟨hx, hb, hml, hown, hw0⟩ hA hK hP hD hS [4, 8] [0, 1, 2, 3, 5, 6, 7, 9] [(s2, .inr (5, [.int 0, .int 0, .int 0, .ref nu2])), (nu2, .inl (y 2, 60, .inr (.inl f2)))] [(ob, .inr (9, [.ref tp, .int 0, .ref rd, .ref sa, .ref im, .ref sl, .ref ro, .ref wy, .ref od, .ref ok])), (sl, .inl (y 4, 4, .inr (.inr (.inr (.inr (va_up (va_up (va_up (va_up (fun _ => none) 0 (some s0)) 1 (some s1)) 2 (some s2)) 3 (some s3))))))), (s0, .inr (5, [.int 0, .int 0, .int 0, .ref nu0])), (s1, .inr (5, [.int 0, .int 0, .int 0, .ref nu1])), (s3, .inr (5, [.int 0, .int 0, .int 0, .ref nu3])), (nu0, .inl (y 2, 60, .inr (.inl f0))), (nu1, .inl (y 2, 60, .inr (.inl f1))), (nu3, .inl (y 2, 60, .inr (.inl f3)))] rfl rfl (by decide) (by decide) (by decide) (kX5_lay l G y _ s2 a2 a3 nu2 f2 ) ⟨(callB_of 2 hw0 (gA m_245) rfl rfl rfl (hw0 _ m_128) (hw0 _ m_246) (by decide +kernel) ⟨Nat.le_of_ble_eq_true rfl, Nat.le_of_ble_eq_true rfl⟩), (hw0 _ m_247), (hw0 _ m_248)⟩ (ci := 5) (q := (RX5, TX5, 4)) rfl rfl rfl hl.1 (Nat.le_of_ble_eq_true rfl) dX9_row_40 ⟨Nat.le_of_ble_eq_true rfl, Nat.le_of_ble_eq_true rfl⟩ (fun w_26 H locs hw_26 hP hD hS => ?_)
              obtain ⟨f_27, rfl⟩ := hw_26
              have hP : va_P G vwCl [(ob, .inr (9, [.ref tp, .int 0, .ref rd, .ref sa, .ref im, .ref sl, .ref ro, .ref wy, .ref od, .ref ok])), (sl, .inl (y 4, 4, .inr (.inr (.inr (.inr (va_up (va_up (va_up (va_up (fun _ => none) 0 (some s0)) 1 (some s1)) 2 (some s2)) 3 (some s3))))))), (s0, .inr (5, [.int 0, .int 0, .int 0, .ref nu0])), (s1, .inr (5, [.int 0, .int 0, .int 0, .ref nu1])), (s3, .inr (5, [.int 0, .int 0, .int 0, .ref nu3])), (nu0, .inl (y 2, 60, .inr (.inl f0))), (nu1, .inl (y 2, 60, .inr (.inl f1))), (nu3, .inl (y 2, 60, .inr (.inl f3))), (s2, .inr (5, [.int 1, .int a2, .int a3, .ref nu2])), (nu2, .inl (y 2, 60, .inr (.inl f_27)))] H := hP
              have hD : va_D A [(ob, .inr (9, [.ref tp, .int 0, .ref rd, .ref sa, .ref im, .ref sl, .ref ro, .ref wy, .ref od, .ref ok])), (sl, .inl (y 4, 4, .inr (.inr (.inr (.inr (va_up (va_up (va_up (va_up (fun _ => none) 0 (some s0)) 1 (some s1)) 2 (some s2)) 3 (some s3))))))), (s0, .inr (5, [.int 0, .int 0, .int 0, .ref nu0])), (s1, .inr (5, [.int 0, .int 0, .int 0, .ref nu1])), (s3, .inr (5, [.int 0, .int 0, .int 0, .ref nu3])), (nu0, .inl (y 2, 60, .inr (.inl f0))), (nu1, .inl (y 2, 60, .inr (.inl f1))), (nu3, .inl (y 2, 60, .inr (.inl f3))), (s2, .inr (5, [.int 1, .int a2, .int a3, .ref nu2])), (nu2, .inl (y 2, 60, .inr (.inl f_27)))] := hD
              refine lv_iconst (v := 0) hx hb dX9_row_43 (by decide) ?_
              refine W.widen (k := 0) (n := 0) (Nat.le_of_ble_eq_true rfl) (Nat.le_of_ble_eq_true rfl) ?_
              exact W.iret (v := 0) hx hb hr (fun t ht hW => ⟨⟨0, _, rfl, (by first | rfl | decide | (simp only [sp_row]; (repeat' split) <;> first | rfl | (exfalso; omega))), by rw [ht]; exact hP, hD⟩, hS.F ht⟩) hS.2.2 dX9_row_44
            · skip
              have tc_25 : (0 : Int) > a3.toInt := il_nle c_25 (by decide) rfl
              refine lv_bipush (v := (-3)) hx hb dX9_row_29 (by decide) ?_
              refine W.widen (k := 0) (n := 0) (Nat.le_of_ble_eq_true rfl) (Nat.le_of_ble_eq_true rfl) ?_
              exact W.iret (v := (-3)) hx hb hr (fun t ht hW => ⟨⟨(-3), _, rfl, (by first | rfl | decide | (simp only [sp_row]; (repeat' split) <;> first | rfl | (exfalso; omega))), by rw [ht]; exact hP, hD⟩, hS.F ht⟩) hS.2.2 dX9_row_31
          · skip
            have tc_24 : (a3.toInt : Int) > 60 := il_nle c_24 rfl (by decide)
            refine lv_bipush (v := (-2)) hx hb dX9_row_22 (by decide) ?_
            refine W.widen (k := 0) (n := 0) (Nat.le_of_ble_eq_true rfl) (Nat.le_of_ble_eq_true rfl) ?_
            exact W.iret (v := (-2)) hx hb hr (fun t ht hW => ⟨⟨(-2), _, rfl, (by first | rfl | decide | (simp only [sp_row]; (repeat' split) <;> first | rfl | (exfalso; omega))), by rw [ht]; exact hP, hD⟩, hS.F ht⟩) hS.2.2 dX9_row_24
    · skip
      exact absurd c_21 (by decide)
  · have hl : lv_has ls 4 [(0, .ref ob), (1, .int 3), (2, .int a2), (3, .int a3)] := hl
    refine lv_iload_n hx hb dX9_row_0 rfl (lv_at hl 1 rfl) ?_
    refine cSi (As := [.int 3]) (rest := []) ⟨hx, hb, hml, hown, hw0⟩ hA hK hP hD hS [] [0, 1, 2, 3, 4, 5, 6, 7, 8, 9] [] [(ob, .inr (9, [.ref tp, .int 0, .ref rd, .ref sa, .ref im, .ref sl, .ref ro, .ref wy, .ref od, .ref ok])), (sl, .inl (y 4, 4, .inr (.inr (.inr (.inr (va_up (va_up (va_up (va_up (fun _ => none) 0 (some s0)) 1 (some s1)) 2 (some s2)) 3 (some s3))))))), (s0, .inr (5, [.int 0, .int 0, .int 0, .ref nu0])), (s1, .inr (5, [.int 0, .int 0, .int 0, .ref nu1])), (s2, .inr (5, [.int 0, .int 0, .int 0, .ref nu2])), (s3, .inr (5, [.int 0, .int 0, .int 0, .ref nu3])), (nu0, .inl (y 2, 60, .inr (.inl f0))), (nu1, .inl (y 2, 60, .inr (.inl f1))), (nu2, .inl (y 2, 60, .inr (.inl f2))), (nu3, .inl (y 2, 60, .inr (.inl f3)))] rfl rfl (by decide) (by decide) (by decide) (kX9_isSlot l G y _ 3 ) ⟨(callB_of 1 hw0 (gA m_162) rfl rfl rfl (hw0 _ m_183) (hw0 _ m_200) (by decide +kernel) ⟨Nat.le_of_ble_eq_true rfl, Nat.le_of_ble_eq_true rfl⟩), (hw0 _ m_201)⟩ rfl hl.1 (Nat.le_of_ble_eq_true rfl) dX9_row_1 ⟨Nat.le_of_ble_eq_true rfl, Nat.le_of_ble_eq_true rfl⟩ (fun r_28 w_28 H locs hw_28 hP hD hS => ?_)
    rcases hw_28 with ⟨c_29, rfl, rfl⟩ | ⟨c_30, rfl, rfl⟩
    · skip
      have hP : va_P G vwCl [(ob, .inr (9, [.ref tp, .int 0, .ref rd, .ref sa, .ref im, .ref sl, .ref ro, .ref wy, .ref od, .ref ok])), (sl, .inl (y 4, 4, .inr (.inr (.inr (.inr (va_up (va_up (va_up (va_up (fun _ => none) 0 (some s0)) 1 (some s1)) 2 (some s2)) 3 (some s3))))))), (s0, .inr (5, [.int 0, .int 0, .int 0, .ref nu0])), (s1, .inr (5, [.int 0, .int 0, .int 0, .ref nu1])), (s2, .inr (5, [.int 0, .int 0, .int 0, .ref nu2])), (s3, .inr (5, [.int 0, .int 0, .int 0, .ref nu3])), (nu0, .inl (y 2, 60, .inr (.inl f0))), (nu1, .inl (y 2, 60, .inr (.inl f1))), (nu2, .inl (y 2, 60, .inr (.inl f2))), (nu3, .inl (y 2, 60, .inr (.inl f3)))] H := hP
      have hD : va_D A [(ob, .inr (9, [.ref tp, .int 0, .ref rd, .ref sa, .ref im, .ref sl, .ref ro, .ref wy, .ref od, .ref ok])), (sl, .inl (y 4, 4, .inr (.inr (.inr (.inr (va_up (va_up (va_up (va_up (fun _ => none) 0 (some s0)) 1 (some s1)) 2 (some s2)) 3 (some s3))))))), (s0, .inr (5, [.int 0, .int 0, .int 0, .ref nu0])), (s1, .inr (5, [.int 0, .int 0, .int 0, .ref nu1])), (s2, .inr (5, [.int 0, .int 0, .int 0, .ref nu2])), (s3, .inr (5, [.int 0, .int 0, .int 0, .ref nu3])), (nu0, .inl (y 2, 60, .inr (.inl f0))), (nu1, .inl (y 2, 60, .inr (.inl f1))), (nu2, .inl (y 2, 60, .inr (.inl f2))), (nu3, .inl (y 2, 60, .inr (.inl f3)))] := hD
      refine lv_if_eq (tgt := 22) hx hb dX9_row_4 (by decide) (fun c9 => absurd c9 (by decide)) (fun _ => ?_)
      refine lv_iload_n hx hb dX9_row_7 rfl (lv_at hl 2 rfl) ?_
      refine lv_if_lt (tgt := 22) hx hb dX9_row_8 (by decide) (fun c_31 => ?_) (fun c_31 => ?_)
      · skip
        have tc_31 : (a2.toInt : Int) < 0 := il_lt c_31 rfl (by decide)
        refine lv_bipush (v := (-2)) hx hb dX9_row_22 (by decide) ?_
        refine W.widen (k := 0) (n := 0) (Nat.le_of_ble_eq_true rfl) (Nat.le_of_ble_eq_true rfl) ?_
        exact W.iret (v := (-2)) hx hb hr (fun t ht hW => ⟨⟨(-2), _, rfl, (by first | rfl | decide | (simp only [sp_row]; (repeat' split) <;> first | rfl | (exfalso; omega))), by rw [ht]; exact hP, hD⟩, hS.F ht⟩) hS.2.2 dX9_row_24
      · skip
        have tc_31 : (a2.toInt : Int) ≥ 0 := il_nlt c_31 rfl (by decide)
        refine lv_iload_n hx hb dX9_row_11 rfl (lv_at hl 2 rfl) ?_
        refine lv_iconst (v := 4) hx hb dX9_row_12 (by decide) ?_
        refine lv_icmp_ge (tgt := 22) hx hb dX9_row_13 (by decide) (fun c_32 => ?_) (fun c_32 => ?_)
        · skip
          have tc_32 : (4 : Int) ≤ a2.toInt := il_le c_32 (by decide) rfl
          refine lv_bipush (v := (-2)) hx hb dX9_row_22 (by decide) ?_
          refine W.widen (k := 0) (n := 0) (Nat.le_of_ble_eq_true rfl) (Nat.le_of_ble_eq_true rfl) ?_
          exact W.iret (v := (-2)) hx hb hr (fun t ht hW => ⟨⟨(-2), _, rfl, (by first | rfl | decide | (simp only [sp_row]; (repeat' split) <;> first | rfl | (exfalso; omega))), by rw [ht]; exact hP, hD⟩, hS.F ht⟩) hS.2.2 dX9_row_24
        · skip
          have tc_32 : (4 : Int) > a2.toInt := il_nle c_32 (by decide) rfl
          refine lv_iload_n hx hb dX9_row_16 rfl (lv_at hl 3 rfl) ?_
          refine lv_bipush (v := 60) hx hb dX9_row_17 (by decide) ?_
          refine lv_icmp_le (tgt := 25) hx hb dX9_row_19 (by decide) (fun c_33 => ?_) (fun c_33 => ?_)
          · skip
            have tc_33 : (a3.toInt : Int) ≤ 60 := il_le c_33 rfl (by decide)
            refine lv_iload_n hx hb dX9_row_25 rfl (lv_at hl 3 rfl) ?_
            refine lv_if_ge (tgt := 32) hx hb dX9_row_26 (by decide) (fun c_34 => ?_) (fun c_34 => ?_)
            · skip
              have tc_34 : (0 : Int) ≤ a3.toInt := il_le c_34 (by decide) rfl
              refine lv_aload_n hx hb dX9_row_32 rfl (lv_at hl 0 rfl) ?_
              refine va_get (D := G) (ci := 9) (v := .ref sl) (C := RX9) (T := TX9) (N := 10) hx hb hw0 inA_wsX90 hown hK.1 hP 0 rfl rfl 5 (by decide) (hw0 _ m_113) (fun _ h9 => h9) rfl dX9_row_33 ?_
              refine lv_iload_n hx hb dX9_row_36 rfl (lv_at hl 1 rfl) ?_
              refine va_aldq hx hb hK.1 hP 1 4 rfl rfl (vp_in_nI (n := 3) (N := 4) (by decide) (by decide)) dX9_row_37 ?_
              refine W.eq (g2 := F0 m 38 ls [.ref s3]) rfl ?_
              refine lv_iload_n hx hb dX9_row_38 rfl (lv_at hl 2 rfl) ?_
              refine lv_iload_n hx hb dX9_row_39 rfl (lv_at hl 3 rfl) ?_
              refine cVv (As := [.int a2, .int a3]) (rest := []) ⟨hx, hb, hml, hown, hw0⟩ hA hK hP hD hS [5, 9] [0, 1, 2, 3, 4, 6, 7, 8] [(s3, .inr (5, [.int 0, .int 0, .int 0, .ref nu3])), (nu3, .inl (y 2, 60, .inr (.inl f3)))] [(ob, .inr (9, [.ref tp, .int 0, .ref rd, .ref sa, .ref im, .ref sl, .ref ro, .ref wy, .ref od, .ref ok])), (sl, .inl (y 4, 4, .inr (.inr (.inr (.inr (va_up (va_up (va_up (va_up (fun _ => none) 0 (some s0)) 1 (some s1)) 2 (some s2)) 3 (some s3))))))), (s0, .inr (5, [.int 0, .int 0, .int 0, .ref nu0])), (s1, .inr (5, [.int 0, .int 0, .int 0, .ref nu1])), (s2, .inr (5, [.int 0, .int 0, .int 0, .ref nu2])), (nu0, .inl (y 2, 60, .inr (.inl f0))), (nu1, .inl (y 2, 60, .inr (.inl f1))), (nu2, .inl (y 2, 60, .inr (.inl f2)))] rfl rfl (by decide) (by decide) (by decide) (kX5_lay l G y _ s3 a2 a3 nu3 f3 ) ⟨(callB_of 2 hw0 (gA m_245) rfl rfl rfl (hw0 _ m_128) (hw0 _ m_246) (by decide +kernel) ⟨Nat.le_of_ble_eq_true rfl, Nat.le_of_ble_eq_true rfl⟩), (hw0 _ m_247), (hw0 _ m_248)⟩ (ci := 5) (q := (RX5, TX5, 4)) rfl rfl rfl hl.1 (Nat.le_of_ble_eq_true rfl) dX9_row_40 ⟨Nat.le_of_ble_eq_true rfl, Nat.le_of_ble_eq_true rfl⟩ (fun w_35 H locs hw_35 hP hD hS => ?_)
              obtain ⟨f_36, rfl⟩ := hw_35
              have hP : va_P G vwCl [(ob, .inr (9, [.ref tp, .int 0, .ref rd, .ref sa, .ref im, .ref sl, .ref ro, .ref wy, .ref od, .ref ok])), (sl, .inl (y 4, 4, .inr (.inr (.inr (.inr (va_up (va_up (va_up (va_up (fun _ => none) 0 (some s0)) 1 (some s1)) 2 (some s2)) 3 (some s3))))))), (s0, .inr (5, [.int 0, .int 0, .int 0, .ref nu0])), (s1, .inr (5, [.int 0, .int 0, .int 0, .ref nu1])), (s2, .inr (5, [.int 0, .int 0, .int 0, .ref nu2])), (nu0, .inl (y 2, 60, .inr (.inl f0))), (nu1, .inl (y 2, 60, .inr (.inl f1))), (nu2, .inl (y 2, 60, .inr (.inl f2))), (s3, .inr (5, [.int 1, .int a2, .int a3, .ref nu3])), (nu3, .inl (y 2, 60, .inr (.inl f_36)))] H := hP
              have hD : va_D A [(ob, .inr (9, [.ref tp, .int 0, .ref rd, .ref sa, .ref im, .ref sl, .ref ro, .ref wy, .ref od, .ref ok])), (sl, .inl (y 4, 4, .inr (.inr (.inr (.inr (va_up (va_up (va_up (va_up (fun _ => none) 0 (some s0)) 1 (some s1)) 2 (some s2)) 3 (some s3))))))), (s0, .inr (5, [.int 0, .int 0, .int 0, .ref nu0])), (s1, .inr (5, [.int 0, .int 0, .int 0, .ref nu1])), (s2, .inr (5, [.int 0, .int 0, .int 0, .ref nu2])), (nu0, .inl (y 2, 60, .inr (.inl f0))), (nu1, .inl (y 2, 60, .inr (.inl f1))), (nu2, .inl (y 2, 60, .inr (.inl f2))), (s3, .inr (5, [.int 1, .int a2, .int a3, .ref nu3])), (nu3, .inl (y 2, 60, .inr (.inl f_36)))] := hD
              refine lv_iconst (v := 0) hx hb dX9_row_43 (by decide) ?_
              refine W.widen (k := 0) (n := 0) (Nat.le_of_ble_eq_true rfl) (Nat.le_of_ble_eq_true rfl) ?_
              exact W.iret (v := 0) hx hb hr (fun t ht hW => ⟨⟨0, _, rfl, (by first | rfl | decide | (simp only [sp_row]; (repeat' split) <;> first | rfl | (exfalso; omega))), by rw [ht]; exact hP, hD⟩, hS.F ht⟩) hS.2.2 dX9_row_44
            · skip
              have tc_34 : (0 : Int) > a3.toInt := il_nle c_34 (by decide) rfl
              refine lv_bipush (v := (-3)) hx hb dX9_row_29 (by decide) ?_
              refine W.widen (k := 0) (n := 0) (Nat.le_of_ble_eq_true rfl) (Nat.le_of_ble_eq_true rfl) ?_
              exact W.iret (v := (-3)) hx hb hr (fun t ht hW => ⟨⟨(-3), _, rfl, (by first | rfl | decide | (simp only [sp_row]; (repeat' split) <;> first | rfl | (exfalso; omega))), by rw [ht]; exact hP, hD⟩, hS.F ht⟩) hS.2.2 dX9_row_31
          · skip
            have tc_33 : (a3.toInt : Int) > 60 := il_nle c_33 rfl (by decide)
            refine lv_bipush (v := (-2)) hx hb dX9_row_22 (by decide) ?_
            refine W.widen (k := 0) (n := 0) (Nat.le_of_ble_eq_true rfl) (Nat.le_of_ble_eq_true rfl) ?_
            exact W.iret (v := (-2)) hx hb hr (fun t ht hW => ⟨⟨(-2), _, rfl, (by first | rfl | decide | (simp only [sp_row]; (repeat' split) <;> first | rfl | (exfalso; omega))), by rw [ht]; exact hP, hD⟩, hS.F ht⟩) hS.2.2 dX9_row_24
    · skip
      exact absurd c_30 (by decide)
  · have hl : lv_has ls 4 [(0, .ref ob), (1, .int a1), (2, .int a2), (3, .int a3)] := hl
    refine lv_iload_n hx hb dX9_row_0 rfl (lv_at hl 1 rfl) ?_
    refine cSi (As := [.int a1]) (rest := []) ⟨hx, hb, hml, hown, hw0⟩ hA hK hP hD hS [] [0, 1, 2, 3, 4, 5, 6, 7, 8, 9] [] [(ob, .inr (9, [.ref tp, .int 0, .ref rd, .ref sa, .ref im, .ref sl, .ref ro, .ref wy, .ref od, .ref ok])), (sl, .inl (y 4, 4, .inr (.inr (.inr (.inr (va_up (va_up (va_up (va_up (fun _ => none) 0 (some s0)) 1 (some s1)) 2 (some s2)) 3 (some s3))))))), (s0, .inr (5, [.int 0, .int 0, .int 0, .ref nu0])), (s1, .inr (5, [.int 0, .int 0, .int 0, .ref nu1])), (s2, .inr (5, [.int 0, .int 0, .int 0, .ref nu2])), (s3, .inr (5, [.int 0, .int 0, .int 0, .ref nu3])), (nu0, .inl (y 2, 60, .inr (.inl f0))), (nu1, .inl (y 2, 60, .inr (.inl f1))), (nu2, .inl (y 2, 60, .inr (.inl f2))), (nu3, .inl (y 2, 60, .inr (.inl f3)))] rfl rfl (by decide) (by decide) (by decide) (kX9_isSlot l G y _ a1 ) ⟨(callB_of 1 hw0 (gA m_162) rfl rfl rfl (hw0 _ m_183) (hw0 _ m_200) (by decide +kernel) ⟨Nat.le_of_ble_eq_true rfl, Nat.le_of_ble_eq_true rfl⟩), (hw0 _ m_201)⟩ rfl hl.1 (Nat.le_of_ble_eq_true rfl) dX9_row_1 ⟨Nat.le_of_ble_eq_true rfl, Nat.le_of_ble_eq_true rfl⟩ (fun r_37 w_37 H locs hw_37 hP hD hS => ?_)
    rcases hw_37 with ⟨c_38, rfl, rfl⟩ | ⟨c_39, rfl, rfl⟩
    · skip
      exfalso; omega
    · skip
      have hP : va_P G vwCl [(ob, .inr (9, [.ref tp, .int 0, .ref rd, .ref sa, .ref im, .ref sl, .ref ro, .ref wy, .ref od, .ref ok])), (sl, .inl (y 4, 4, .inr (.inr (.inr (.inr (va_up (va_up (va_up (va_up (fun _ => none) 0 (some s0)) 1 (some s1)) 2 (some s2)) 3 (some s3))))))), (s0, .inr (5, [.int 0, .int 0, .int 0, .ref nu0])), (s1, .inr (5, [.int 0, .int 0, .int 0, .ref nu1])), (s2, .inr (5, [.int 0, .int 0, .int 0, .ref nu2])), (s3, .inr (5, [.int 0, .int 0, .int 0, .ref nu3])), (nu0, .inl (y 2, 60, .inr (.inl f0))), (nu1, .inl (y 2, 60, .inr (.inl f1))), (nu2, .inl (y 2, 60, .inr (.inl f2))), (nu3, .inl (y 2, 60, .inr (.inl f3)))] H := hP
      have hD : va_D A [(ob, .inr (9, [.ref tp, .int 0, .ref rd, .ref sa, .ref im, .ref sl, .ref ro, .ref wy, .ref od, .ref ok])), (sl, .inl (y 4, 4, .inr (.inr (.inr (.inr (va_up (va_up (va_up (va_up (fun _ => none) 0 (some s0)) 1 (some s1)) 2 (some s2)) 3 (some s3))))))), (s0, .inr (5, [.int 0, .int 0, .int 0, .ref nu0])), (s1, .inr (5, [.int 0, .int 0, .int 0, .ref nu1])), (s2, .inr (5, [.int 0, .int 0, .int 0, .ref nu2])), (s3, .inr (5, [.int 0, .int 0, .int 0, .ref nu3])), (nu0, .inl (y 2, 60, .inr (.inl f0))), (nu1, .inl (y 2, 60, .inr (.inl f1))), (nu2, .inl (y 2, 60, .inr (.inl f2))), (nu3, .inl (y 2, 60, .inr (.inl f3)))] := hD
      refine lv_if_eq (tgt := 22) hx hb dX9_row_4 (by decide) (fun _ => ?_) (fun c9 => absurd (by decide) c9)
      refine lv_bipush (v := (-2)) hx hb dX9_row_22 (by decide) ?_
      refine W.widen (k := 0) (n := 0) (Nat.le_of_ble_eq_true rfl) (Nat.le_of_ble_eq_true rfl) ?_
      exact W.iret (v := (-2)) hx hb hr (fun t ht hW => ⟨⟨(-2), _, rfl, (by first | rfl | decide | (simp only [sp_row]; (repeat' split) <;> first | rfl | (exfalso; omega))), by rw [ht]; exact hP, hD⟩, hS.F ht⟩) hS.2.2 dX9_row_24
