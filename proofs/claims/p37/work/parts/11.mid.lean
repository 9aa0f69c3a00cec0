set_option maxHeartbeats 4000000 in
set_option maxRecDepth 100000 in
theorem sfill16 (l : Launch) (G : va_G) (y : Nat → ClassId) (sz : Nat) (ar : Nat) (va : Int32) (far : Nat → Int32)  : Met l yJ7_fill_53178 (Cond.code yJ7_fill_53178 cJ7_fill_53178 4 none :: wAll) ({ frames := 0, cells := 0, slots := 0, locals := 0 }) (va_Pc [.ref ar, .int va] (kp G y sz [(ce_i16 y ar far)])) (va_Qv (fun (w : va_W) => (∃ (f_71 : Nat → Int32), w = [(ce_i16 y ar f_71)])) (kq G (va_A [(ce_i16 y ar far)] sz)) (va_A [(ce_i16 y ar far)] sz)) 0 0 (va_A [(ce_i16 y ar far)] sz) := by
  refine Met.ofW (cc := cJ7_fill_53178) (maxL := 4) (ret := none) (by decide) rfl ?_
  intro p e s m args below meth c s₁ B hml hv
  obtain ⟨rfl, hsz, hP, hK, hD0⟩ := hv
  have hx := B.exec
  have hb := B.bytes
  have hr := B.returns
  have hw0 : ∀ w ∈ wAll, w.before _ s = true := fun w h => atoms_spec (ws := Cond.code yJ7_fill_53178 cJ7_fill_53178 4 none :: wAll) B.pre w (List.mem_cons_of_mem _ h)
  have hown : s.vm.findClass RJ7 = some m.cls := findClass_of_methodNamed B.named
  subst hsz
  have hD := hD0.self (sz := s.heap.size)
  generalize hAe : va_A [(ce_i16 y ar far)] s.heap.size = A at hD ⊢
  have hA : ∀ q : Nat, s.heap.size ≤ q → A q := fun q h => by rw [← hAe]; exact Or.inr h
  have hS : va_S A s.heap s.heap [] := va_S.rf
  have hP : va_P G vwCl [(ce_i16 y ar far)] s.heap := hP
  have hl := lv_entry ([.ref ar, .int va]) (n := 4) (Nat.le_of_ble_eq_true rfl)
  rw [lg_entry_eq]
  generalize (lg_sl ([.ref ar, .int va]) ++ List.replicate (4 - (lg_sl ([.ref ar, .int va])).length) Slot.unset).toArray = ls at hl ⊢
  have hl : lv_has ls 4 [(0, .ref ar), (1, .int va)] := hl
  refine lv_iconst (v := 0) hx hb dJ7_fill_53178_0 (by decide) ?_
  refine lv_istore_n (lv' := [(2, .int 0), (0, .ref ar), (1, .int va)]) hx hb dJ7_fill_53178_1 rfl hl (by decide) rfl (fun ls hl => ?_)
  refine lv_aload_n hx hb dJ7_fill_53178_2 rfl (lv_at hl 1 rfl) ?_
  refine va_alen (v := 16) hx hb hK.1 hP 0 1 rfl rfl rfl dJ7_fill_53178_3 ?_
  refine lv_istore_n (lv' := [(3, .int 16), (2, .int 0), (0, .ref ar), (1, .int va)]) hx hb dJ7_fill_53178_4 rfl hl (by decide) rfl (fun ls hl => ?_)
  refine loopX (fun n H locs ls st => ∃ (v_1028 : Int32) (f_1029 : Nat → Int32), (16 - v_1028.toInt).toNat = n ∧ ((0 : Int) ≤ v_1028.toInt ∧ v_1028.toInt ≤ 16) ∧ st = [] ∧ vPD G A H [(ce_i16 y ar f_1029)] ∧ va_S A s.heap H locs ∧ lv_has ls 4 [(3, .int 16), (2, .int v_1028), (0, .ref ar), (1, .int va)]) ?_ (n := (16 - (0 : Int32).toInt).toNat) ⟨0, far, rfl, (bw (0) (16) (bkc (x := 0) (c := 0) (by decide)) (by decide)), rfl, ⟨hP, hD⟩, hS, lv_sub hl [0, 1, 2, 3] rfl⟩
  rintro n ih_1032 H locs ls st ⟨v_1028, f_1029, hn_1032, bv_1028, rfl, ⟨hP, hD⟩, hS, hl⟩
  refine lv_iload_n hx hb dJ7_fill_53178_5 rfl (lv_at hl 1 rfl) ?_
  refine lv_iload_n hx hb dJ7_fill_53178_6 rfl (lv_at hl 0 rfl) ?_
  refine lv_icmp_ge (tgt := 20) hx hb dJ7_fill_53178_7 (by decide) (fun c_1033 => ?_) (fun c_1033 => ?_)
  · skip
    have nc_1033 := nb_le (16) (16) c_1033 (bkc (x := 16) (c := 16) (by decide)) bv_1028 (by decide)
    exact W.vret hx hb hr (fun t ht hW => ⟨⟨_, rfl, ⟨f_1029, rfl⟩, by rw [ht]; exact hP, hD⟩, hS.F ht⟩) hS.2.2 dJ7_fill_53178_20
  · skip
    have nc_1033 := nb_nle (15) (16) c_1033 bv_1028 (bkc (x := 16) (c := 16) (by decide)) (by decide)
    refine lv_aload_n hx hb dJ7_fill_53178_10 rfl (lv_at hl 2 rfl) ?_
    refine lv_iload_n hx hb dJ7_fill_53178_11 rfl (lv_at hl 1 rfl) ?_
    refine lv_iload_n hx hb dJ7_fill_53178_12 rfl (lv_at hl 3 rfl) ?_
    refine va_iast hx hb hK.1 hP hD hS 0 1 rfl rfl (vi nc_1033.1 (by decide)) dJ7_fill_53178_13 (fun H locs hP hD hS => ?_)
    generalize hf_1034 : (upd f_1029 (v_1028 : Int32).toNatClampNeg va) = f_1034 at hP hD
    obtain ⟨hP, hD⟩ : vPD G A H [(ce_i16 y ar f_1034)] := ⟨hP, hD⟩
    obtain ⟨v_1035, ev_1035⟩ : ∃ z : Int32, z = v_1028 + 1 := ⟨_, rfl⟩
    have qv_1035 := ba_add ev_1035 nc_1033.1 (bkc (x := 1) (c := 1) (by decide)) (by decide)
    have bv_1035 : (1 : Int) ≤ v_1035.toInt ∧ v_1035.toInt ≤ 16 := bq_add qv_1035 nc_1033.1 (bkc (x := 1) (c := 1) (by decide)) _ _ (by decide)
    have qv_1035 : v_1035.toInt = v_1028.toInt + (1) := qv_1035
    refine lv_iinc (v := v_1035) (lv' := [(2, .int v_1035), (3, .int 16), (0, .ref ar), (1, .int va)]) hx hb dJ7_fill_53178_14 hl (k := 1) rfl (ev_1035.symm) (by decide) rfl (fun ls hl => ?_)
    refine lv_goto (tgt := 5) hx hb dJ7_fill_53178_17 (by decide) ?_
    exact ih_1032 _ (ml_inc (hi := 16) hn_1032 qv_1035 (by decide) ((bw (0) (16) bv_1035 (by decide))).2) _ _ _ _ ⟨v_1035, f_1034, rfl, (bw (0) (16) bv_1035 (by decide)), rfl, ⟨hP, hD⟩, hS, lv_sub hl [1, 0, 2, 3] rfl⟩

set_option maxHeartbeats 4000000 in
set_option maxRecDepth 100000 in
theorem sfill256 (l : Launch) (G : va_G) (y : Nat → ClassId) (sz : Nat) (ar : Nat) (va : Int32) (far : Nat → Int32)  : Met l yJ7_fill_53178 (Cond.code yJ7_fill_53178 cJ7_fill_53178 4 none :: wAll) ({ frames := 0, cells := 0, slots := 0, locals := 0 }) (va_Pc [.ref ar, .int va] (kp G y sz [(ce_i256 y ar far)])) (va_Qv (fun (w : va_W) => (∃ (f_71 : Nat → Int32), w = [(ce_i256 y ar f_71)])) (kq G (va_A [(ce_i256 y ar far)] sz)) (va_A [(ce_i256 y ar far)] sz)) 0 0 (va_A [(ce_i256 y ar far)] sz) := by
  refine Met.ofW (cc := cJ7_fill_53178) (maxL := 4) (ret := none) (by decide) rfl ?_
  intro p e s m args below meth c s₁ B hml hv
  obtain ⟨rfl, hsz, hP, hK, hD0⟩ := hv
  have hx := B.exec
  have hb := B.bytes
  have hr := B.returns
  have hw0 : ∀ w ∈ wAll, w.before _ s = true := fun w h => atoms_spec (ws := Cond.code yJ7_fill_53178 cJ7_fill_53178 4 none :: wAll) B.pre w (List.mem_cons_of_mem _ h)
  have hown : s.vm.findClass RJ7 = some m.cls := findClass_of_methodNamed B.named
  subst hsz
  have hD := hD0.self (sz := s.heap.size)
  generalize hAe : va_A [(ce_i256 y ar far)] s.heap.size = A at hD ⊢
  have hA : ∀ q : Nat, s.heap.size ≤ q → A q := fun q h => by rw [← hAe]; exact Or.inr h
  have hS : va_S A s.heap s.heap [] := va_S.rf
  have hP : va_P G vwCl [(ce_i256 y ar far)] s.heap := hP
  have hl := lv_entry ([.ref ar, .int va]) (n := 4) (Nat.le_of_ble_eq_true rfl)
  rw [lg_entry_eq]
  generalize (lg_sl ([.ref ar, .int va]) ++ List.replicate (4 - (lg_sl ([.ref ar, .int va])).length) Slot.unset).toArray = ls at hl ⊢
  have hl : lv_has ls 4 [(0, .ref ar), (1, .int va)] := hl
  refine lv_iconst (v := 0) hx hb dJ7_fill_53178_0 (by decide) ?_
  refine lv_istore_n (lv' := [(2, .int 0), (0, .ref ar), (1, .int va)]) hx hb dJ7_fill_53178_1 rfl hl (by decide) rfl (fun ls hl => ?_)
  refine lv_aload_n hx hb dJ7_fill_53178_2 rfl (lv_at hl 1 rfl) ?_
  refine va_alen (v := 256) hx hb hK.1 hP 0 1 rfl rfl rfl dJ7_fill_53178_3 ?_
  refine lv_istore_n (lv' := [(3, .int 256), (2, .int 0), (0, .ref ar), (1, .int va)]) hx hb dJ7_fill_53178_4 rfl hl (by decide) rfl (fun ls hl => ?_)
  refine loopX (fun n H locs ls st => ∃ (v_1028 : Int32) (f_1029 : Nat → Int32), (256 - v_1028.toInt).toNat = n ∧ ((0 : Int) ≤ v_1028.toInt ∧ v_1028.toInt ≤ 256) ∧ st = [] ∧ vPD G A H [(ce_i256 y ar f_1029)] ∧ va_S A s.heap H locs ∧ lv_has ls 4 [(3, .int 256), (2, .int v_1028), (0, .ref ar), (1, .int va)]) ?_ (n := (256 - (0 : Int32).toInt).toNat) ⟨0, far, rfl, (bw (0) (256) (bkc (x := 0) (c := 0) (by decide)) (by decide)), rfl, ⟨hP, hD⟩, hS, lv_sub hl [0, 1, 2, 3] rfl⟩
  rintro n ih_1032 H locs ls st ⟨v_1028, f_1029, hn_1032, bv_1028, rfl, ⟨hP, hD⟩, hS, hl⟩
  refine lv_iload_n hx hb dJ7_fill_53178_5 rfl (lv_at hl 1 rfl) ?_
  refine lv_iload_n hx hb dJ7_fill_53178_6 rfl (lv_at hl 0 rfl) ?_
  refine lv_icmp_ge (tgt := 20) hx hb dJ7_fill_53178_7 (by decide) (fun c_1033 => ?_) (fun c_1033 => ?_)
  · skip
    have nc_1033 := nb_le (256) (256) c_1033 (bkc (x := 256) (c := 256) (by decide)) bv_1028 (by decide)
    exact W.vret hx hb hr (fun t ht hW => ⟨⟨_, rfl, ⟨f_1029, rfl⟩, by rw [ht]; exact hP, hD⟩, hS.F ht⟩) hS.2.2 dJ7_fill_53178_20
  · skip
    have nc_1033 := nb_nle (255) (256) c_1033 bv_1028 (bkc (x := 256) (c := 256) (by decide)) (by decide)
    refine lv_aload_n hx hb dJ7_fill_53178_10 rfl (lv_at hl 2 rfl) ?_
    refine lv_iload_n hx hb dJ7_fill_53178_11 rfl (lv_at hl 1 rfl) ?_
    refine lv_iload_n hx hb dJ7_fill_53178_12 rfl (lv_at hl 3 rfl) ?_
    refine va_iast hx hb hK.1 hP hD hS 0 1 rfl rfl (vi nc_1033.1 (by decide)) dJ7_fill_53178_13 (fun H locs hP hD hS => ?_)
    generalize hf_1034 : (upd f_1029 (v_1028 : Int32).toNatClampNeg va) = f_1034 at hP hD
    obtain ⟨hP, hD⟩ : vPD G A H [(ce_i256 y ar f_1034)] := ⟨hP, hD⟩
    obtain ⟨v_1035, ev_1035⟩ : ∃ z : Int32, z = v_1028 + 1 := ⟨_, rfl⟩
    have qv_1035 := ba_add ev_1035 nc_1033.1 (bkc (x := 1) (c := 1) (by decide)) (by decide)
    have bv_1035 : (1 : Int) ≤ v_1035.toInt ∧ v_1035.toInt ≤ 256 := bq_add qv_1035 nc_1033.1 (bkc (x := 1) (c := 1) (by decide)) _ _ (by decide)
    have qv_1035 : v_1035.toInt = v_1028.toInt + (1) := qv_1035
    refine lv_iinc (v := v_1035) (lv' := [(2, .int v_1035), (3, .int 256), (0, .ref ar), (1, .int va)]) hx hb dJ7_fill_53178_14 hl (k := 1) rfl (ev_1035.symm) (by decide) rfl (fun ls hl => ?_)
    refine lv_goto (tgt := 5) hx hb dJ7_fill_53178_17 (by decide) ?_
    exact ih_1032 _ (ml_inc (hi := 256) hn_1032 qv_1035 (by decide) ((bw (0) (256) bv_1035 (by decide))).2) _ _ _ _ ⟨v_1035, f_1034, rfl, (bw (0) (256) bv_1035 (by decide)), rfl, ⟨hP, hD⟩, hS, lv_sub hl [1, 0, 2, 3] rfl⟩

set_option maxHeartbeats 4000000 in
set_option maxRecDepth 100000 in
theorem sfill60 (l : Launch) (G : va_G) (y : Nat → ClassId) (sz : Nat) (ar : Nat) (va : Int64) (far : Nat → Int64)  : Met l yJ7_fill_d0a16 (Cond.code yJ7_fill_d0a16 cJ7_fill_d0a16 5 none :: wAll) ({ frames := 0, cells := 0, slots := 0, locals := 0 }) (va_Pc [.ref ar, .long va] (kp G y sz [(ce_l60 y ar far)])) (va_Qv (fun (w : va_W) => (∃ (f_71 : Nat → Int64), w = [(ce_l60 y ar f_71)])) (kq G (va_A [(ce_l60 y ar far)] sz)) (va_A [(ce_l60 y ar far)] sz)) 0 0 (va_A [(ce_l60 y ar far)] sz) := by
  refine Met.ofW (cc := cJ7_fill_d0a16) (maxL := 5) (ret := none) (by decide) rfl ?_
  intro p e s m args below meth c s₁ B hml hv
  obtain ⟨rfl, hsz, hP, hK, hD0⟩ := hv
  have hx := B.exec
  have hb := B.bytes
  have hr := B.returns
  have hw0 : ∀ w ∈ wAll, w.before _ s = true := fun w h => atoms_spec (ws := Cond.code yJ7_fill_d0a16 cJ7_fill_d0a16 5 none :: wAll) B.pre w (List.mem_cons_of_mem _ h)
  have hown : s.vm.findClass RJ7 = some m.cls := findClass_of_methodNamed B.named
  subst hsz
  have hD := hD0.self (sz := s.heap.size)
  generalize hAe : va_A [(ce_l60 y ar far)] s.heap.size = A at hD ⊢
  have hA : ∀ q : Nat, s.heap.size ≤ q → A q := fun q h => by rw [← hAe]; exact Or.inr h
  have hS : va_S A s.heap s.heap [] := va_S.rf
  have hP : va_P G vwCl [(ce_l60 y ar far)] s.heap := hP
  have hl := lv_entry ([.ref ar, .long va]) (n := 5) (Nat.le_of_ble_eq_true rfl)
  rw [lg_entry_eq]
  generalize (lg_sl ([.ref ar, .long va]) ++ List.replicate (5 - (lg_sl ([.ref ar, .long va])).length) Slot.unset).toArray = ls at hl ⊢
  have hl : lv_has ls 5 [(0, .ref ar), (1, .long va)] := hl
  refine lv_iconst (v := 0) hx hb dJ7_fill_d0a16_0 (by decide) ?_
  refine lv_istore_n (lv' := [(3, .int 0), (0, .ref ar), (1, .long va)]) hx hb dJ7_fill_d0a16_1 rfl hl (by decide) rfl (fun ls hl => ?_)
  refine lv_aload_n hx hb dJ7_fill_d0a16_2 rfl (lv_at hl 1 rfl) ?_
  refine va_alen (v := 60) hx hb hK.1 hP 0 2 rfl rfl rfl dJ7_fill_d0a16_3 ?_
  refine lv_istore (lv' := [(4, .int 60), (3, .int 0), (0, .ref ar), (1, .long va)]) hx hb dJ7_fill_d0a16_4 hl (by decide) rfl (fun ls hl => ?_)
  refine loopX (fun n H locs ls st => ∃ (v_1028 : Int32) (f_1029 : Nat → Int64), (60 - v_1028.toInt).toNat = n ∧ ((0 : Int) ≤ v_1028.toInt ∧ v_1028.toInt ≤ 60) ∧ st = [] ∧ vPD G A H [(ce_l60 y ar f_1029)] ∧ va_S A s.heap H locs ∧ lv_has ls 5 [(4, .int 60), (3, .int v_1028), (0, .ref ar), (1, .long va)]) ?_ (n := (60 - (0 : Int32).toInt).toNat) ⟨0, far, rfl, (bw (0) (60) (bkc (x := 0) (c := 0) (by decide)) (by decide)), rfl, ⟨hP, hD⟩, hS, lv_sub hl [0, 1, 2, 3] rfl⟩
  rintro n ih_1032 H locs ls st ⟨v_1028, f_1029, hn_1032, bv_1028, rfl, ⟨hP, hD⟩, hS, hl⟩
  refine lv_iload_n hx hb dJ7_fill_d0a16_6 rfl (lv_at hl 1 rfl) ?_
  refine lv_iload hx hb dJ7_fill_d0a16_7 (lv_at hl 0 rfl) ?_
  refine lv_icmp_ge (tgt := 22) hx hb dJ7_fill_d0a16_9 (by decide) (fun c_1033 => ?_) (fun c_1033 => ?_)
  · skip
    have nc_1033 := nb_le (60) (60) c_1033 (bkc (x := 60) (c := 60) (by decide)) bv_1028 (by decide)
    exact W.vret hx hb hr (fun t ht hW => ⟨⟨_, rfl, ⟨f_1029, rfl⟩, by rw [ht]; exact hP, hD⟩, hS.F ht⟩) hS.2.2 dJ7_fill_d0a16_22
  · skip
    have nc_1033 := nb_nle (59) (60) c_1033 bv_1028 (bkc (x := 60) (c := 60) (by decide)) (by decide)
    refine lv_aload_n hx hb dJ7_fill_d0a16_12 rfl (lv_at hl 2 rfl) ?_
    refine lv_iload_n hx hb dJ7_fill_d0a16_13 rfl (lv_at hl 1 rfl) ?_
    refine lv_lload_n hx hb dJ7_fill_d0a16_14 rfl (lv_at hl 3 rfl) ?_
    refine va_last hx hb hK.1 hP hD hS 0 2 rfl rfl (vi nc_1033.1 (by decide)) dJ7_fill_d0a16_15 (fun H locs hP hD hS => ?_)
    generalize hf_1034 : (vp_updL f_1029 (v_1028 : Int32).toNatClampNeg va) = f_1034 at hP hD
    obtain ⟨hP, hD⟩ : vPD G A H [(ce_l60 y ar f_1034)] := ⟨hP, hD⟩
    obtain ⟨v_1035, ev_1035⟩ : ∃ z : Int32, z = v_1028 + 1 := ⟨_, rfl⟩
    have qv_1035 := ba_add ev_1035 nc_1033.1 (bkc (x := 1) (c := 1) (by decide)) (by decide)
    have bv_1035 : (1 : Int) ≤ v_1035.toInt ∧ v_1035.toInt ≤ 60 := bq_add qv_1035 nc_1033.1 (bkc (x := 1) (c := 1) (by decide)) _ _ (by decide)
    have qv_1035 : v_1035.toInt = v_1028.toInt + (1) := qv_1035
    refine lv_iinc (v := v_1035) (lv' := [(3, .int v_1035), (4, .int 60), (0, .ref ar), (1, .long va)]) hx hb dJ7_fill_d0a16_16 hl (k := 1) rfl (ev_1035.symm) (by decide) rfl (fun ls hl => ?_)
    refine lv_goto (tgt := 6) hx hb dJ7_fill_d0a16_19 (by decide) ?_
    exact ih_1032 _ (ml_inc (hi := 60) hn_1032 qv_1035 (by decide) ((bw (0) (60) bv_1035 (by decide))).2) _ _ _ _ ⟨v_1035, f_1034, rfl, (bw (0) (60) bv_1035 (by decide)), rfl, ⟨hP, hD⟩, hS, lv_sub hl [1, 0, 2, 3] rfl⟩

set_option maxHeartbeats 4000000 in
set_option maxRecDepth 100000 in
theorem sbit13 (l : Launch) (G : va_G) (y : Nat → ClassId) (sz : Nat) (a1 : Int32) (p_a1 : (0 : Int) ≤ a1.toInt ∧ a1.toInt ≤ 8191) : Met l yJ6_bitCount_0f7a4 (Cond.code yJ6_bitCount_0f7a4 cJ6_bitCount_0f7a4 1 (some .int) :: wAll) ({ frames := 0, cells := 0, slots := 0, locals := 0 }) (va_Pc [.int a1] (kp G y sz [])) (va_Qi (fun (r : Int32) (w : va_W) => (∃ (v_33 : Int32), ((0 : Int) ≤ v_33.toInt ∧ v_33.toInt ≤ 13) ∧ r = v_33 ∧ w = [])) (kq G (va_A [] sz)) (va_A [] sz)) 0 0 (va_A [] sz) := by
  refine Met.ofW (cc := cJ6_bitCount_0f7a4) (maxL := 1) (ret := (some .int)) (by decide) rfl ?_
  intro p e s m args below meth c s₁ B hml hv
  obtain ⟨rfl, hsz, hP, hK, hD0⟩ := hv
  have hx := B.exec
  have hb := B.bytes
  have hr := B.returns
  have hw0 : ∀ w ∈ wAll, w.before _ s = true := fun w h => atoms_spec (ws := Cond.code yJ6_bitCount_0f7a4 cJ6_bitCount_0f7a4 1 (some .int) :: wAll) B.pre w (List.mem_cons_of_mem _ h)
  have hown : s.vm.findClass RJ6 = some m.cls := findClass_of_methodNamed B.named
  subst hsz
  have hD := hD0.self (sz := s.heap.size)
  generalize hAe : va_A [] s.heap.size = A at hD ⊢
  have hA : ∀ q : Nat, s.heap.size ≤ q → A q := fun q h => by rw [← hAe]; exact Or.inr h
  have hS : va_S A s.heap s.heap [] := va_S.rf
  have hP : va_P G vwCl [] s.heap := hP
  have hl := lv_entry ([.int a1]) (n := 1) (Nat.le_of_ble_eq_true rfl)
  rw [lg_entry_eq]
  generalize (lg_sl ([.int a1]) ++ List.replicate (1 - (lg_sl ([.int a1])).length) Slot.unset).toArray = ls at hl ⊢
  have hl : lv_has ls 1 [(0, .int a1)] := hl
  refine lv_iload_n hx hb dJ6_bitCount_0f7a4_0 rfl (lv_at hl 0 rfl) ?_
  refine lv_iload_n hx hb dJ6_bitCount_0f7a4_1 rfl (lv_at hl 0 rfl) ?_
  refine lv_iconst (v := 1) hx hb dJ6_bitCount_0f7a4_2 (by decide) ?_
  refine lv_iushr hx hb dJ6_bitCount_0f7a4_3 rfl ?_
  refine lv_topi (fun v_1001 ev_1001 => ?_)
  have bv_1001 : (0 : Int) ≤ v_1001.toInt ∧ v_1001.toInt ≤ 4095 := ba_ushr 1 ev_1001 p_a1 (by decide) (by decide) _ _ (by decide)
  refine lv_ldcw (own := RJ6) (v := 1431655765) hx hb hown (hw0 _ m_27) dJ6_bitCount_0f7a4_4 ?_
  refine lv_iand hx hb dJ6_bitCount_0f7a4_7 ?_
  refine lv_topi (fun v_1002 ev_1002 => ?_)
  have bv_1002 : (0 : Int) ≤ v_1002.toInt ∧ v_1002.toInt ≤ 4095 := ba_andl ev_1002 bv_1001 (by decide)
  refine lv_isub hx hb dJ6_bitCount_0f7a4_8 ?_
  refine lv_topi (fun v_1003 ev_1003 => ?_)
  have qv_1003 := ba_sub ev_1003 p_a1 bv_1002 (by decide)
  have bv_1003 : (-4095 : Int) ≤ v_1003.toInt ∧ v_1003.toInt ≤ 8191 := bq_sub qv_1003 p_a1 bv_1002 _ _ (by decide)
  refine lv_istore_n (lv' := [(0, .int v_1003)]) hx hb dJ6_bitCount_0f7a4_9 rfl hl (by decide) rfl (fun ls hl => ?_)
  refine lv_iload_n hx hb dJ6_bitCount_0f7a4_10 rfl (lv_at hl 0 rfl) ?_
  refine lv_ldcw (own := RJ6) (v := 858993459) hx hb hown (hw0 _ m_28) dJ6_bitCount_0f7a4_11 ?_
  refine lv_iand hx hb dJ6_bitCount_0f7a4_14 ?_
  refine lv_topi (fun v_1004 ev_1004 => ?_)
  have bv_1004 : (0 : Int) ≤ v_1004.toInt ∧ v_1004.toInt ≤ 858993459 := ba_andr ev_1004 (bkc (x := 858993459) (c := 858993459) (by decide)) (by decide)
  refine lv_iload_n hx hb dJ6_bitCount_0f7a4_15 rfl (lv_at hl 0 rfl) ?_
  refine lv_iconst (v := 2) hx hb dJ6_bitCount_0f7a4_16 (by decide) ?_
  refine lv_iushr hx hb dJ6_bitCount_0f7a4_17 rfl ?_
  refine lv_topi (fun v_1005 ev_1005 => ?_)
  refine lv_ldcw (own := RJ6) (v := 858993459) hx hb hown (hw0 _ m_28) dJ6_bitCount_0f7a4_18 ?_
  refine lv_iand hx hb dJ6_bitCount_0f7a4_21 ?_
  refine lv_topi (fun v_1006 ev_1006 => ?_)
  have bv_1006 : (0 : Int) ≤ v_1006.toInt ∧ v_1006.toInt ≤ 858993459 := ba_andr ev_1006 (bkc (x := 858993459) (c := 858993459) (by decide)) (by decide)
  refine lv_iadd hx hb dJ6_bitCount_0f7a4_22 ?_
  refine lv_topi (fun v_1007 ev_1007 => ?_)
  have qv_1007 := ba_add ev_1007 bv_1004 bv_1006 (by decide)
  have bv_1007 : (0 : Int) ≤ v_1007.toInt ∧ v_1007.toInt ≤ 1717986918 := bq_add qv_1007 bv_1004 bv_1006 _ _ (by decide)
  refine lv_istore_n (lv' := [(0, .int v_1007)]) hx hb dJ6_bitCount_0f7a4_23 rfl hl (by decide) rfl (fun ls hl => ?_)
  refine lv_iload_n hx hb dJ6_bitCount_0f7a4_24 rfl (lv_at hl 0 rfl) ?_
  refine lv_iload_n hx hb dJ6_bitCount_0f7a4_25 rfl (lv_at hl 0 rfl) ?_
  refine lv_iconst (v := 4) hx hb dJ6_bitCount_0f7a4_26 (by decide) ?_
  refine lv_iushr hx hb dJ6_bitCount_0f7a4_27 rfl ?_
  refine lv_topi (fun v_1008 ev_1008 => ?_)
  have bv_1008 : (0 : Int) ≤ v_1008.toInt ∧ v_1008.toInt ≤ 107374182 := ba_ushr 4 ev_1008 bv_1007 (by decide) (by decide) _ _ (by decide)
  refine lv_iadd hx hb dJ6_bitCount_0f7a4_28 ?_
  refine lv_topi (fun v_1009 ev_1009 => ?_)
  have qv_1009 := ba_add ev_1009 bv_1007 bv_1008 (by decide)
  have bv_1009 : (0 : Int) ≤ v_1009.toInt ∧ v_1009.toInt ≤ 1825361100 := bq_add qv_1009 bv_1007 bv_1008 _ _ (by decide)
  refine lv_ldcw (own := RJ6) (v := 252645135) hx hb hown (hw0 _ m_29) dJ6_bitCount_0f7a4_29 ?_
  refine lv_iand hx hb dJ6_bitCount_0f7a4_32 ?_
  refine lv_topi (fun v_1010 ev_1010 => ?_)
  have bv_1010 : (0 : Int) ≤ v_1010.toInt ∧ v_1010.toInt ≤ 252645135 := ba_andr ev_1010 (bkc (x := 252645135) (c := 252645135) (by decide)) (by decide)
  refine lv_istore_n (lv' := [(0, .int v_1010)]) hx hb dJ6_bitCount_0f7a4_33 rfl hl (by decide) rfl (fun ls hl => ?_)
  refine lv_iload_n hx hb dJ6_bitCount_0f7a4_34 rfl (lv_at hl 0 rfl) ?_
  refine lv_iload_n hx hb dJ6_bitCount_0f7a4_35 rfl (lv_at hl 0 rfl) ?_
  refine lv_bipush (v := 8) hx hb dJ6_bitCount_0f7a4_36 (by decide) ?_
  refine lv_iushr hx hb dJ6_bitCount_0f7a4_38 rfl ?_
  refine lv_topi (fun v_1011 ev_1011 => ?_)
  have bv_1011 : (0 : Int) ≤ v_1011.toInt ∧ v_1011.toInt ≤ 986895 := ba_ushr 8 ev_1011 bv_1010 (by decide) (by decide) _ _ (by decide)
  refine lv_iadd hx hb dJ6_bitCount_0f7a4_39 ?_
  refine lv_topi (fun v_1012 ev_1012 => ?_)
  have qv_1012 := ba_add ev_1012 bv_1010 bv_1011 (by decide)
  have bv_1012 : (0 : Int) ≤ v_1012.toInt ∧ v_1012.toInt ≤ 253632030 := bq_add qv_1012 bv_1010 bv_1011 _ _ (by decide)
  refine lv_istore_n (lv' := [(0, .int v_1012)]) hx hb dJ6_bitCount_0f7a4_40 rfl hl (by decide) rfl (fun ls hl => ?_)
  refine lv_iload_n hx hb dJ6_bitCount_0f7a4_41 rfl (lv_at hl 0 rfl) ?_
  refine lv_iload_n hx hb dJ6_bitCount_0f7a4_42 rfl (lv_at hl 0 rfl) ?_
  refine lv_bipush (v := 16) hx hb dJ6_bitCount_0f7a4_43 (by decide) ?_
  refine lv_iushr hx hb dJ6_bitCount_0f7a4_45 rfl ?_
  refine lv_topi (fun v_1013 ev_1013 => ?_)
  have bv_1013 : (0 : Int) ≤ v_1013.toInt ∧ v_1013.toInt ≤ 3870 := ba_ushr 16 ev_1013 bv_1012 (by decide) (by decide) _ _ (by decide)
  refine lv_iadd hx hb dJ6_bitCount_0f7a4_46 ?_
  refine lv_topi (fun v_1014 ev_1014 => ?_)
  have qv_1014 := ba_add ev_1014 bv_1012 bv_1013 (by decide)
  have bv_1014 : (0 : Int) ≤ v_1014.toInt ∧ v_1014.toInt ≤ 253635900 := bq_add qv_1014 bv_1012 bv_1013 _ _ (by decide)
  refine lv_istore_n (lv' := [(0, .int v_1014)]) hx hb dJ6_bitCount_0f7a4_47 rfl hl (by decide) rfl (fun ls hl => ?_)
  refine lv_iload_n hx hb dJ6_bitCount_0f7a4_48 rfl (lv_at hl 0 rfl) ?_
  refine lv_bipush (v := 63) hx hb dJ6_bitCount_0f7a4_49 (by decide) ?_
  refine lv_iand hx hb dJ6_bitCount_0f7a4_51 ?_
  refine lv_topi (fun v_1015 ev_1015 => ?_)
  have bv_1015 : (0 : Int) ≤ v_1015.toInt ∧ v_1015.toInt ≤ 63 := ba_andr ev_1015 (bkc (x := 63) (c := 63) (by decide)) (by decide)
  have h_1016 : (0 : Int) ≤ v_1015.toInt ∧ v_1015.toInt ≤ 13 := bc_b (by subst_vars; rfl) p_a1
  exact W.iret (v := v_1015) hx hb hr (fun t ht hW => ⟨⟨v_1015, _, rfl, ⟨v_1015, h_1016, rfl, rfl⟩, by rw [ht]; exact hP, hD⟩, hS.F ht⟩) hS.2.2 dJ6_bitCount_0f7a4_52

set_option maxHeartbeats 4000000 in
set_option maxRecDepth 100000 in
theorem sJ6_bitCount_0f7a4 (l : Launch) (G : va_G) (y : Nat → ClassId) (sz : Nat) (a1 : Int32)  : Met l yJ6_bitCount_0f7a4 (Cond.code yJ6_bitCount_0f7a4 cJ6_bitCount_0f7a4 1 (some .int) :: wAll) ({ frames := 0, cells := 0, slots := 0, locals := 0 }) (va_Pc [.int a1] (kp G y sz [])) (va_Qi (fun (r : Int32) (w : va_W) => (∃ (v_31 : Int32), ((0 : Int) ≤ v_31.toInt ∧ v_31.toInt ≤ 63) ∧ r = v_31 ∧ w = [])) (kq G (va_A [] sz)) (va_A [] sz)) 0 0 (va_A [] sz) := by
  refine Met.ofW (cc := cJ6_bitCount_0f7a4) (maxL := 1) (ret := (some .int)) (by decide) rfl ?_
  intro p e s m args below meth c s₁ B hml hv
  obtain ⟨rfl, hsz, hP, hK, hD0⟩ := hv
  have hx := B.exec
  have hb := B.bytes
  have hr := B.returns
  have hw0 : ∀ w ∈ wAll, w.before _ s = true := fun w h => atoms_spec (ws := Cond.code yJ6_bitCount_0f7a4 cJ6_bitCount_0f7a4 1 (some .int) :: wAll) B.pre w (List.mem_cons_of_mem _ h)
  have hown : s.vm.findClass RJ6 = some m.cls := findClass_of_methodNamed B.named
  subst hsz
  have hD := hD0.self (sz := s.heap.size)
  generalize hAe : va_A [] s.heap.size = A at hD ⊢
  have hA : ∀ q : Nat, s.heap.size ≤ q → A q := fun q h => by rw [← hAe]; exact Or.inr h
  have hS : va_S A s.heap s.heap [] := va_S.rf
  have hP : va_P G vwCl [] s.heap := hP
  have hl := lv_entry ([.int a1]) (n := 1) (Nat.le_of_ble_eq_true rfl)
  rw [lg_entry_eq]
  generalize (lg_sl ([.int a1]) ++ List.replicate (1 - (lg_sl ([.int a1])).length) Slot.unset).toArray = ls at hl ⊢
  have hl : lv_has ls 1 [(0, .int a1)] := hl
  refine lv_iload_n hx hb dJ6_bitCount_0f7a4_0 rfl (lv_at hl 0 rfl) ?_
  refine lv_iload_n hx hb dJ6_bitCount_0f7a4_1 rfl (lv_at hl 0 rfl) ?_
  refine lv_iconst (v := 1) hx hb dJ6_bitCount_0f7a4_2 (by decide) ?_
  refine lv_iushr hx hb dJ6_bitCount_0f7a4_3 rfl ?_
  refine lv_topi (fun v_1001 ev_1001 => ?_)
  refine lv_ldcw (own := RJ6) (v := 1431655765) hx hb hown (hw0 _ m_27) dJ6_bitCount_0f7a4_4 ?_
  refine lv_iand hx hb dJ6_bitCount_0f7a4_7 ?_
  refine lv_topi (fun v_1002 ev_1002 => ?_)
  have bv_1002 : (0 : Int) ≤ v_1002.toInt ∧ v_1002.toInt ≤ 1431655765 := ba_andr ev_1002 (bkc (x := 1431655765) (c := 1431655765) (by decide)) (by decide)
  refine lv_isub hx hb dJ6_bitCount_0f7a4_8 ?_
  refine lv_topi (fun v_1003 ev_1003 => ?_)
  refine lv_istore_n (lv' := [(0, .int v_1003)]) hx hb dJ6_bitCount_0f7a4_9 rfl hl (by decide) rfl (fun ls hl => ?_)
  refine lv_iload_n hx hb dJ6_bitCount_0f7a4_10 rfl (lv_at hl 0 rfl) ?_
  refine lv_ldcw (own := RJ6) (v := 858993459) hx hb hown (hw0 _ m_28) dJ6_bitCount_0f7a4_11 ?_
  refine lv_iand hx hb dJ6_bitCount_0f7a4_14 ?_
  refine lv_topi (fun v_1004 ev_1004 => ?_)
  have bv_1004 : (0 : Int) ≤ v_1004.toInt ∧ v_1004.toInt ≤ 858993459 := ba_andr ev_1004 (bkc (x := 858993459) (c := 858993459) (by decide)) (by decide)
  refine lv_iload_n hx hb dJ6_bitCount_0f7a4_15 rfl (lv_at hl 0 rfl) ?_
  refine lv_iconst (v := 2) hx hb dJ6_bitCount_0f7a4_16 (by decide) ?_
  refine lv_iushr hx hb dJ6_bitCount_0f7a4_17 rfl ?_
  refine lv_topi (fun v_1005 ev_1005 => ?_)
  refine lv_ldcw (own := RJ6) (v := 858993459) hx hb hown (hw0 _ m_28) dJ6_bitCount_0f7a4_18 ?_
  refine lv_iand hx hb dJ6_bitCount_0f7a4_21 ?_
  refine lv_topi (fun v_1006 ev_1006 => ?_)
  have bv_1006 : (0 : Int) ≤ v_1006.toInt ∧ v_1006.toInt ≤ 858993459 := ba_andr ev_1006 (bkc (x := 858993459) (c := 858993459) (by decide)) (by decide)
  refine lv_iadd hx hb dJ6_bitCount_0f7a4_22 ?_
  refine lv_topi (fun v_1007 ev_1007 => ?_)
  have qv_1007 := ba_add ev_1007 bv_1004 bv_1006 (by decide)
  have bv_1007 : (0 : Int) ≤ v_1007.toInt ∧ v_1007.toInt ≤ 1717986918 := bq_add qv_1007 bv_1004 bv_1006 _ _ (by decide)
  refine lv_istore_n (lv' := [(0, .int v_1007)]) hx hb dJ6_bitCount_0f7a4_23 rfl hl (by decide) rfl (fun ls hl => ?_)
  refine lv_iload_n hx hb dJ6_bitCount_0f7a4_24 rfl (lv_at hl 0 rfl) ?_
  refine lv_iload_n hx hb dJ6_bitCount_0f7a4_25 rfl (lv_at hl 0 rfl) ?_
  refine lv_iconst (v := 4) hx hb dJ6_bitCount_0f7a4_26 (by decide) ?_
  refine lv_iushr hx hb dJ6_bitCount_0f7a4_27 rfl ?_
  refine lv_topi (fun v_1008 ev_1008 => ?_)
  have bv_1008 : (0 : Int) ≤ v_1008.toInt ∧ v_1008.toInt ≤ 107374182 := ba_ushr 4 ev_1008 bv_1007 (by decide) (by decide) _ _ (by decide)
  refine lv_iadd hx hb dJ6_bitCount_0f7a4_28 ?_
  refine lv_topi (fun v_1009 ev_1009 => ?_)
  have qv_1009 := ba_add ev_1009 bv_1007 bv_1008 (by decide)
  have bv_1009 : (0 : Int) ≤ v_1009.toInt ∧ v_1009.toInt ≤ 1825361100 := bq_add qv_1009 bv_1007 bv_1008 _ _ (by decide)
  refine lv_ldcw (own := RJ6) (v := 252645135) hx hb hown (hw0 _ m_29) dJ6_bitCount_0f7a4_29 ?_
  refine lv_iand hx hb dJ6_bitCount_0f7a4_32 ?_
  refine lv_topi (fun v_1010 ev_1010 => ?_)
  have bv_1010 : (0 : Int) ≤ v_1010.toInt ∧ v_1010.toInt ≤ 252645135 := ba_andr ev_1010 (bkc (x := 252645135) (c := 252645135) (by decide)) (by decide)
  refine lv_istore_n (lv' := [(0, .int v_1010)]) hx hb dJ6_bitCount_0f7a4_33 rfl hl (by decide) rfl (fun ls hl => ?_)
  refine lv_iload_n hx hb dJ6_bitCount_0f7a4_34 rfl (lv_at hl 0 rfl) ?_
  refine lv_iload_n hx hb dJ6_bitCount_0f7a4_35 rfl (lv_at hl 0 rfl) ?_
  refine lv_bipush (v := 8) hx hb dJ6_bitCount_0f7a4_36 (by decide) ?_
  refine lv_iushr hx hb dJ6_bitCount_0f7a4_38 rfl ?_
  refine lv_topi (fun v_1011 ev_1011 => ?_)
  have bv_1011 : (0 : Int) ≤ v_1011.toInt ∧ v_1011.toInt ≤ 986895 := ba_ushr 8 ev_1011 bv_1010 (by decide) (by decide) _ _ (by decide)
  refine lv_iadd hx hb dJ6_bitCount_0f7a4_39 ?_
  refine lv_topi (fun v_1012 ev_1012 => ?_)
  have qv_1012 := ba_add ev_1012 bv_1010 bv_1011 (by decide)
  have bv_1012 : (0 : Int) ≤ v_1012.toInt ∧ v_1012.toInt ≤ 253632030 := bq_add qv_1012 bv_1010 bv_1011 _ _ (by decide)
  refine lv_istore_n (lv' := [(0, .int v_1012)]) hx hb dJ6_bitCount_0f7a4_40 rfl hl (by decide) rfl (fun ls hl => ?_)
  refine lv_iload_n hx hb dJ6_bitCount_0f7a4_41 rfl (lv_at hl 0 rfl) ?_
  refine lv_iload_n hx hb dJ6_bitCount_0f7a4_42 rfl (lv_at hl 0 rfl) ?_
  refine lv_bipush (v := 16) hx hb dJ6_bitCount_0f7a4_43 (by decide) ?_
  refine lv_iushr hx hb dJ6_bitCount_0f7a4_45 rfl ?_
  refine lv_topi (fun v_1013 ev_1013 => ?_)
  have bv_1013 : (0 : Int) ≤ v_1013.toInt ∧ v_1013.toInt ≤ 3870 := ba_ushr 16 ev_1013 bv_1012 (by decide) (by decide) _ _ (by decide)
  refine lv_iadd hx hb dJ6_bitCount_0f7a4_46 ?_
  refine lv_topi (fun v_1014 ev_1014 => ?_)
  have qv_1014 := ba_add ev_1014 bv_1012 bv_1013 (by decide)
  have bv_1014 : (0 : Int) ≤ v_1014.toInt ∧ v_1014.toInt ≤ 253635900 := bq_add qv_1014 bv_1012 bv_1013 _ _ (by decide)
  refine lv_istore_n (lv' := [(0, .int v_1014)]) hx hb dJ6_bitCount_0f7a4_47 rfl hl (by decide) rfl (fun ls hl => ?_)
  refine lv_iload_n hx hb dJ6_bitCount_0f7a4_48 rfl (lv_at hl 0 rfl) ?_
  refine lv_bipush (v := 63) hx hb dJ6_bitCount_0f7a4_49 (by decide) ?_
  refine lv_iand hx hb dJ6_bitCount_0f7a4_51 ?_
  refine lv_topi (fun v_1015 ev_1015 => ?_)
  have bv_1015 : (0 : Int) ≤ v_1015.toInt ∧ v_1015.toInt ≤ 63 := ba_andr ev_1015 (bkc (x := 63) (c := 63) (by decide)) (by decide)
  exact W.iret (v := v_1015) hx hb hr (fun t ht hW => ⟨⟨v_1015, _, rfl, ⟨v_1015, bv_1015, rfl, rfl⟩, by rw [ht]; exact hP, hD⟩, hS.F ht⟩) hS.2.2 dJ6_bitCount_0f7a4_52

set_option maxHeartbeats 4000000 in
set_option maxRecDepth 100000 in
theorem sJ6_numberOfTrailingZeros_0f7a4 (l : Launch) (G : va_G) (y : Nat → ClassId) (sz : Nat) (a1 : Int32) (p_a1 : (1 : Int) ≤ a1.toInt ∧ a1.toInt ≤ 1023) : Met l yJ6_numberOfTrailingZeros_0f7a4 (Cond.code yJ6_numberOfTrailingZeros_0f7a4 cJ6_numberOfTrailingZeros_0f7a4 2 (some .int) :: wAll) ({ frames := 0, cells := 0, slots := 0, locals := 0 }) (va_Pc [.int a1] (kp G y sz [])) (va_Qi (fun (r : Int32) (w : va_W) => (∃ (v_49 : Int32), ((0 : Int) ≤ v_49.toInt ∧ v_49.toInt ≤ 9) ∧ r = v_49 ∧ w = [])) (kq G (va_A [] sz)) (va_A [] sz)) 0 0 (va_A [] sz) := by
  refine Met.ofW (cc := cJ6_numberOfTrailingZeros_0f7a4) (maxL := 2) (ret := (some .int)) (by decide) rfl ?_
  intro p e s m args below meth c s₁ B hml hv
  obtain ⟨rfl, hsz, hP, hK, hD0⟩ := hv
  have hx := B.exec
  have hb := B.bytes
  have hr := B.returns
  have hw0 : ∀ w ∈ wAll, w.before _ s = true := fun w h => atoms_spec (ws := Cond.code yJ6_numberOfTrailingZeros_0f7a4 cJ6_numberOfTrailingZeros_0f7a4 2 (some .int) :: wAll) B.pre w (List.mem_cons_of_mem _ h)
  have hown : s.vm.findClass RJ6 = some m.cls := findClass_of_methodNamed B.named
  subst hsz
  have hD := hD0.self (sz := s.heap.size)
  generalize hAe : va_A [] s.heap.size = A at hD ⊢
  have hA : ∀ q : Nat, s.heap.size ≤ q → A q := fun q h => by rw [← hAe]; exact Or.inr h
  have hS : va_S A s.heap s.heap [] := va_S.rf
  have hP : va_P G vwCl [] s.heap := hP
  have hl := lv_entry ([.int a1]) (n := 2) (Nat.le_of_ble_eq_true rfl)
  rw [lg_entry_eq]
  generalize (lg_sl ([.int a1]) ++ List.replicate (2 - (lg_sl ([.int a1])).length) Slot.unset).toArray = ls at hl ⊢
  have hl : lv_has ls 2 [(0, .int a1)] := hl
  refine lv_iload_n hx hb dJ6_numberOfTrailingZeros_0f7a4_0 rfl (lv_at hl 0 rfl) ?_
  refine lv_iconst (v := (-1)) hx hb dJ6_numberOfTrailingZeros_0f7a4_1 (by decide) ?_
  refine lv_ixor hx hb dJ6_numberOfTrailingZeros_0f7a4_2 ?_
  refine lv_topi (fun v_1001 ev_1001 => ?_)
  refine lv_iload_n hx hb dJ6_numberOfTrailingZeros_0f7a4_3 rfl (lv_at hl 0 rfl) ?_
  refine lv_iconst (v := 1) hx hb dJ6_numberOfTrailingZeros_0f7a4_4 (by decide) ?_
  refine lv_isub hx hb dJ6_numberOfTrailingZeros_0f7a4_5 ?_
  refine lv_topi (fun v_1002 ev_1002 => ?_)
  have qv_1002 := ba_sub ev_1002 p_a1 (bkc (x := 1) (c := 1) (by decide)) (by decide)
  have bv_1002 : (0 : Int) ≤ v_1002.toInt ∧ v_1002.toInt ≤ 1022 := bq_sub qv_1002 p_a1 (bkc (x := 1) (c := 1) (by decide)) _ _ (by decide)
  have qv_1002 : v_1002.toInt = a1.toInt - (1) := qv_1002
  refine lv_iand hx hb dJ6_numberOfTrailingZeros_0f7a4_6 ?_
  refine lv_topi (fun v_1003 ev_1003 => ?_)
  have bv_1003 : (0 : Int) ≤ v_1003.toInt ∧ v_1003.toInt ≤ 1022 := ba_andr ev_1003 bv_1002 (by decide)
  refine lv_istore_n (lv' := [(0, .int v_1003)]) hx hb dJ6_numberOfTrailingZeros_0f7a4_7 rfl hl (by decide) rfl (fun ls hl => ?_)
  have h_1004 : (0 : Int) ≤ v_1003.toInt ∧ v_1003.toInt ≤ 511 := ntz_b ev_1003 ev_1001 ev_1002 p_a1 bv_1003
  refine lv_iload_n hx hb dJ6_numberOfTrailingZeros_0f7a4_8 rfl (lv_at hl 0 rfl) ?_
  refine lv_if_gt (tgt := 17) hx hb dJ6_numberOfTrailingZeros_0f7a4_9 (by decide) (fun c_1005 => ?_) (fun c_1005 => ?_)
  · skip
    have nc_1005 := nb_lt (0) (1) c_1005 (bkc (x := 0) (c := 0) (by decide)) h_1004 (by decide)
    refine lv_iconst (v := 1) hx hb dJ6_numberOfTrailingZeros_0f7a4_17 (by decide) ?_
    refine lv_istore_n (lv' := [(1, .int 1), (0, .int v_1003)]) hx hb dJ6_numberOfTrailingZeros_0f7a4_18 rfl hl (by decide) rfl (fun ls hl => ?_)
    refine lv_iload_n hx hb dJ6_numberOfTrailingZeros_0f7a4_19 rfl (lv_at hl 1 rfl) ?_
    refine lv_ldcw (own := RJ6) (v := 65536) hx hb hown (hw0 _ m_31) dJ6_numberOfTrailingZeros_0f7a4_20 ?_
    refine lv_icmp_le (tgt := 34) hx hb dJ6_numberOfTrailingZeros_0f7a4_23 (by decide) (fun _ => ?_) (fun c9 => absurd (dc_le nc_1005.2.1 (bkc (x := 65536) (c := 65536) (by decide)) (by decide)) c9)
    refine lv_iload_n hx hb dJ6_numberOfTrailingZeros_0f7a4_34 rfl (lv_at hl 1 rfl) ?_
    refine lv_sipush (v := 256) hx hb dJ6_numberOfTrailingZeros_0f7a4_35 (by decide) ?_
    refine lv_icmp_le (tgt := 49) hx hb dJ6_numberOfTrailingZeros_0f7a4_38 (by decide) (fun c_1006 => ?_) (fun c_1006 => ?_)
    · skip
      have nc_1006 := nb_le (256) (256) c_1006 nc_1005.2.1 (bkc (x := 256) (c := 256) (by decide)) (by decide)
      refine lv_iload_n hx hb dJ6_numberOfTrailingZeros_0f7a4_49 rfl (lv_at hl 1 rfl) ?_
      refine lv_bipush (v := 16) hx hb dJ6_numberOfTrailingZeros_0f7a4_50 (by decide) ?_
      refine lv_icmp_le (tgt := 62) hx hb dJ6_numberOfTrailingZeros_0f7a4_52 (by decide) (fun c_1007 => ?_) (fun c_1007 => ?_)
      · skip
        have nc_1007 := nb_le (16) (16) c_1007 nc_1006.1 (bkc (x := 16) (c := 16) (by decide)) (by decide)
        refine lv_iload_n hx hb dJ6_numberOfTrailingZeros_0f7a4_62 rfl (lv_at hl 1 rfl) ?_
        refine lv_iconst (v := 4) hx hb dJ6_numberOfTrailingZeros_0f7a4_63 (by decide) ?_
        refine lv_icmp_le (tgt := 74) hx hb dJ6_numberOfTrailingZeros_0f7a4_64 (by decide) (fun c_1008 => ?_) (fun c_1008 => ?_)
        · skip
          have nc_1008 := nb_le (4) (4) c_1008 nc_1007.1 (bkc (x := 4) (c := 4) (by decide)) (by decide)
          refine lv_iload_n hx hb dJ6_numberOfTrailingZeros_0f7a4_74 rfl (lv_at hl 0 rfl) ?_
          refine lv_iload_n hx hb dJ6_numberOfTrailingZeros_0f7a4_75 rfl (lv_at hl 1 rfl) ?_
          refine lv_iconst (v := 1) hx hb dJ6_numberOfTrailingZeros_0f7a4_76 (by decide) ?_
          refine lv_iushr hx hb dJ6_numberOfTrailingZeros_0f7a4_77 rfl ?_
          refine lv_topi (fun v_1009 ev_1009 => ?_)
          have bv_1009 : (0 : Int) ≤ v_1009.toInt ∧ v_1009.toInt ≤ 2 := ba_ushr 1 ev_1009 nc_1008.1 (by decide) (by decide) _ _ (by decide)
          refine lv_iadd hx hb dJ6_numberOfTrailingZeros_0f7a4_78 ?_
          refine lv_topi (fun v_1010 ev_1010 => ?_)
          have qv_1010 := ba_add ev_1010 (bkc (x := 1) (c := 1) (by decide)) bv_1009 (by decide)
          have bv_1010 : (1 : Int) ≤ v_1010.toInt ∧ v_1010.toInt ≤ 3 := bq_add qv_1010 (bkc (x := 1) (c := 1) (by decide)) bv_1009 _ _ (by decide)
          have qv_1010 : v_1010.toInt = (1) + v_1009.toInt := qv_1010
          exact W.iret (v := v_1010) hx hb hr (fun t ht hW => ⟨⟨v_1010, _, rfl, ⟨v_1010, (bw (0) (9) bv_1010 (by decide)), rfl, rfl⟩, by rw [ht]; exact hP, hD⟩, hS.F ht⟩) hS.2.2 dJ6_numberOfTrailingZeros_0f7a4_79
        · skip
          have nc_1008 := nb_nle (4) (5) c_1008 (bkc (x := 4) (c := 4) (by decide)) nc_1007.1 (by decide)
          refine lv_iinc (v := 3) (lv' := [(1, .int 3), (0, .int v_1003)]) hx hb dJ6_numberOfTrailingZeros_0f7a4_67 hl (k := 0) rfl (by decide) (by decide) rfl (fun ls hl => ?_)
          refine lv_iload_n hx hb dJ6_numberOfTrailingZeros_0f7a4_70 rfl (lv_at hl 1 rfl) ?_
          refine lv_iconst (v := 2) hx hb dJ6_numberOfTrailingZeros_0f7a4_71 (by decide) ?_
          refine lv_iushr hx hb dJ6_numberOfTrailingZeros_0f7a4_72 rfl ?_
          refine lv_topi (fun v_1011 ev_1011 => ?_)
          have bv_1011 : (1 : Int) ≤ v_1011.toInt ∧ v_1011.toInt ≤ 4 := ba_ushr 2 ev_1011 nc_1008.2.1 (by decide) (by decide) _ _ (by decide)
          refine lv_istore_n (lv' := [(0, .int v_1011), (1, .int 3)]) hx hb dJ6_numberOfTrailingZeros_0f7a4_73 rfl hl (by decide) rfl (fun ls hl => ?_)
          refine lv_iload_n hx hb dJ6_numberOfTrailingZeros_0f7a4_74 rfl (lv_at hl 1 rfl) ?_
          refine lv_iload_n hx hb dJ6_numberOfTrailingZeros_0f7a4_75 rfl (lv_at hl 0 rfl) ?_
          refine lv_iconst (v := 1) hx hb dJ6_numberOfTrailingZeros_0f7a4_76 (by decide) ?_
          refine lv_iushr hx hb dJ6_numberOfTrailingZeros_0f7a4_77 rfl ?_
          refine lv_topi (fun v_1012 ev_1012 => ?_)
          have bv_1012 : (0 : Int) ≤ v_1012.toInt ∧ v_1012.toInt ≤ 2 := ba_ushr 1 ev_1012 bv_1011 (by decide) (by decide) _ _ (by decide)
          refine lv_iadd hx hb dJ6_numberOfTrailingZeros_0f7a4_78 ?_
          refine lv_topi (fun v_1013 ev_1013 => ?_)
          have qv_1013 := ba_add ev_1013 (bkc (x := 3) (c := 3) (by decide)) bv_1012 (by decide)
          have bv_1013 : (3 : Int) ≤ v_1013.toInt ∧ v_1013.toInt ≤ 5 := bq_add qv_1013 (bkc (x := 3) (c := 3) (by decide)) bv_1012 _ _ (by decide)
          have qv_1013 : v_1013.toInt = (3) + v_1012.toInt := qv_1013
          exact W.iret (v := v_1013) hx hb hr (fun t ht hW => ⟨⟨v_1013, _, rfl, ⟨v_1013, (bw (0) (9) bv_1013 (by decide)), rfl, rfl⟩, by rw [ht]; exact hP, hD⟩, hS.F ht⟩) hS.2.2 dJ6_numberOfTrailingZeros_0f7a4_79
      · skip
        have nc_1007 := nb_nle (16) (17) c_1007 (bkc (x := 16) (c := 16) (by decide)) nc_1006.1 (by decide)
        refine lv_iinc (v := 5) (lv' := [(1, .int 5), (0, .int v_1003)]) hx hb dJ6_numberOfTrailingZeros_0f7a4_55 hl (k := 0) rfl (by decide) (by decide) rfl (fun ls hl => ?_)
        refine lv_iload_n hx hb dJ6_numberOfTrailingZeros_0f7a4_58 rfl (lv_at hl 1 rfl) ?_
        refine lv_iconst (v := 4) hx hb dJ6_numberOfTrailingZeros_0f7a4_59 (by decide) ?_
        refine lv_iushr hx hb dJ6_numberOfTrailingZeros_0f7a4_60 rfl ?_
        refine lv_topi (fun v_1014 ev_1014 => ?_)
        have bv_1014 : (1 : Int) ≤ v_1014.toInt ∧ v_1014.toInt ≤ 16 := ba_ushr 4 ev_1014 nc_1007.2.1 (by decide) (by decide) _ _ (by decide)
        refine lv_istore_n (lv' := [(0, .int v_1014), (1, .int 5)]) hx hb dJ6_numberOfTrailingZeros_0f7a4_61 rfl hl (by decide) rfl (fun ls hl => ?_)
        refine lv_iload_n hx hb dJ6_numberOfTrailingZeros_0f7a4_62 rfl (lv_at hl 0 rfl) ?_
        refine lv_iconst (v := 4) hx hb dJ6_numberOfTrailingZeros_0f7a4_63 (by decide) ?_
        refine lv_icmp_le (tgt := 74) hx hb dJ6_numberOfTrailingZeros_0f7a4_64 (by decide) (fun c_1015 => ?_) (fun c_1015 => ?_)
        · skip
          have nc_1015 := nb_le (4) (4) c_1015 bv_1014 (bkc (x := 4) (c := 4) (by decide)) (by decide)
          refine lv_iload_n hx hb dJ6_numberOfTrailingZeros_0f7a4_74 rfl (lv_at hl 1 rfl) ?_
          refine lv_iload_n hx hb dJ6_numberOfTrailingZeros_0f7a4_75 rfl (lv_at hl 0 rfl) ?_
          refine lv_iconst (v := 1) hx hb dJ6_numberOfTrailingZeros_0f7a4_76 (by decide) ?_
          refine lv_iushr hx hb dJ6_numberOfTrailingZeros_0f7a4_77 rfl ?_
          refine lv_topi (fun v_1016 ev_1016 => ?_)
          have bv_1016 : (0 : Int) ≤ v_1016.toInt ∧ v_1016.toInt ≤ 2 := ba_ushr 1 ev_1016 nc_1015.1 (by decide) (by decide) _ _ (by decide)
          refine lv_iadd hx hb dJ6_numberOfTrailingZeros_0f7a4_78 ?_
          refine lv_topi (fun v_1017 ev_1017 => ?_)
          have qv_1017 := ba_add ev_1017 (bkc (x := 5) (c := 5) (by decide)) bv_1016 (by decide)
          have bv_1017 : (5 : Int) ≤ v_1017.toInt ∧ v_1017.toInt ≤ 7 := bq_add qv_1017 (bkc (x := 5) (c := 5) (by decide)) bv_1016 _ _ (by decide)
          have qv_1017 : v_1017.toInt = (5) + v_1016.toInt := qv_1017
          exact W.iret (v := v_1017) hx hb hr (fun t ht hW => ⟨⟨v_1017, _, rfl, ⟨v_1017, (bw (0) (9) bv_1017 (by decide)), rfl, rfl⟩, by rw [ht]; exact hP, hD⟩, hS.F ht⟩) hS.2.2 dJ6_numberOfTrailingZeros_0f7a4_79
        · skip
          have nc_1015 := nb_nle (4) (5) c_1015 (bkc (x := 4) (c := 4) (by decide)) bv_1014 (by decide)
          refine lv_iinc (v := 7) (lv' := [(1, .int 7), (0, .int v_1014)]) hx hb dJ6_numberOfTrailingZeros_0f7a4_67 hl (k := 1) rfl (by decide) (by decide) rfl (fun ls hl => ?_)
          refine lv_iload_n hx hb dJ6_numberOfTrailingZeros_0f7a4_70 rfl (lv_at hl 1 rfl) ?_
          refine lv_iconst (v := 2) hx hb dJ6_numberOfTrailingZeros_0f7a4_71 (by decide) ?_
          refine lv_iushr hx hb dJ6_numberOfTrailingZeros_0f7a4_72 rfl ?_
          refine lv_topi (fun v_1018 ev_1018 => ?_)
          have bv_1018 : (1 : Int) ≤ v_1018.toInt ∧ v_1018.toInt ≤ 4 := ba_ushr 2 ev_1018 nc_1015.2.1 (by decide) (by decide) _ _ (by decide)
          refine lv_istore_n (lv' := [(0, .int v_1018), (1, .int 7)]) hx hb dJ6_numberOfTrailingZeros_0f7a4_73 rfl hl (by decide) rfl (fun ls hl => ?_)
          refine lv_iload_n hx hb dJ6_numberOfTrailingZeros_0f7a4_74 rfl (lv_at hl 1 rfl) ?_
          refine lv_iload_n hx hb dJ6_numberOfTrailingZeros_0f7a4_75 rfl (lv_at hl 0 rfl) ?_
          refine lv_iconst (v := 1) hx hb dJ6_numberOfTrailingZeros_0f7a4_76 (by decide) ?_
          refine lv_iushr hx hb dJ6_numberOfTrailingZeros_0f7a4_77 rfl ?_
          refine lv_topi (fun v_1019 ev_1019 => ?_)
          have bv_1019 : (0 : Int) ≤ v_1019.toInt ∧ v_1019.toInt ≤ 2 := ba_ushr 1 ev_1019 bv_1018 (by decide) (by decide) _ _ (by decide)
          refine lv_iadd hx hb dJ6_numberOfTrailingZeros_0f7a4_78 ?_
          refine lv_topi (fun v_1020 ev_1020 => ?_)
          have qv_1020 := ba_add ev_1020 (bkc (x := 7) (c := 7) (by decide)) bv_1019 (by decide)
          have bv_1020 : (7 : Int) ≤ v_1020.toInt ∧ v_1020.toInt ≤ 9 := bq_add qv_1020 (bkc (x := 7) (c := 7) (by decide)) bv_1019 _ _ (by decide)
          have qv_1020 : v_1020.toInt = (7) + v_1019.toInt := qv_1020
          exact W.iret (v := v_1020) hx hb hr (fun t ht hW => ⟨⟨v_1020, _, rfl, ⟨v_1020, (bw (0) (9) bv_1020 (by decide)), rfl, rfl⟩, by rw [ht]; exact hP, hD⟩, hS.F ht⟩) hS.2.2 dJ6_numberOfTrailingZeros_0f7a4_79
    · skip
      have nc_1006 := nb_nle (256) (257) c_1006 (bkc (x := 256) (c := 256) (by decide)) nc_1005.2.1 (by decide)
      refine lv_iinc (v := 9) (lv' := [(1, .int 9), (0, .int v_1003)]) hx hb dJ6_numberOfTrailingZeros_0f7a4_41 hl (k := 0) rfl (by decide) (by decide) rfl (fun ls hl => ?_)
      refine lv_iload_n hx hb dJ6_numberOfTrailingZeros_0f7a4_44 rfl (lv_at hl 1 rfl) ?_
      refine lv_bipush (v := 8) hx hb dJ6_numberOfTrailingZeros_0f7a4_45 (by decide) ?_
      refine lv_iushr hx hb dJ6_numberOfTrailingZeros_0f7a4_47 rfl ?_
      refine lv_topi (fun v_1021 ev_1021 => ?_)
      have bv_1021 : (1 : Int) ≤ v_1021.toInt ∧ v_1021.toInt ≤ 1 := ba_ushr 8 ev_1021 nc_1006.2.1 (by decide) (by decide) _ _ (by decide)
      refine lv_istore_n (lv' := [(0, .int v_1021), (1, .int 9)]) hx hb dJ6_numberOfTrailingZeros_0f7a4_48 rfl hl (by decide) rfl (fun ls hl => ?_)
      refine lv_iload_n hx hb dJ6_numberOfTrailingZeros_0f7a4_49 rfl (lv_at hl 0 rfl) ?_
      refine lv_bipush (v := 16) hx hb dJ6_numberOfTrailingZeros_0f7a4_50 (by decide) ?_
      refine lv_icmp_le (tgt := 62) hx hb dJ6_numberOfTrailingZeros_0f7a4_52 (by decide) (fun _ => ?_) (fun c9 => absurd (dc_le bv_1021 (bkc (x := 16) (c := 16) (by decide)) (by decide)) c9)
      refine lv_iload_n hx hb dJ6_numberOfTrailingZeros_0f7a4_62 rfl (lv_at hl 0 rfl) ?_
      refine lv_iconst (v := 4) hx hb dJ6_numberOfTrailingZeros_0f7a4_63 (by decide) ?_
      refine lv_icmp_le (tgt := 74) hx hb dJ6_numberOfTrailingZeros_0f7a4_64 (by decide) (fun _ => ?_) (fun c9 => absurd (dc_le bv_1021 (bkc (x := 4) (c := 4) (by decide)) (by decide)) c9)
      refine lv_iload_n hx hb dJ6_numberOfTrailingZeros_0f7a4_74 rfl (lv_at hl 1 rfl) ?_
      refine lv_iload_n hx hb dJ6_numberOfTrailingZeros_0f7a4_75 rfl (lv_at hl 0 rfl) ?_
      refine lv_iconst (v := 1) hx hb dJ6_numberOfTrailingZeros_0f7a4_76 (by decide) ?_
      refine lv_iushr hx hb dJ6_numberOfTrailingZeros_0f7a4_77 rfl ?_
      refine lv_topi (fun v_1022 ev_1022 => ?_)
      have bv_1022 : (0 : Int) ≤ v_1022.toInt ∧ v_1022.toInt ≤ 0 := ba_ushr 1 ev_1022 bv_1021 (by decide) (by decide) _ _ (by decide)
      refine lv_iadd hx hb dJ6_numberOfTrailingZeros_0f7a4_78 ?_
      refine lv_topi (fun v_1023 ev_1023 => ?_)
      have qv_1023 := ba_add ev_1023 (bkc (x := 9) (c := 9) (by decide)) bv_1022 (by decide)
      have bv_1023 : (9 : Int) ≤ v_1023.toInt ∧ v_1023.toInt ≤ 9 := bq_add qv_1023 (bkc (x := 9) (c := 9) (by decide)) bv_1022 _ _ (by decide)
      have qv_1023 : v_1023.toInt = (9) + v_1022.toInt := qv_1023
      exact W.iret (v := v_1023) hx hb hr (fun t ht hW => ⟨⟨v_1023, _, rfl, ⟨v_1023, (bw (0) (9) bv_1023 (by decide)), rfl, rfl⟩, by rw [ht]; exact hP, hD⟩, hS.F ht⟩) hS.2.2 dJ6_numberOfTrailingZeros_0f7a4_79
  · skip
    have nc_1005 := nb_nlt (0) (0) c_1005 h_1004 (bkc (x := 0) (c := 0) (by decide)) (by decide)
    refine lv_iload_n hx hb dJ6_numberOfTrailingZeros_0f7a4_12 rfl (lv_at hl 0 rfl) ?_
    refine lv_bipush (v := 32) hx hb dJ6_numberOfTrailingZeros_0f7a4_13 (by decide) ?_
    refine lv_iand hx hb dJ6_numberOfTrailingZeros_0f7a4_15 ?_
    refine lv_topi (fun v_1024 ev_1024 => ?_)
    have bv_1024 : (0 : Int) ≤ v_1024.toInt ∧ v_1024.toInt ≤ 0 := ba_andl ev_1024 nc_1005.1 (by decide)
    exact W.iret (v := v_1024) hx hb hr (fun t ht hW => ⟨⟨v_1024, _, rfl, ⟨v_1024, (bw (0) (9) bv_1024 (by decide)), rfl, rfl⟩, by rw [ht]; exact hP, hD⟩, hS.F ht⟩) hS.2.2 dJ6_numberOfTrailingZeros_0f7a4_16

set_option maxHeartbeats 4000000 in
set_option maxRecDepth 100000 in
theorem sntz (l : Launch) (G : va_G) (y : Nat → ClassId) (sz : Nat) (a1 : Int32)  : Met l yJ6_numberOfTrailingZeros_0f7a4 (Cond.code yJ6_numberOfTrailingZeros_0f7a4 cJ6_numberOfTrailingZeros_0f7a4 2 (some .int) :: wAll) ({ frames := 0, cells := 0, slots := 0, locals := 0 }) (va_Pc [.int a1] (kp G y sz [])) (va_Qi (fun (r : Int32) (w : va_W) => (∃ (v_75 : Int32), ((0 : Int) ≤ v_75.toInt ∧ v_75.toInt ≤ 33) ∧ r = v_75 ∧ w = [])) (kq G (va_A [] sz)) (va_A [] sz)) 0 0 (va_A [] sz) := by
  refine Met.ofW (cc := cJ6_numberOfTrailingZeros_0f7a4) (maxL := 2) (ret := (some .int)) (by decide) rfl ?_
  intro p e s m args below meth c s₁ B hml hv
  obtain ⟨rfl, hsz, hP, hK, hD0⟩ := hv
  have hx := B.exec
  have hb := B.bytes
  have hr := B.returns
  have hw0 : ∀ w ∈ wAll, w.before _ s = true := fun w h => atoms_spec (ws := Cond.code yJ6_numberOfTrailingZeros_0f7a4 cJ6_numberOfTrailingZeros_0f7a4 2 (some .int) :: wAll) B.pre w (List.mem_cons_of_mem _ h)
  have hown : s.vm.findClass RJ6 = some m.cls := findClass_of_methodNamed B.named
  subst hsz
  have hD := hD0.self (sz := s.heap.size)
  generalize hAe : va_A [] s.heap.size = A at hD ⊢
  have hA : ∀ q : Nat, s.heap.size ≤ q → A q := fun q h => by rw [← hAe]; exact Or.inr h
  have hS : va_S A s.heap s.heap [] := va_S.rf
  have hP : va_P G vwCl [] s.heap := hP
  have hl := lv_entry ([.int a1]) (n := 2) (Nat.le_of_ble_eq_true rfl)
  rw [lg_entry_eq]
  generalize (lg_sl ([.int a1]) ++ List.replicate (2 - (lg_sl ([.int a1])).length) Slot.unset).toArray = ls at hl ⊢
  have hl : lv_has ls 2 [(0, .int a1)] := hl
  refine lv_iload_n hx hb dJ6_numberOfTrailingZeros_0f7a4_0 rfl (lv_at hl 0 rfl) ?_
  refine lv_iconst (v := (-1)) hx hb dJ6_numberOfTrailingZeros_0f7a4_1 (by decide) ?_
  refine lv_ixor hx hb dJ6_numberOfTrailingZeros_0f7a4_2 ?_
  refine lv_topi (fun v_1001 ev_1001 => ?_)
  refine lv_iload_n hx hb dJ6_numberOfTrailingZeros_0f7a4_3 rfl (lv_at hl 0 rfl) ?_
  refine lv_iconst (v := 1) hx hb dJ6_numberOfTrailingZeros_0f7a4_4 (by decide) ?_
  refine lv_isub hx hb dJ6_numberOfTrailingZeros_0f7a4_5 ?_
  refine lv_topi (fun v_1002 ev_1002 => ?_)
  refine lv_iand hx hb dJ6_numberOfTrailingZeros_0f7a4_6 ?_
  refine lv_topi (fun v_1003 ev_1003 => ?_)
  refine lv_istore_n (lv' := [(0, .int v_1003)]) hx hb dJ6_numberOfTrailingZeros_0f7a4_7 rfl hl (by decide) rfl (fun ls hl => ?_)
  refine lv_iload_n hx hb dJ6_numberOfTrailingZeros_0f7a4_8 rfl (lv_at hl 0 rfl) ?_
  refine lv_if_gt (tgt := 17) hx hb dJ6_numberOfTrailingZeros_0f7a4_9 (by decide) (fun c_1004 => ?_) (fun c_1004 => ?_)
  · skip
    have nc_1004 := nb_lt (0) (1) c_1004 (bkc (x := 0) (c := 0) (by decide)) (btop v_1003) (by decide)
    refine lv_iconst (v := 1) hx hb dJ6_numberOfTrailingZeros_0f7a4_17 (by decide) ?_
    refine lv_istore_n (lv' := [(1, .int 1), (0, .int v_1003)]) hx hb dJ6_numberOfTrailingZeros_0f7a4_18 rfl hl (by decide) rfl (fun ls hl => ?_)
    refine lv_iload_n hx hb dJ6_numberOfTrailingZeros_0f7a4_19 rfl (lv_at hl 1 rfl) ?_
    refine lv_ldcw (own := RJ6) (v := 65536) hx hb hown (hw0 _ m_31) dJ6_numberOfTrailingZeros_0f7a4_20 ?_
    refine cutW 34 (fun H locs ls st => ∃ (v_1007 : Int32) (v_1008 : Int32), ((1 : Int) ≤ v_1007.toInt ∧ v_1007.toInt ≤ 17) ∧ ((1 : Int) ≤ v_1008.toInt ∧ v_1008.toInt ≤ 65536) ∧ st = [] ∧ vPD G A H [] ∧ va_S A s.heap H locs ∧ lv_has ls 2 [(1, .int v_1007), (0, .int v_1008)]) ?_ (fun J_34_1008 => ?_)
    · rintro H locs ls st ⟨v_1007, v_1008, bv_1007, bv_1008, rfl, ⟨hP, hD⟩, hS, hl⟩
      refine lv_iload_n hx hb dJ6_numberOfTrailingZeros_0f7a4_34 rfl (lv_at hl 1 rfl) ?_
      refine lv_sipush (v := 256) hx hb dJ6_numberOfTrailingZeros_0f7a4_35 (by decide) ?_
      refine cutW 49 (fun H locs ls st => ∃ (v_1012 : Int32) (v_1013 : Int32), ((1 : Int) ≤ v_1012.toInt ∧ v_1012.toInt ≤ 25) ∧ ((1 : Int) ≤ v_1013.toInt ∧ v_1013.toInt ≤ 256) ∧ st = [] ∧ vPD G A H [] ∧ va_S A s.heap H locs ∧ lv_has ls 2 [(1, .int v_1012), (0, .int v_1013)]) ?_ (fun J_49_1013 => ?_)
      · rintro H locs ls st ⟨v_1012, v_1013, bv_1012, bv_1013, rfl, ⟨hP, hD⟩, hS, hl⟩
        refine lv_iload_n hx hb dJ6_numberOfTrailingZeros_0f7a4_49 rfl (lv_at hl 1 rfl) ?_
        refine lv_bipush (v := 16) hx hb dJ6_numberOfTrailingZeros_0f7a4_50 (by decide) ?_
        refine cutW 62 (fun H locs ls st => ∃ (v_1017 : Int32) (v_1018 : Int32), ((1 : Int) ≤ v_1017.toInt ∧ v_1017.toInt ≤ 29) ∧ ((1 : Int) ≤ v_1018.toInt ∧ v_1018.toInt ≤ 16) ∧ st = [] ∧ vPD G A H [] ∧ va_S A s.heap H locs ∧ lv_has ls 2 [(1, .int v_1017), (0, .int v_1018)]) ?_ (fun J_62_1018 => ?_)
        · rintro H locs ls st ⟨v_1017, v_1018, bv_1017, bv_1018, rfl, ⟨hP, hD⟩, hS, hl⟩
          refine lv_iload_n hx hb dJ6_numberOfTrailingZeros_0f7a4_62 rfl (lv_at hl 1 rfl) ?_
          refine lv_iconst (v := 4) hx hb dJ6_numberOfTrailingZeros_0f7a4_63 (by decide) ?_
          refine cutW 74 (fun H locs ls st => ∃ (v_1022 : Int32) (v_1023 : Int32), ((1 : Int) ≤ v_1022.toInt ∧ v_1022.toInt ≤ 31) ∧ ((1 : Int) ≤ v_1023.toInt ∧ v_1023.toInt ≤ 4) ∧ st = [] ∧ vPD G A H [] ∧ va_S A s.heap H locs ∧ lv_has ls 2 [(1, .int v_1022), (0, .int v_1023)]) ?_ (fun J_74_1023 => ?_)
          · rintro H locs ls st ⟨v_1022, v_1023, bv_1022, bv_1023, rfl, ⟨hP, hD⟩, hS, hl⟩
            refine lv_iload_n hx hb dJ6_numberOfTrailingZeros_0f7a4_74 rfl (lv_at hl 0 rfl) ?_
            refine lv_iload_n hx hb dJ6_numberOfTrailingZeros_0f7a4_75 rfl (lv_at hl 1 rfl) ?_
            refine lv_iconst (v := 1) hx hb dJ6_numberOfTrailingZeros_0f7a4_76 (by decide) ?_
            refine lv_iushr hx hb dJ6_numberOfTrailingZeros_0f7a4_77 rfl ?_
            refine lv_topi (fun v_1024 ev_1024 => ?_)
            have bv_1024 : (0 : Int) ≤ v_1024.toInt ∧ v_1024.toInt ≤ 2 := ba_ushr 1 ev_1024 bv_1023 (by decide) (by decide) _ _ (by decide)
            refine lv_iadd hx hb dJ6_numberOfTrailingZeros_0f7a4_78 ?_
            refine lv_topi (fun v_1025 ev_1025 => ?_)
            have qv_1025 := ba_add ev_1025 bv_1022 bv_1024 (by decide)
            have bv_1025 : (1 : Int) ≤ v_1025.toInt ∧ v_1025.toInt ≤ 33 := bq_add qv_1025 bv_1022 bv_1024 _ _ (by decide)
            exact W.iret (v := v_1025) hx hb hr (fun t ht hW => ⟨⟨v_1025, _, rfl, ⟨v_1025, (bw (0) (33) bv_1025 (by decide)), rfl, rfl⟩, by rw [ht]; exact hP, hD⟩, hS.F ht⟩) hS.2.2 dJ6_numberOfTrailingZeros_0f7a4_79
          · skip
            refine lv_icmp_le (tgt := 74) hx hb dJ6_numberOfTrailingZeros_0f7a4_64 (by decide) (fun c_1026 => ?_) (fun c_1026 => ?_)
            · skip
              have nc_1026 := nb_le (4) (4) c_1026 bv_1018 (bkc (x := 4) (c := 4) (by decide)) (by decide)
              exact J_74_1023 _ _ _ _ ⟨v_1017, v_1018, (bw (1) (31) bv_1017 (by decide)), nc_1026.1, rfl, ⟨hP, hD⟩, hS, lv_sub hl [0, 1] rfl⟩
            · skip
              have nc_1026 := nb_nle (4) (5) c_1026 (bkc (x := 4) (c := 4) (by decide)) bv_1018 (by decide)
              obtain ⟨v_1027, ev_1027⟩ : ∃ z : Int32, z = v_1017 + 2 := ⟨_, rfl⟩
              have qv_1027 := ba_add ev_1027 bv_1017 (bkc (x := 2) (c := 2) (by decide)) (by decide)
              have bv_1027 : (3 : Int) ≤ v_1027.toInt ∧ v_1027.toInt ≤ 31 := bq_add qv_1027 bv_1017 (bkc (x := 2) (c := 2) (by decide)) _ _ (by decide)
              have qv_1027 : v_1027.toInt = v_1017.toInt + (2) := qv_1027
              refine lv_iinc (v := v_1027) (lv' := [(1, .int v_1027), (0, .int v_1018)]) hx hb dJ6_numberOfTrailingZeros_0f7a4_67 hl (k := 0) rfl (ev_1027.symm) (by decide) rfl (fun ls hl => ?_)
              refine lv_iload_n hx hb dJ6_numberOfTrailingZeros_0f7a4_70 rfl (lv_at hl 1 rfl) ?_
              refine lv_iconst (v := 2) hx hb dJ6_numberOfTrailingZeros_0f7a4_71 (by decide) ?_
              refine lv_iushr hx hb dJ6_numberOfTrailingZeros_0f7a4_72 rfl ?_
              refine lv_topi (fun v_1028 ev_1028 => ?_)
              have bv_1028 : (1 : Int) ≤ v_1028.toInt ∧ v_1028.toInt ≤ 4 := ba_ushr 2 ev_1028 nc_1026.2.1 (by decide) (by decide) _ _ (by decide)
              refine lv_istore_n (lv' := [(0, .int v_1028), (1, .int v_1027)]) hx hb dJ6_numberOfTrailingZeros_0f7a4_73 rfl hl (by decide) rfl (fun ls hl => ?_)
              exact J_74_1023 _ _ _ _ ⟨v_1027, v_1028, (bw (1) (31) bv_1027 (by decide)), bv_1028, rfl, ⟨hP, hD⟩, hS, lv_sub hl [1, 0] rfl⟩
        · skip
          refine lv_icmp_le (tgt := 62) hx hb dJ6_numberOfTrailingZeros_0f7a4_52 (by decide) (fun c_1029 => ?_) (fun c_1029 => ?_)
          · skip
            have nc_1029 := nb_le (16) (16) c_1029 bv_1013 (bkc (x := 16) (c := 16) (by decide)) (by decide)
            exact J_62_1018 _ _ _ _ ⟨v_1012, v_1013, (bw (1) (29) bv_1012 (by decide)), nc_1029.1, rfl, ⟨hP, hD⟩, hS, lv_sub hl [0, 1] rfl⟩
          · skip
            have nc_1029 := nb_nle (16) (17) c_1029 (bkc (x := 16) (c := 16) (by decide)) bv_1013 (by decide)
            obtain ⟨v_1030, ev_1030⟩ : ∃ z : Int32, z = v_1012 + 4 := ⟨_, rfl⟩
            have qv_1030 := ba_add ev_1030 bv_1012 (bkc (x := 4) (c := 4) (by decide)) (by decide)
            have bv_1030 : (5 : Int) ≤ v_1030.toInt ∧ v_1030.toInt ≤ 29 := bq_add qv_1030 bv_1012 (bkc (x := 4) (c := 4) (by decide)) _ _ (by decide)
            have qv_1030 : v_1030.toInt = v_1012.toInt + (4) := qv_1030
            refine lv_iinc (v := v_1030) (lv' := [(1, .int v_1030), (0, .int v_1013)]) hx hb dJ6_numberOfTrailingZeros_0f7a4_55 hl (k := 0) rfl (ev_1030.symm) (by decide) rfl (fun ls hl => ?_)
            refine lv_iload_n hx hb dJ6_numberOfTrailingZeros_0f7a4_58 rfl (lv_at hl 1 rfl) ?_
            refine lv_iconst (v := 4) hx hb dJ6_numberOfTrailingZeros_0f7a4_59 (by decide) ?_
            refine lv_iushr hx hb dJ6_numberOfTrailingZeros_0f7a4_60 rfl ?_
            refine lv_topi (fun v_1031 ev_1031 => ?_)
            have bv_1031 : (1 : Int) ≤ v_1031.toInt ∧ v_1031.toInt ≤ 16 := ba_ushr 4 ev_1031 nc_1029.2.1 (by decide) (by decide) _ _ (by decide)
            refine lv_istore_n (lv' := [(0, .int v_1031), (1, .int v_1030)]) hx hb dJ6_numberOfTrailingZeros_0f7a4_61 rfl hl (by decide) rfl (fun ls hl => ?_)
            exact J_62_1018 _ _ _ _ ⟨v_1030, v_1031, (bw (1) (29) bv_1030 (by decide)), bv_1031, rfl, ⟨hP, hD⟩, hS, lv_sub hl [1, 0] rfl⟩
      · skip
        refine lv_icmp_le (tgt := 49) hx hb dJ6_numberOfTrailingZeros_0f7a4_38 (by decide) (fun c_1032 => ?_) (fun c_1032 => ?_)
        · skip
          have nc_1032 := nb_le (256) (256) c_1032 bv_1008 (bkc (x := 256) (c := 256) (by decide)) (by decide)
          exact J_49_1013 _ _ _ _ ⟨v_1007, v_1008, (bw (1) (25) bv_1007 (by decide)), nc_1032.1, rfl, ⟨hP, hD⟩, hS, lv_sub hl [0, 1] rfl⟩
        · skip
          have nc_1032 := nb_nle (256) (257) c_1032 (bkc (x := 256) (c := 256) (by decide)) bv_1008 (by decide)
          obtain ⟨v_1033, ev_1033⟩ : ∃ z : Int32, z = v_1007 + 8 := ⟨_, rfl⟩
          have qv_1033 := ba_add ev_1033 bv_1007 (bkc (x := 8) (c := 8) (by decide)) (by decide)
          have bv_1033 : (9 : Int) ≤ v_1033.toInt ∧ v_1033.toInt ≤ 25 := bq_add qv_1033 bv_1007 (bkc (x := 8) (c := 8) (by decide)) _ _ (by decide)
          have qv_1033 : v_1033.toInt = v_1007.toInt + (8) := qv_1033
          refine lv_iinc (v := v_1033) (lv' := [(1, .int v_1033), (0, .int v_1008)]) hx hb dJ6_numberOfTrailingZeros_0f7a4_41 hl (k := 0) rfl (ev_1033.symm) (by decide) rfl (fun ls hl => ?_)
          refine lv_iload_n hx hb dJ6_numberOfTrailingZeros_0f7a4_44 rfl (lv_at hl 1 rfl) ?_
          refine lv_bipush (v := 8) hx hb dJ6_numberOfTrailingZeros_0f7a4_45 (by decide) ?_
          refine lv_iushr hx hb dJ6_numberOfTrailingZeros_0f7a4_47 rfl ?_
          refine lv_topi (fun v_1034 ev_1034 => ?_)
          have bv_1034 : (1 : Int) ≤ v_1034.toInt ∧ v_1034.toInt ≤ 256 := ba_ushr 8 ev_1034 nc_1032.2.1 (by decide) (by decide) _ _ (by decide)
          refine lv_istore_n (lv' := [(0, .int v_1034), (1, .int v_1033)]) hx hb dJ6_numberOfTrailingZeros_0f7a4_48 rfl hl (by decide) rfl (fun ls hl => ?_)
          exact J_49_1013 _ _ _ _ ⟨v_1033, v_1034, (bw (1) (25) bv_1033 (by decide)), bv_1034, rfl, ⟨hP, hD⟩, hS, lv_sub hl [1, 0] rfl⟩
    · skip
      refine lv_icmp_le (tgt := 34) hx hb dJ6_numberOfTrailingZeros_0f7a4_23 (by decide) (fun c_1035 => ?_) (fun c_1035 => ?_)
      · skip
        have nc_1035 := nb_le (65536) (65536) c_1035 nc_1004.2.1 (bkc (x := 65536) (c := 65536) (by decide)) (by decide)
        exact J_34_1008 _ _ _ _ ⟨1, v_1003, (bw (1) (17) (bkc (x := 1) (c := 1) (by decide)) (by decide)), nc_1035.1, rfl, ⟨hP, hD⟩, hS, lv_sub hl [0, 1] rfl⟩
      · skip
        have nc_1035 := nb_nle (65536) (65537) c_1035 (bkc (x := 65536) (c := 65536) (by decide)) nc_1004.2.1 (by decide)
        refine lv_iinc (v := 17) (lv' := [(1, .int 17), (0, .int v_1003)]) hx hb dJ6_numberOfTrailingZeros_0f7a4_26 hl (k := 0) rfl (by decide) (by decide) rfl (fun ls hl => ?_)
        refine lv_iload_n hx hb dJ6_numberOfTrailingZeros_0f7a4_29 rfl (lv_at hl 1 rfl) ?_
        refine lv_bipush (v := 16) hx hb dJ6_numberOfTrailingZeros_0f7a4_30 (by decide) ?_
        refine lv_iushr hx hb dJ6_numberOfTrailingZeros_0f7a4_32 rfl ?_
        refine lv_topi (fun v_1036 ev_1036 => ?_)
        have bv_1036 : (1 : Int) ≤ v_1036.toInt ∧ v_1036.toInt ≤ 32767 := ba_ushr 16 ev_1036 nc_1035.2.1 (by decide) (by decide) _ _ (by decide)
        refine lv_istore_n (lv' := [(0, .int v_1036), (1, .int 17)]) hx hb dJ6_numberOfTrailingZeros_0f7a4_33 rfl hl (by decide) rfl (fun ls hl => ?_)
        exact J_34_1008 _ _ _ _ ⟨17, v_1036, (bw (1) (17) (bkc (x := 17) (c := 17) (by decide)) (by decide)), (bw (1) (65536) bv_1036 (by decide)), rfl, ⟨hP, hD⟩, hS, lv_sub hl [1, 0] rfl⟩
  · skip
    have nc_1004 := nb_nlt (0) (0) c_1004 (btop v_1003) (bkc (x := 0) (c := 0) (by decide)) (by decide)
    refine lv_iload_n hx hb dJ6_numberOfTrailingZeros_0f7a4_12 rfl (lv_at hl 0 rfl) ?_
    refine lv_bipush (v := 32) hx hb dJ6_numberOfTrailingZeros_0f7a4_13 (by decide) ?_
    refine lv_iand hx hb dJ6_numberOfTrailingZeros_0f7a4_15 ?_
    refine lv_topi (fun v_1037 ev_1037 => ?_)
    have bv_1037 : (0 : Int) ≤ v_1037.toInt ∧ v_1037.toInt ≤ 32 := ba_andr ev_1037 (bkc (x := 32) (c := 32) (by decide)) (by decide)
    exact W.iret (v := v_1037) hx hb hr (fun t ht hW => ⟨⟨v_1037, _, rfl, ⟨v_1037, (bw (0) (33) bv_1037 (by decide)), rfl, rfl⟩, by rw [ht]; exact hP, hD⟩, hS.F ht⟩) hS.2.2 dJ6_numberOfTrailingZeros_0f7a4_16

set_option maxHeartbeats 4000000 in
set_option maxRecDepth 100000 in
theorem sX5_lay (l : Launch) (G : va_G) (y : Nat → ClassId) (sz : Nat) (ob : Nat) (a1 : Int32) (a2 : Int32) (ob_filled : Int32) (ob_width : Int32) (ob_size : Int32) (ob_numbers : Nat) (fob_numbers : Nat → Int64) (p_ob_filled : (0 : Int) ≤ ob_filled.toInt ∧ ob_filled.toInt ≤ 1) (p_ob_size : (0 : Int) ≤ ob_size.toInt ∧ ob_size.toInt ≤ 60) (p_a2 : (0 : Int) ≤ a2.toInt ∧ a2.toInt ≤ 60) : Met l yX5_lay (Cond.code yX5_lay cX5_lay 3 none :: wAll) ({ frames := 1, cells := 0, slots := 0, locals := 24 }) (va_Pc [.ref ob, .int a1, .int a2] (kp G y sz [(ce_X5 ob ob_filled ob_width ob_size ob_numbers), (ce_l60 y ob_numbers fob_numbers)])) (va_Qv (fun (w : va_W) => (∃ (f_5 : Nat → Int64), w = [(ce_X5 ob 1 a1 a2 ob_numbers), (ce_l60 y ob_numbers f_5)])) (kq G (va_A [(ce_X5 ob ob_filled ob_width ob_size ob_numbers), (ce_l60 y ob_numbers fob_numbers)] sz)) (va_A [(ce_X5 ob ob_filled ob_width ob_size ob_numbers), (ce_l60 y ob_numbers fob_numbers)] sz)) 0 0 (va_A [(ce_X5 ob ob_filled ob_width ob_size ob_numbers), (ce_l60 y ob_numbers fob_numbers)] sz) := by
  refine Met.ofW (cc := cX5_lay) (maxL := 3) (ret := none) (by decide) rfl ?_
  intro p e s m args below meth c s₁ B hml hv
  obtain ⟨rfl, hsz, hP, hK, hD0⟩ := hv
  have hx := B.exec
  have hb := B.bytes
  have hr := B.returns
  have hw0 : ∀ w ∈ wAll, w.before _ s = true := fun w h => atoms_spec (ws := Cond.code yX5_lay cX5_lay 3 none :: wAll) B.pre w (List.mem_cons_of_mem _ h)
  have hown : s.vm.findClass RX5 = some m.cls := findClass_of_methodNamed B.named
  subst hsz
  have hD := hD0.self (sz := s.heap.size)
  generalize hAe : va_A [(ce_X5 ob ob_filled ob_width ob_size ob_numbers), (ce_l60 y ob_numbers fob_numbers)] s.heap.size = A at hD ⊢
  have hA : ∀ q : Nat, s.heap.size ≤ q → A q := fun q h => by rw [← hAe]; exact Or.inr h
  have hS : va_S A s.heap s.heap [] := va_S.rf
  have hP : va_P G vwCl [(ce_X5 ob ob_filled ob_width ob_size ob_numbers), (ce_l60 y ob_numbers fob_numbers)] s.heap := hP
  have hl := lv_entry ([.ref ob, .int a1, .int a2]) (n := 3) (Nat.le_of_ble_eq_true rfl)
  rw [lg_entry_eq]
  generalize (lg_sl ([.ref ob, .int a1, .int a2]) ++ List.replicate (3 - (lg_sl ([.ref ob, .int a1, .int a2])).length) Slot.unset).toArray = ls at hl ⊢
  have hl : lv_has ls 3 [(0, .ref ob), (1, .int a1), (2, .int a2)] := hl
  refine lv_aload_n hx hb dX5_lay_0 rfl (lv_at hl 0 rfl) ?_
  refine lv_iconst (v := 1) hx hb dX5_lay_1 (by decide) ?_
  refine va_put (D := G) (ci := 5) (v := .int 1) (ty := .boolean) (C := RX5) (T := TX5) (N := 4) hx hb hw0 inA_wsX50 tyX5 tyX5_ok nmX5 hown hK.1 hP hD hS 0 rfl rfl 0 (by decide) (hw0 _ m_947) (fun _ h9 => h9) rfl fd_X5_0 rfl rfl (Nat.le_of_ble_eq_true rfl) dX5_lay_2 (fun H locs hP hD hS => ?_)
  obtain ⟨hP, hD⟩ : vPD G A H [(ce_X5 ob 1 ob_width ob_size ob_numbers), (ce_l60 y ob_numbers fob_numbers)] := ⟨hP, hD⟩
  refine lv_aload_n hx hb dX5_lay_5 rfl (lv_at hl 0 rfl) ?_
  refine lv_iload_n hx hb dX5_lay_6 rfl (lv_at hl 1 rfl) ?_
  refine va_put (D := G) (ci := 5) (v := .int a1) (ty := .int) (C := RX5) (T := TX5) (N := 4) hx hb hw0 inA_wsX50 tyX5 tyX5_ok nmX5 hown hK.1 hP hD hS 0 rfl rfl 1 (by decide) (hw0 _ m_940) (fun _ h9 => h9) rfl fd_X5_1 rfl rfl (Nat.le_of_ble_eq_true rfl) dX5_lay_7 (fun H locs hP hD hS => ?_)
  obtain ⟨hP, hD⟩ : vPD G A H [(ce_X5 ob 1 a1 ob_size ob_numbers), (ce_l60 y ob_numbers fob_numbers)] := ⟨hP, hD⟩
  refine lv_aload_n hx hb dX5_lay_10 rfl (lv_at hl 0 rfl) ?_
  refine lv_iload_n hx hb dX5_lay_11 rfl (lv_at hl 2 rfl) ?_
  refine va_put (D := G) (ci := 5) (v := .int a2) (ty := .int) (C := RX5) (T := TX5) (N := 4) hx hb hw0 inA_wsX50 tyX5 tyX5_ok nmX5 hown hK.1 hP hD hS 0 rfl rfl 2 (by decide) (hw0 _ m_942) (fun _ h9 => h9) rfl fd_X5_2 rfl rfl (Nat.le_of_ble_eq_true rfl) dX5_lay_12 (fun H locs hP hD hS => ?_)
  obtain ⟨hP, hD⟩ : vPD G A H [(ce_X5 ob 1 a1 a2 ob_numbers), (ce_l60 y ob_numbers fob_numbers)] := ⟨hP, hD⟩
  refine lv_aload_n hx hb dX5_lay_15 rfl (lv_at hl 0 rfl) ?_
  refine va_get (D := G) (ci := 5) (v := .ref ob_numbers) (C := RX5) (T := TX5) (N := 4) hx hb hw0 inA_wsX50 hown hK.1 hP 0 rfl rfl 3 (by decide) (hw0 _ m_945) (fun _ h9 => h9) rfl dX5_lay_16 ?_
  refine lv_lconst (v := 0) hx hb dX5_lay_19 (by decide) ?_
  refine cSvm (As := [.ref ob_numbers, .long 0]) (rest := []) ⟨hx, hb, hml, hown, hw0⟩ hA hK hP hD hS [false, true] (sfill60 l G y _ ob_numbers 0 fob_numbers ) rfl ⟨(callB_of 2 hw0 (gA m_33) rfl rfl rfl (hw0 _ m_317) (hw0 _ m_948) cb_J7_fill_d0a16 ⟨Nat.le_of_ble_eq_true rfl, Nat.le_of_ble_eq_true rfl⟩), (hw0 _ m_949)⟩ rfl hl.1 (Nat.le_of_ble_eq_true rfl) dX5_lay_20 ⟨Nat.le_of_ble_eq_true rfl, Nat.le_of_ble_eq_true rfl⟩ (fun w_1001 H locs hw_1001 hP hD hS => ?_)
  obtain ⟨f_1002, rfl⟩ := hw_1001
  obtain ⟨hP, hD⟩ : vPD G A H [(ce_X5 ob 1 a1 a2 ob_numbers), (ce_l60 y ob_numbers f_1002)] := ⟨hP, hD⟩
  exact W.vret hx hb hr (fun t ht hW => ⟨⟨_, rfl, ⟨f_1002, rfl⟩, by rw [ht]; exact hP, hD⟩, hS.F ht⟩) hS.2.2 dX5_lay_23

set_option maxHeartbeats 4000000 in
set_option maxRecDepth 100000 in
theorem sX5_cut (l : Launch) (G : va_G) (y : Nat → ClassId) (sz : Nat) (ob : Nat) (a1 : Int64) (ob_filled : Int32) (ob_width : Int32) (ob_size : Int32) (ob_numbers : Nat) (p_ob_filled : (0 : Int) ≤ ob_filled.toInt ∧ ob_filled.toInt ≤ 1) (p_ob_size : (0 : Int) ≤ ob_size.toInt ∧ ob_size.toInt ≤ 60) : Met l yX5_cut (Cond.code yX5_cut cX5_cut 3 (some .long) :: wAll) ({ frames := 0, cells := 0, slots := 0, locals := 0 }) (va_Pc [.ref ob, .long a1] (kp G y sz [(ce_X5 ob ob_filled ob_width ob_size ob_numbers)])) (va_Ql (fun (r : Int64) (w : va_W) => (∃ (v_11 : Int64) (v_12 : Int32), (v_12.toInt = ob_width.toInt) ∧ r = v_11 ∧ w = [(ce_X5 ob ob_filled v_12 ob_size ob_numbers)])) (kq G (va_A [(ce_X5 ob ob_filled ob_width ob_size ob_numbers)] sz)) (va_A [(ce_X5 ob ob_filled ob_width ob_size ob_numbers)] sz)) 0 0 (va_A [(ce_X5 ob ob_filled ob_width ob_size ob_numbers)] sz) := by
  refine Met.ofW (cc := cX5_cut) (maxL := 3) (ret := (some .long)) (by decide) rfl ?_
  intro p e s m args below meth c s₁ B hml hv
  obtain ⟨rfl, hsz, hP, hK, hD0⟩ := hv
  have hx := B.exec
  have hb := B.bytes
  have hr := B.returns
  have hw0 : ∀ w ∈ wAll, w.before _ s = true := fun w h => atoms_spec (ws := Cond.code yX5_cut cX5_cut 3 (some .long) :: wAll) B.pre w (List.mem_cons_of_mem _ h)
  have hown : s.vm.findClass RX5 = some m.cls := findClass_of_methodNamed B.named
  subst hsz
  have hD := hD0.self (sz := s.heap.size)
  generalize hAe : va_A [(ce_X5 ob ob_filled ob_width ob_size ob_numbers)] s.heap.size = A at hD ⊢
  have hA : ∀ q : Nat, s.heap.size ≤ q → A q := fun q h => by rw [← hAe]; exact Or.inr h
  have hS : va_S A s.heap s.heap [] := va_S.rf
  have hP : va_P G vwCl [(ce_X5 ob ob_filled ob_width ob_size ob_numbers)] s.heap := hP
  have hl := lv_entry ([.ref ob, .long a1]) (n := 3) (Nat.le_of_ble_eq_true rfl)
  rw [lg_entry_eq]
  generalize (lg_sl ([.ref ob, .long a1]) ++ List.replicate (3 - (lg_sl ([.ref ob, .long a1])).length) Slot.unset).toArray = ls at hl ⊢
  have hl : lv_has ls 3 [(0, .ref ob), (1, .long a1)] := hl
  refine lv_aload_n hx hb dX5_cut_0 rfl (lv_at hl 0 rfl) ?_
  refine va_get (D := G) (ci := 5) (v := .int ob_width) (C := RX5) (T := TX5) (N := 4) hx hb hw0 inA_wsX50 hown hK.1 hP 0 rfl rfl 1 (by decide) (hw0 _ m_940) (fun _ h9 => h9) rfl dX5_cut_1 ?_
  rcases tsw (0) 2 ob_width with ⟨j9, hj9, ej9⟩ | t_ob_width
  · rcases (by omega : j9 = 0 ∨ j9 = 1 ∨ j9 = 2) with rfl | rfl | rfl
    · obtain rfl : 0 = ob_width := (ej9.trans (by decide)).symm
      refine lv_tableIn (tgt := 32) hx hb dX5_cut_4 (by decide) (by decide) rfl (by decide) ?_
      refine lv_lload_n hx hb dX5_cut_32 rfl (lv_at hl 1 rfl) ?_
      refine lv_l2i hx hb dX5_cut_33 rfl ?_
      refine lv_topi (fun v_1001 ev_1001 => ?_)
      refine lv_i2b hx hb dX5_cut_34 rfl ?_
      refine lv_topi (fun v_1002 ev_1002 => ?_)
      have bv_1002 : (-128 : Int) ≤ v_1002.toInt ∧ v_1002.toInt ≤ 127 := ba_i2b ev_1002
      refine lv_i2l hx hb dX5_cut_35 rfl ?_
      exact W.lret (v := (v_1002).toInt64) hx hb hr (fun t ht hW => ⟨⟨(v_1002).toInt64, _, rfl, ⟨((v_1002).toInt64), 0, by have h90 : Int32.toInt 0 = 0 := (by decide); omega, rfl, rfl⟩, by rw [ht]; exact hP, hD⟩, hS.F ht⟩) hS.2.2 dX5_cut_36
    · obtain rfl : 1 = ob_width := (ej9.trans (by decide)).symm
      refine lv_tableIn (tgt := 37) hx hb dX5_cut_4 (by decide) (by decide) rfl (by decide) ?_
      refine lv_lload_n hx hb dX5_cut_37 rfl (lv_at hl 1 rfl) ?_
      refine lv_l2i hx hb dX5_cut_38 rfl ?_
      refine lv_topi (fun v_1003 ev_1003 => ?_)
      refine lv_i2s hx hb dX5_cut_39 rfl ?_
      refine lv_topi (fun v_1004 ev_1004 => ?_)
      refine lv_i2l hx hb dX5_cut_40 rfl ?_
      exact W.lret (v := (v_1004).toInt64) hx hb hr (fun t ht hW => ⟨⟨(v_1004).toInt64, _, rfl, ⟨((v_1004).toInt64), 1, by have h90 : Int32.toInt 1 = 1 := (by decide); omega, rfl, rfl⟩, by rw [ht]; exact hP, hD⟩, hS.F ht⟩) hS.2.2 dX5_cut_41
    · obtain rfl : 2 = ob_width := (ej9.trans (by decide)).symm
      refine lv_tableIn (tgt := 42) hx hb dX5_cut_4 (by decide) (by decide) rfl (by decide) ?_
      refine lv_lload_n hx hb dX5_cut_42 rfl (lv_at hl 1 rfl) ?_
      refine lv_l2i hx hb dX5_cut_43 rfl ?_
      refine lv_topi (fun v_1005 ev_1005 => ?_)
      refine lv_i2l hx hb dX5_cut_44 rfl ?_
      exact W.lret (v := (v_1005).toInt64) hx hb hr (fun t ht hW => ⟨⟨(v_1005).toInt64, _, rfl, ⟨((v_1005).toInt64), 2, by have h90 : Int32.toInt 2 = 2 := (by decide); omega, rfl, rfl⟩, by rw [ht]; exact hP, hD⟩, hS.F ht⟩) hS.2.2 dX5_cut_45
  · refine lv_tableOut (tgt := 46) hx hb dX5_cut_4 t_ob_width (by decide) ?_
    refine lv_lload_n hx hb dX5_cut_46 rfl (lv_at hl 1 rfl) ?_
    exact W.lret (v := a1) hx hb hr (fun t ht hW => ⟨⟨a1, _, rfl, ⟨a1, ob_width, by omega, rfl, rfl⟩, by rw [ht]; exact hP, hD⟩, hS.F ht⟩) hS.2.2 dX5_cut_47

set_option maxHeartbeats 4000000 in
set_option maxRecDepth 100000 in
theorem sX7_clear (l : Launch) (G : va_G) (y : Nat → ClassId) (sz : Nat) (ob : Nat) (ob_houses : Int32) (ob_fresh : Int32) (ob_introducers : Int32) (ob_x : Nat) (ob_y : Nat) (ob_rank : Nat) (ob_weekday : Nat) (ob_from : Nat) (ob_to : Nat) (ob_came : Nat) (ob_bride : Nat) (ob_told : Nat) (fob_told : Nat → Int32) (p_ob_houses : (0 : Int) ≤ ob_houses.toInt ∧ ob_houses.toInt ≤ 16) : Met l yX7_clear (Cond.code yX7_clear cX7_clear 1 none :: wAll) ({ frames := 1, cells := 0, slots := 0, locals := 23 }) (va_Pc [.ref ob] (kp G y sz [(ce_X7 ob ob_houses ob_fresh ob_introducers ob_x ob_y ob_rank ob_weekday ob_from ob_to ob_came ob_bride ob_told), (ce_i16 y ob_told fob_told)])) (va_Qv (fun (w : va_W) => (∃ (f_5 : Nat → Int32), w = [(ce_X7 ob 0 0 3 ob_x ob_y ob_rank ob_weekday ob_from ob_to ob_came ob_bride ob_told), (ce_i16 y ob_told f_5)])) (kq G (va_A [(ce_X7 ob ob_houses ob_fresh ob_introducers ob_x ob_y ob_rank ob_weekday ob_from ob_to ob_came ob_bride ob_told), (ce_i16 y ob_told fob_told)] sz)) (va_A [(ce_X7 ob ob_houses ob_fresh ob_introducers ob_x ob_y ob_rank ob_weekday ob_from ob_to ob_came ob_bride ob_told), (ce_i16 y ob_told fob_told)] sz)) 0 0 (va_A [(ce_X7 ob ob_houses ob_fresh ob_introducers ob_x ob_y ob_rank ob_weekday ob_from ob_to ob_came ob_bride ob_told), (ce_i16 y ob_told fob_told)] sz) := by
  refine Met.ofW (cc := cX7_clear) (maxL := 1) (ret := none) (by decide) rfl ?_
  intro p e s m args below meth c s₁ B hml hv
  obtain ⟨rfl, hsz, hP, hK, hD0⟩ := hv
  have hx := B.exec
  have hb := B.bytes
  have hr := B.returns
  have hw0 : ∀ w ∈ wAll, w.before _ s = true := fun w h => atoms_spec (ws := Cond.code yX7_clear cX7_clear 1 none :: wAll) B.pre w (List.mem_cons_of_mem _ h)
  have hown : s.vm.findClass RX7 = some m.cls := findClass_of_methodNamed B.named
  subst hsz
  have hD := hD0.self (sz := s.heap.size)
  generalize hAe : va_A [(ce_X7 ob ob_houses ob_fresh ob_introducers ob_x ob_y ob_rank ob_weekday ob_from ob_to ob_came ob_bride ob_told), (ce_i16 y ob_told fob_told)] s.heap.size = A at hD ⊢
  have hA : ∀ q : Nat, s.heap.size ≤ q → A q := fun q h => by rw [← hAe]; exact Or.inr h
  have hS : va_S A s.heap s.heap [] := va_S.rf
  have hP : va_P G vwCl [(ce_X7 ob ob_houses ob_fresh ob_introducers ob_x ob_y ob_rank ob_weekday ob_from ob_to ob_came ob_bride ob_told), (ce_i16 y ob_told fob_told)] s.heap := hP
  have hl := lv_entry ([.ref ob]) (n := 1) (Nat.le_of_ble_eq_true rfl)
  rw [lg_entry_eq]
  generalize (lg_sl ([.ref ob]) ++ List.replicate (1 - (lg_sl ([.ref ob])).length) Slot.unset).toArray = ls at hl ⊢
  have hl : lv_has ls 1 [(0, .ref ob)] := hl
  refine lv_aload_n hx hb dX7_clear_0 rfl (lv_at hl 0 rfl) ?_
  refine lv_iconst (v := 0) hx hb dX7_clear_1 (by decide) ?_
  refine va_put (D := G) (ci := 7) (v := .int 0) (ty := .int) (C := RX7) (T := TX7) (N := 12) hx hb hw0 inA_wsX70 tyX7 tyX7_ok nmX7 hown hK.1 hP hD hS 0 rfl rfl 0 (by decide) (hw0 _ m_1060) (fun _ h9 => h9) rfl fd_X7_0 rfl rfl (Nat.le_of_ble_eq_true rfl) dX7_clear_2 (fun H locs hP hD hS => ?_)
  obtain ⟨hP, hD⟩ : vPD G A H [(ce_X7 ob 0 ob_fresh ob_introducers ob_x ob_y ob_rank ob_weekday ob_from ob_to ob_came ob_bride ob_told), (ce_i16 y ob_told fob_told)] := ⟨hP, hD⟩
  refine lv_aload_n hx hb dX7_clear_5 rfl (lv_at hl 0 rfl) ?_
  refine lv_iconst (v := 0) hx hb dX7_clear_6 (by decide) ?_
  refine va_put (D := G) (ci := 7) (v := .int 0) (ty := .int) (C := RX7) (T := TX7) (N := 12) hx hb hw0 inA_wsX70 tyX7 tyX7_ok nmX7 hown hK.1 hP hD hS 0 rfl rfl 1 (by decide) (hw0 _ m_1061) (fun _ h9 => h9) rfl fd_X7_1 rfl rfl (Nat.le_of_ble_eq_true rfl) dX7_clear_7 (fun H locs hP hD hS => ?_)
  obtain ⟨hP, hD⟩ : vPD G A H [(ce_X7 ob 0 0 ob_introducers ob_x ob_y ob_rank ob_weekday ob_from ob_to ob_came ob_bride ob_told), (ce_i16 y ob_told fob_told)] := ⟨hP, hD⟩
  refine lv_aload_n hx hb dX7_clear_10 rfl (lv_at hl 0 rfl) ?_
  refine lv_iconst (v := 3) hx hb dX7_clear_11 (by decide) ?_
  refine va_put (D := G) (ci := 7) (v := .int 3) (ty := .int) (C := RX7) (T := TX7) (N := 12) hx hb hw0 inA_wsX70 tyX7 tyX7_ok nmX7 hown hK.1 hP hD hS 0 rfl rfl 2 (by decide) (hw0 _ m_1062) (fun _ h9 => h9) rfl fd_X7_2 rfl rfl (Nat.le_of_ble_eq_true rfl) dX7_clear_12 (fun H locs hP hD hS => ?_)
  obtain ⟨hP, hD⟩ : vPD G A H [(ce_X7 ob 0 0 3 ob_x ob_y ob_rank ob_weekday ob_from ob_to ob_came ob_bride ob_told), (ce_i16 y ob_told fob_told)] := ⟨hP, hD⟩
  refine lv_aload_n hx hb dX7_clear_15 rfl (lv_at hl 0 rfl) ?_
  refine va_get (D := G) (ci := 7) (v := .ref ob_told) (C := RX7) (T := TX7) (N := 12) hx hb hw0 inA_wsX70 hown hK.1 hP 0 rfl rfl 11 (by decide) (hw0 _ m_1063) (fun _ h9 => h9) rfl dX7_clear_16 ?_
  refine lv_iconst (v := 0) hx hb dX7_clear_19 (by decide) ?_
  refine cSvm (As := [.ref ob_told, .int 0]) (rest := []) ⟨hx, hb, hml, hown, hw0⟩ hA hK hP hD hS [false, true] (sfill16 l G y _ ob_told 0 fob_told ) rfl ⟨(callB_of 2 hw0 (gA m_32) rfl rfl rfl (hw0 _ m_317) (hw0 _ m_1064) cb_J7_fill_53178 ⟨Nat.le_of_ble_eq_true rfl, Nat.le_of_ble_eq_true rfl⟩), (hw0 _ m_318)⟩ rfl hl.1 (Nat.le_of_ble_eq_true rfl) dX7_clear_20 ⟨Nat.le_of_ble_eq_true rfl, Nat.le_of_ble_eq_true rfl⟩ (fun w_1001 H locs hw_1001 hP hD hS => ?_)
  obtain ⟨f_1002, rfl⟩ := hw_1001
  obtain ⟨hP, hD⟩ : vPD G A H [(ce_X7 ob 0 0 3 ob_x ob_y ob_rank ob_weekday ob_from ob_to ob_came ob_bride ob_told), (ce_i16 y ob_told f_1002)] := ⟨hP, hD⟩
  exact W.vret hx hb hr (fun t ht hW => ⟨⟨_, rfl, ⟨f_1002, rfl⟩, by rw [ht]; exact hP, hD⟩, hS.F ht⟩) hS.2.2 dX7_clear_23

set_option maxHeartbeats 4000000 in
set_option maxRecDepth 100000 in
theorem sX7_copy (l : Launch) (G : va_G) (y : Nat → ClassId) (sz : Nat) (ob : Nat) (o1 : Nat) (ob_houses : Int32) (ob_fresh : Int32) (ob_introducers : Int32) (ob_x : Nat) (ob_y : Nat) (ob_rank : Nat) (ob_weekday : Nat) (ob_from : Nat) (ob_to : Nat) (ob_came : Nat) (ob_bride : Nat) (ob_told : Nat) (fob_x : Nat → Int32) (fob_y : Nat → Int32) (fob_rank : Nat → Int32) (fob_weekday : Nat → Int32) (fob_from : Nat → Int32) (fob_to : Nat → Int32) (fob_came : Nat → Int32) (fob_bride : Nat → Int32) (fob_told : Nat → Int32) (o1_houses : Int32) (o1_fresh : Int32) (o1_introducers : Int32) (o1_x : Nat) (o1_y : Nat) (o1_rank : Nat) (o1_weekday : Nat) (o1_from : Nat) (o1_to : Nat) (o1_came : Nat) (o1_bride : Nat) (o1_told : Nat) (fo1_x : Nat → Int32) (fo1_y : Nat → Int32) (fo1_rank : Nat → Int32) (fo1_weekday : Nat → Int32) (fo1_from : Nat → Int32) (fo1_to : Nat → Int32) (fo1_came : Nat → Int32) (fo1_bride : Nat → Int32) (fo1_told : Nat → Int32) (p_ob_houses : (0 : Int) ≤ ob_houses.toInt ∧ ob_houses.toInt ≤ 16) (p_o1_houses : (0 : Int) ≤ o1_houses.toInt ∧ o1_houses.toInt ≤ 16) : Met l yX7_copy (Cond.code yX7_copy cX7_copy 2 none :: wAll) ({ frames := 1, cells := 0, slots := 0, locals := 72 }) (va_Pc [.ref ob, .ref o1] (kp G y sz [(ce_X7 ob ob_houses ob_fresh ob_introducers ob_x ob_y ob_rank ob_weekday ob_from ob_to ob_came ob_bride ob_told), (ce_i16 y ob_x fob_x), (ce_i16 y ob_y fob_y), (ce_i16 y ob_rank fob_rank), (ce_i16 y ob_weekday fob_weekday), (ce_i16 y ob_from fob_from), (ce_i16 y ob_to fob_to), (ce_i16 y ob_came fob_came), (ce_i16 y ob_bride fob_bride), (ce_i16 y ob_told fob_told), (ce_X7 o1 o1_houses o1_fresh o1_introducers o1_x o1_y o1_rank o1_weekday o1_from o1_to o1_came o1_bride o1_told), (ce_i16 y o1_x fo1_x), (ce_i16 y o1_y fo1_y), (ce_i16 y o1_rank fo1_rank), (ce_i16 y o1_weekday fo1_weekday), (ce_i16 y o1_from fo1_from), (ce_i16 y o1_to fo1_to), (ce_i16 y o1_came fo1_came), (ce_i16 y o1_bride fo1_bride), (ce_i16 y o1_told fo1_told)])) (va_Qv (fun (w : va_W) => (∃ (f_19 : Nat → Int32) (f_20 : Nat → Int32) (f_21 : Nat → Int32) (f_22 : Nat → Int32) (f_23 : Nat → Int32) (f_24 : Nat → Int32) (f_25 : Nat → Int32) (f_26 : Nat → Int32) (f_27 : Nat → Int32), w = [(ce_X7 ob o1_houses o1_fresh o1_introducers ob_x ob_y ob_rank ob_weekday ob_from ob_to ob_came ob_bride ob_told), (ce_i16 y ob_x f_19), (ce_i16 y ob_y f_20), (ce_i16 y ob_rank f_21), (ce_i16 y ob_weekday f_22), (ce_i16 y ob_from f_23), (ce_i16 y ob_to f_24), (ce_i16 y ob_came f_25), (ce_i16 y ob_bride f_26), (ce_i16 y ob_told f_27), (ce_X7 o1 o1_houses o1_fresh o1_introducers o1_x o1_y o1_rank o1_weekday o1_from o1_to o1_came o1_bride o1_told), (ce_i16 y o1_x fo1_x), (ce_i16 y o1_y fo1_y), (ce_i16 y o1_rank fo1_rank), (ce_i16 y o1_weekday fo1_weekday), (ce_i16 y o1_from fo1_from), (ce_i16 y o1_to fo1_to), (ce_i16 y o1_came fo1_came), (ce_i16 y o1_bride fo1_bride), (ce_i16 y o1_told fo1_told)])) (kq G (va_A [(ce_X7 ob ob_houses ob_fresh ob_introducers ob_x ob_y ob_rank ob_weekday ob_from ob_to ob_came ob_bride ob_told), (ce_i16 y ob_x fob_x), (ce_i16 y ob_y fob_y), (ce_i16 y ob_rank fob_rank), (ce_i16 y ob_weekday fob_weekday), (ce_i16 y ob_from fob_from), (ce_i16 y ob_to fob_to), (ce_i16 y ob_came fob_came), (ce_i16 y ob_bride fob_bride), (ce_i16 y ob_told fob_told), (ce_X7 o1 o1_houses o1_fresh o1_introducers o1_x o1_y o1_rank o1_weekday o1_from o1_to o1_came o1_bride o1_told), (ce_i16 y o1_x fo1_x), (ce_i16 y o1_y fo1_y), (ce_i16 y o1_rank fo1_rank), (ce_i16 y o1_weekday fo1_weekday), (ce_i16 y o1_from fo1_from), (ce_i16 y o1_to fo1_to), (ce_i16 y o1_came fo1_came), (ce_i16 y o1_bride fo1_bride), (ce_i16 y o1_told fo1_told)] sz)) (va_A [(ce_X7 ob ob_houses ob_fresh ob_introducers ob_x ob_y ob_rank ob_weekday ob_from ob_to ob_came ob_bride ob_told), (ce_i16 y ob_x fob_x), (ce_i16 y ob_y fob_y), (ce_i16 y ob_rank fob_rank), (ce_i16 y ob_weekday fob_weekday), (ce_i16 y ob_from fob_from), (ce_i16 y ob_to fob_to), (ce_i16 y ob_came fob_came), (ce_i16 y ob_bride fob_bride), (ce_i16 y ob_told fob_told), (ce_X7 o1 o1_houses o1_fresh o1_introducers o1_x o1_y o1_rank o1_weekday o1_from o1_to o1_came o1_bride o1_told), (ce_i16 y o1_x fo1_x), (ce_i16 y o1_y fo1_y), (ce_i16 y o1_rank fo1_rank), (ce_i16 y o1_weekday fo1_weekday), (ce_i16 y o1_from fo1_from), (ce_i16 y o1_to fo1_to), (ce_i16 y o1_came fo1_came), (ce_i16 y o1_bride fo1_bride), (ce_i16 y o1_told fo1_told)] sz)) 0 0 (va_A [(ce_X7 ob ob_houses ob_fresh ob_introducers ob_x ob_y ob_rank ob_weekday ob_from ob_to ob_came ob_bride ob_told), (ce_i16 y ob_x fob_x), (ce_i16 y ob_y fob_y), (ce_i16 y ob_rank fob_rank), (ce_i16 y ob_weekday fob_weekday), (ce_i16 y ob_from fob_from), (ce_i16 y ob_to fob_to), (ce_i16 y ob_came fob_came), (ce_i16 y ob_bride fob_bride), (ce_i16 y ob_told fob_told), (ce_X7 o1 o1_houses o1_fresh o1_introducers o1_x o1_y o1_rank o1_weekday o1_from o1_to o1_came o1_bride o1_told), (ce_i16 y o1_x fo1_x), (ce_i16 y o1_y fo1_y), (ce_i16 y o1_rank fo1_rank), (ce_i16 y o1_weekday fo1_weekday), (ce_i16 y o1_from fo1_from), (ce_i16 y o1_to fo1_to), (ce_i16 y o1_came fo1_came), (ce_i16 y o1_bride fo1_bride), (ce_i16 y o1_told fo1_told)] sz) := by
  refine Met.ofW (cc := cX7_copy) (maxL := 2) (ret := none) (by decide) rfl ?_
  intro p e s m args below meth c s₁ B hml hv
  obtain ⟨rfl, hsz, hP, hK, hD0⟩ := hv
  have hx := B.exec
  have hb := B.bytes
  have hr := B.returns
  have hw0 : ∀ w ∈ wAll, w.before _ s = true := fun w h => atoms_spec (ws := Cond.code yX7_copy cX7_copy 2 none :: wAll) B.pre w (List.mem_cons_of_mem _ h)
  have hown : s.vm.findClass RX7 = some m.cls := findClass_of_methodNamed B.named
  subst hsz
  have hD := hD0.self (sz := s.heap.size)
  generalize hAe : va_A [(ce_X7 ob ob_houses ob_fresh ob_introducers ob_x ob_y ob_rank ob_weekday ob_from ob_to ob_came ob_bride ob_told), (ce_i16 y ob_x fob_x), (ce_i16 y ob_y fob_y), (ce_i16 y ob_rank fob_rank), (ce_i16 y ob_weekday fob_weekday), (ce_i16 y ob_from fob_from), (ce_i16 y ob_to fob_to), (ce_i16 y ob_came fob_came), (ce_i16 y ob_bride fob_bride), (ce_i16 y ob_told fob_told), (ce_X7 o1 o1_houses o1_fresh o1_introducers o1_x o1_y o1_rank o1_weekday o1_from o1_to o1_came o1_bride o1_told), (ce_i16 y o1_x fo1_x), (ce_i16 y o1_y fo1_y), (ce_i16 y o1_rank fo1_rank), (ce_i16 y o1_weekday fo1_weekday), (ce_i16 y o1_from fo1_from), (ce_i16 y o1_to fo1_to), (ce_i16 y o1_came fo1_came), (ce_i16 y o1_bride fo1_bride), (ce_i16 y o1_told fo1_told)] s.heap.size = A at hD ⊢
  have hA : ∀ q : Nat, s.heap.size ≤ q → A q := fun q h => by rw [← hAe]; exact Or.inr h
  have hS : va_S A s.heap s.heap [] := va_S.rf
  have hP : va_P G vwCl [(ce_X7 ob ob_houses ob_fresh ob_introducers ob_x ob_y ob_rank ob_weekday ob_from ob_to ob_came ob_bride ob_told), (ce_i16 y ob_x fob_x), (ce_i16 y ob_y fob_y), (ce_i16 y ob_rank fob_rank), (ce_i16 y ob_weekday fob_weekday), (ce_i16 y ob_from fob_from), (ce_i16 y ob_to fob_to), (ce_i16 y ob_came fob_came), (ce_i16 y ob_bride fob_bride), (ce_i16 y ob_told fob_told), (ce_X7 o1 o1_houses o1_fresh o1_introducers o1_x o1_y o1_rank o1_weekday o1_from o1_to o1_came o1_bride o1_told), (ce_i16 y o1_x fo1_x), (ce_i16 y o1_y fo1_y), (ce_i16 y o1_rank fo1_rank), (ce_i16 y o1_weekday fo1_weekday), (ce_i16 y o1_from fo1_from), (ce_i16 y o1_to fo1_to), (ce_i16 y o1_came fo1_came), (ce_i16 y o1_bride fo1_bride), (ce_i16 y o1_told fo1_told)] s.heap := hP
  have hl := lv_entry ([.ref ob, .ref o1]) (n := 2) (Nat.le_of_ble_eq_true rfl)
  rw [lg_entry_eq]
  generalize (lg_sl ([.ref ob, .ref o1]) ++ List.replicate (2 - (lg_sl ([.ref ob, .ref o1])).length) Slot.unset).toArray = ls at hl ⊢
  have hl : lv_has ls 2 [(0, .ref ob), (1, .ref o1)] := hl
  refine lv_aload_n hx hb dX7_copy_0 rfl (lv_at hl 0 rfl) ?_
  refine lv_aload_n hx hb dX7_copy_1 rfl (lv_at hl 1 rfl) ?_
  refine va_get (D := G) (ci := 7) (v := .int o1_houses) (C := RX7) (T := TX7) (N := 12) hx hb hw0 inA_wsX70 hown hK.1 hP 10 rfl rfl 0 (by decide) (hw0 _ m_1060) (fun _ h9 => h9) rfl dX7_copy_2 ?_
  refine va_put (D := G) (ci := 7) (v := .int o1_houses) (ty := .int) (C := RX7) (T := TX7) (N := 12) hx hb hw0 inA_wsX70 tyX7 tyX7_ok nmX7 hown hK.1 hP hD hS 0 rfl rfl 0 (by decide) (hw0 _ m_1060) (fun _ h9 => h9) rfl fd_X7_0 rfl rfl (Nat.le_of_ble_eq_true rfl) dX7_copy_5 (fun H locs hP hD hS => ?_)
  obtain ⟨hP, hD⟩ : vPD G A H [(ce_X7 ob o1_houses ob_fresh ob_introducers ob_x ob_y ob_rank ob_weekday ob_from ob_to ob_came ob_bride ob_told), (ce_i16 y ob_x fob_x), (ce_i16 y ob_y fob_y), (ce_i16 y ob_rank fob_rank), (ce_i16 y ob_weekday fob_weekday), (ce_i16 y ob_from fob_from), (ce_i16 y ob_to fob_to), (ce_i16 y ob_came fob_came), (ce_i16 y ob_bride fob_bride), (ce_i16 y ob_told fob_told), (ce_X7 o1 o1_houses o1_fresh o1_introducers o1_x o1_y o1_rank o1_weekday o1_from o1_to o1_came o1_bride o1_told), (ce_i16 y o1_x fo1_x), (ce_i16 y o1_y fo1_y), (ce_i16 y o1_rank fo1_rank), (ce_i16 y o1_weekday fo1_weekday), (ce_i16 y o1_from fo1_from), (ce_i16 y o1_to fo1_to), (ce_i16 y o1_came fo1_came), (ce_i16 y o1_bride fo1_bride), (ce_i16 y o1_told fo1_told)] := ⟨hP, hD⟩
  refine lv_aload_n hx hb dX7_copy_8 rfl (lv_at hl 0 rfl) ?_
  refine lv_aload_n hx hb dX7_copy_9 rfl (lv_at hl 1 rfl) ?_
  refine va_get (D := G) (ci := 7) (v := .int o1_fresh) (C := RX7) (T := TX7) (N := 12) hx hb hw0 inA_wsX70 hown hK.1 hP 10 rfl rfl 1 (by decide) (hw0 _ m_1061) (fun _ h9 => h9) rfl dX7_copy_10 ?_
  refine va_put (D := G) (ci := 7) (v := .int o1_fresh) (ty := .int) (C := RX7) (T := TX7) (N := 12) hx hb hw0 inA_wsX70 tyX7 tyX7_ok nmX7 hown hK.1 hP hD hS 0 rfl rfl 1 (by decide) (hw0 _ m_1061) (fun _ h9 => h9) rfl fd_X7_1 rfl rfl (Nat.le_of_ble_eq_true rfl) dX7_copy_13 (fun H locs hP hD hS => ?_)
  obtain ⟨hP, hD⟩ : vPD G A H [(ce_X7 ob o1_houses o1_fresh ob_introducers ob_x ob_y ob_rank ob_weekday ob_from ob_to ob_came ob_bride ob_told), (ce_i16 y ob_x fob_x), (ce_i16 y ob_y fob_y), (ce_i16 y ob_rank fob_rank), (ce_i16 y ob_weekday fob_weekday), (ce_i16 y ob_from fob_from), (ce_i16 y ob_to fob_to), (ce_i16 y ob_came fob_came), (ce_i16 y ob_bride fob_bride), (ce_i16 y ob_told fob_told), (ce_X7 o1 o1_houses o1_fresh o1_introducers o1_x o1_y o1_rank o1_weekday o1_from o1_to o1_came o1_bride o1_told), (ce_i16 y o1_x fo1_x), (ce_i16 y o1_y fo1_y), (ce_i16 y o1_rank fo1_rank), (ce_i16 y o1_weekday fo1_weekday), (ce_i16 y o1_from fo1_from), (ce_i16 y o1_to fo1_to), (ce_i16 y o1_came fo1_came), (ce_i16 y o1_bride fo1_bride), (ce_i16 y o1_told fo1_told)] := ⟨hP, hD⟩
  refine lv_aload_n hx hb dX7_copy_16 rfl (lv_at hl 0 rfl) ?_
  refine lv_aload_n hx hb dX7_copy_17 rfl (lv_at hl 1 rfl) ?_
  refine va_get (D := G) (ci := 7) (v := .int o1_introducers) (C := RX7) (T := TX7) (N := 12) hx hb hw0 inA_wsX70 hown hK.1 hP 10 rfl rfl 2 (by decide) (hw0 _ m_1062) (fun _ h9 => h9) rfl dX7_copy_18 ?_
  refine va_put (D := G) (ci := 7) (v := .int o1_introducers) (ty := .int) (C := RX7) (T := TX7) (N := 12) hx hb hw0 inA_wsX70 tyX7 tyX7_ok nmX7 hown hK.1 hP hD hS 0 rfl rfl 2 (by decide) (hw0 _ m_1062) (fun _ h9 => h9) rfl fd_X7_2 rfl rfl (Nat.le_of_ble_eq_true rfl) dX7_copy_21 (fun H locs hP hD hS => ?_)
  obtain ⟨hP, hD⟩ : vPD G A H [(ce_X7 ob o1_houses o1_fresh o1_introducers ob_x ob_y ob_rank ob_weekday ob_from ob_to ob_came ob_bride ob_told), (ce_i16 y ob_x fob_x), (ce_i16 y ob_y fob_y), (ce_i16 y ob_rank fob_rank), (ce_i16 y ob_weekday fob_weekday), (ce_i16 y ob_from fob_from), (ce_i16 y ob_to fob_to), (ce_i16 y ob_came fob_came), (ce_i16 y ob_bride fob_bride), (ce_i16 y ob_told fob_told), (ce_X7 o1 o1_houses o1_fresh o1_introducers o1_x o1_y o1_rank o1_weekday o1_from o1_to o1_came o1_bride o1_told), (ce_i16 y o1_x fo1_x), (ce_i16 y o1_y fo1_y), (ce_i16 y o1_rank fo1_rank), (ce_i16 y o1_weekday fo1_weekday), (ce_i16 y o1_from fo1_from), (ce_i16 y o1_to fo1_to), (ce_i16 y o1_came fo1_came), (ce_i16 y o1_bride fo1_bride), (ce_i16 y o1_told fo1_told)] := ⟨hP, hD⟩
  refine lv_aload_n hx hb dX7_copy_24 rfl (lv_at hl 1 rfl) ?_
  refine va_get (D := G) (ci := 7) (v := .ref o1_x) (C := RX7) (T := TX7) (N := 12) hx hb hw0 inA_wsX70 hown hK.1 hP 10 rfl rfl 3 (by decide) (hw0 _ m_1066) (fun _ h9 => h9) rfl dX7_copy_25 ?_
  refine lv_iconst (v := 0) hx hb dX7_copy_28 (by decide) ?_
  refine lv_aload_n hx hb dX7_copy_29 rfl (lv_at hl 0 rfl) ?_
  refine va_get (D := G) (ci := 7) (v := .ref ob_x) (C := RX7) (T := TX7) (N := 12) hx hb hw0 inA_wsX70 hown hK.1 hP 0 rfl rfl 3 (by decide) (hw0 _ m_1066) (fun _ h9 => h9) rfl dX7_copy_30 ?_
  refine lv_iconst (v := 0) hx hb dX7_copy_33 (by decide) ?_
  refine lv_bipush (v := 16) hx hb dX7_copy_34 (by decide) ?_
  refine va_copyi (own := RX7) hx hb (by rw [hml]; exact hl.1.symm) hown (hw0 _ m_1067) (hw0 _ m_272) (hw0 _ m_273) (hw0 _ m_274) hK.1 hP hD hS 11 1 1 1 rfl rfl rfl rfl rfl (by decide) (by decide) (by decide) (by decide) (by decide) (fun i hi => rfl) (Nat.le_of_ble_eq_true rfl) (by decide) dX7_copy_36 (fun H locs hP hD hS => ?_)
  generalize hf_1001 : (va_cpy fo1_x fob_x (0 : Int32).toNatClampNeg (0 : Int32).toNatClampNeg (16 : Int32).toNatClampNeg) = f_1001 at hP hD
  obtain ⟨hP, hD⟩ : vPD G A H [(ce_X7 ob o1_houses o1_fresh o1_introducers ob_x ob_y ob_rank ob_weekday ob_from ob_to ob_came ob_bride ob_told), (ce_i16 y ob_x f_1001), (ce_i16 y ob_y fob_y), (ce_i16 y ob_rank fob_rank), (ce_i16 y ob_weekday fob_weekday), (ce_i16 y ob_from fob_from), (ce_i16 y ob_to fob_to), (ce_i16 y ob_came fob_came), (ce_i16 y ob_bride fob_bride), (ce_i16 y ob_told fob_told), (ce_X7 o1 o1_houses o1_fresh o1_introducers o1_x o1_y o1_rank o1_weekday o1_from o1_to o1_came o1_bride o1_told), (ce_i16 y o1_x fo1_x), (ce_i16 y o1_y fo1_y), (ce_i16 y o1_rank fo1_rank), (ce_i16 y o1_weekday fo1_weekday), (ce_i16 y o1_from fo1_from), (ce_i16 y o1_to fo1_to), (ce_i16 y o1_came fo1_came), (ce_i16 y o1_bride fo1_bride), (ce_i16 y o1_told fo1_told)] := ⟨hP, hD⟩
  refine lv_aload_n hx hb dX7_copy_39 rfl (lv_at hl 1 rfl) ?_
  refine va_get (D := G) (ci := 7) (v := .ref o1_y) (C := RX7) (T := TX7) (N := 12) hx hb hw0 inA_wsX70 hown hK.1 hP 10 rfl rfl 4 (by decide) (hw0 _ m_1068) (fun _ h9 => h9) rfl dX7_copy_40 ?_
  refine lv_iconst (v := 0) hx hb dX7_copy_43 (by decide) ?_
  refine lv_aload_n hx hb dX7_copy_44 rfl (lv_at hl 0 rfl) ?_
  refine va_get (D := G) (ci := 7) (v := .ref ob_y) (C := RX7) (T := TX7) (N := 12) hx hb hw0 inA_wsX70 hown hK.1 hP 0 rfl rfl 4 (by decide) (hw0 _ m_1068) (fun _ h9 => h9) rfl dX7_copy_45 ?_
  refine lv_iconst (v := 0) hx hb dX7_copy_48 (by decide) ?_
  refine lv_bipush (v := 16) hx hb dX7_copy_49 (by decide) ?_
  refine va_copyi (own := RX7) hx hb (by rw [hml]; exact hl.1.symm) hown (hw0 _ m_1067) (hw0 _ m_272) (hw0 _ m_273) (hw0 _ m_274) hK.1 hP hD hS 12 2 1 1 rfl rfl rfl rfl rfl (by decide) (by decide) (by decide) (by decide) (by decide) (fun i hi => rfl) (Nat.le_of_ble_eq_true rfl) (by decide) dX7_copy_51 (fun H locs hP hD hS => ?_)
  generalize hf_1002 : (va_cpy fo1_y fob_y (0 : Int32).toNatClampNeg (0 : Int32).toNatClampNeg (16 : Int32).toNatClampNeg) = f_1002 at hP hD
  obtain ⟨hP, hD⟩ : vPD G A H [(ce_X7 ob o1_houses o1_fresh o1_introducers ob_x ob_y ob_rank ob_weekday ob_from ob_to ob_came ob_bride ob_told), (ce_i16 y ob_x f_1001), (ce_i16 y ob_y f_1002), (ce_i16 y ob_rank fob_rank), (ce_i16 y ob_weekday fob_weekday), (ce_i16 y ob_from fob_from), (ce_i16 y ob_to fob_to), (ce_i16 y ob_came fob_came), (ce_i16 y ob_bride fob_bride), (ce_i16 y ob_told fob_told), (ce_X7 o1 o1_houses o1_fresh o1_introducers o1_x o1_y o1_rank o1_weekday o1_from o1_to o1_came o1_bride o1_told), (ce_i16 y o1_x fo1_x), (ce_i16 y o1_y fo1_y), (ce_i16 y o1_rank fo1_rank), (ce_i16 y o1_weekday fo1_weekday), (ce_i16 y o1_from fo1_from), (ce_i16 y o1_to fo1_to), (ce_i16 y o1_came fo1_came), (ce_i16 y o1_bride fo1_bride), (ce_i16 y o1_told fo1_told)] := ⟨hP, hD⟩
  refine lv_aload_n hx hb dX7_copy_54 rfl (lv_at hl 1 rfl) ?_
  refine va_get (D := G) (ci := 7) (v := .ref o1_rank) (C := RX7) (T := TX7) (N := 12) hx hb hw0 inA_wsX70 hown hK.1 hP 10 rfl rfl 5 (by decide) (hw0 _ m_1069) (fun _ h9 => h9) rfl dX7_copy_55 ?_
  refine lv_iconst (v := 0) hx hb dX7_copy_58 (by decide) ?_
  refine lv_aload_n hx hb dX7_copy_59 rfl (lv_at hl 0 rfl) ?_
  refine va_get (D := G) (ci := 7) (v := .ref ob_rank) (C := RX7) (T := TX7) (N := 12) hx hb hw0 inA_wsX70 hown hK.1 hP 0 rfl rfl 5 (by decide) (hw0 _ m_1069) (fun _ h9 => h9) rfl dX7_copy_60 ?_
  refine lv_iconst (v := 0) hx hb dX7_copy_63 (by decide) ?_
  refine lv_bipush (v := 16) hx hb dX7_copy_64 (by decide) ?_
  refine va_copyi (own := RX7) hx hb (by rw [hml]; exact hl.1.symm) hown (hw0 _ m_1067) (hw0 _ m_272) (hw0 _ m_273) (hw0 _ m_274) hK.1 hP hD hS 13 3 1 1 rfl rfl rfl rfl rfl (by decide) (by decide) (by decide) (by decide) (by decide) (fun i hi => rfl) (Nat.le_of_ble_eq_true rfl) (by decide) dX7_copy_66 (fun H locs hP hD hS => ?_)
  generalize hf_1003 : (va_cpy fo1_rank fob_rank (0 : Int32).toNatClampNeg (0 : Int32).toNatClampNeg (16 : Int32).toNatClampNeg) = f_1003 at hP hD
  obtain ⟨hP, hD⟩ : vPD G A H [(ce_X7 ob o1_houses o1_fresh o1_introducers ob_x ob_y ob_rank ob_weekday ob_from ob_to ob_came ob_bride ob_told), (ce_i16 y ob_x f_1001), (ce_i16 y ob_y f_1002), (ce_i16 y ob_rank f_1003), (ce_i16 y ob_weekday fob_weekday), (ce_i16 y ob_from fob_from), (ce_i16 y ob_to fob_to), (ce_i16 y ob_came fob_came), (ce_i16 y ob_bride fob_bride), (ce_i16 y ob_told fob_told), (ce_X7 o1 o1_houses o1_fresh o1_introducers o1_x o1_y o1_rank o1_weekday o1_from o1_to o1_came o1_bride o1_told), (ce_i16 y o1_x fo1_x), (ce_i16 y o1_y fo1_y), (ce_i16 y o1_rank fo1_rank), (ce_i16 y o1_weekday fo1_weekday), (ce_i16 y o1_from fo1_from), (ce_i16 y o1_to fo1_to), (ce_i16 y o1_came fo1_came), (ce_i16 y o1_bride fo1_bride), (ce_i16 y o1_told fo1_told)] := ⟨hP, hD⟩
  refine lv_aload_n hx hb dX7_copy_69 rfl (lv_at hl 1 rfl) ?_
  refine va_get (D := G) (ci := 7) (v := .ref o1_weekday) (C := RX7) (T := TX7) (N := 12) hx hb hw0 inA_wsX70 hown hK.1 hP 10 rfl rfl 6 (by decide) (hw0 _ m_1070) (fun _ h9 => h9) rfl dX7_copy_70 ?_
  refine lv_iconst (v := 0) hx hb dX7_copy_73 (by decide) ?_
  refine lv_aload_n hx hb dX7_copy_74 rfl (lv_at hl 0 rfl) ?_
  refine va_get (D := G) (ci := 7) (v := .ref ob_weekday) (C := RX7) (T := TX7) (N := 12) hx hb hw0 inA_wsX70 hown hK.1 hP 0 rfl rfl 6 (by decide) (hw0 _ m_1070) (fun _ h9 => h9) rfl dX7_copy_75 ?_
  refine lv_iconst (v := 0) hx hb dX7_copy_78 (by decide) ?_
  refine lv_bipush (v := 16) hx hb dX7_copy_79 (by decide) ?_
  refine va_copyi (own := RX7) hx hb (by rw [hml]; exact hl.1.symm) hown (hw0 _ m_1067) (hw0 _ m_272) (hw0 _ m_273) (hw0 _ m_274) hK.1 hP hD hS 14 4 1 1 rfl rfl rfl rfl rfl (by decide) (by decide) (by decide) (by decide) (by decide) (fun i hi => rfl) (Nat.le_of_ble_eq_true rfl) (by decide) dX7_copy_81 (fun H locs hP hD hS => ?_)
  generalize hf_1004 : (va_cpy fo1_weekday fob_weekday (0 : Int32).toNatClampNeg (0 : Int32).toNatClampNeg (16 : Int32).toNatClampNeg) = f_1004 at hP hD
  obtain ⟨hP, hD⟩ : vPD G A H [(ce_X7 ob o1_houses o1_fresh o1_introducers ob_x ob_y ob_rank ob_weekday ob_from ob_to ob_came ob_bride ob_told), (ce_i16 y ob_x f_1001), (ce_i16 y ob_y f_1002), (ce_i16 y ob_rank f_1003), (ce_i16 y ob_weekday f_1004), (ce_i16 y ob_from fob_from), (ce_i16 y ob_to fob_to), (ce_i16 y ob_came fob_came), (ce_i16 y ob_bride fob_bride), (ce_i16 y ob_told fob_told), (ce_X7 o1 o1_houses o1_fresh o1_introducers o1_x o1_y o1_rank o1_weekday o1_from o1_to o1_came o1_bride o1_told), (ce_i16 y o1_x fo1_x), (ce_i16 y o1_y fo1_y), (ce_i16 y o1_rank fo1_rank), (ce_i16 y o1_weekday fo1_weekday), (ce_i16 y o1_from fo1_from), (ce_i16 y o1_to fo1_to), (ce_i16 y o1_came fo1_came), (ce_i16 y o1_bride fo1_bride), (ce_i16 y o1_told fo1_told)] := ⟨hP, hD⟩
  refine lv_aload_n hx hb dX7_copy_84 rfl (lv_at hl 1 rfl) ?_
  refine va_get (D := G) (ci := 7) (v := .ref o1_from) (C := RX7) (T := TX7) (N := 12) hx hb hw0 inA_wsX70 hown hK.1 hP 10 rfl rfl 7 (by decide) (hw0 _ m_1071) (fun _ h9 => h9) rfl dX7_copy_85 ?_
  refine lv_iconst (v := 0) hx hb dX7_copy_88 (by decide) ?_
  refine lv_aload_n hx hb dX7_copy_89 rfl (lv_at hl 0 rfl) ?_
  refine va_get (D := G) (ci := 7) (v := .ref ob_from) (C := RX7) (T := TX7) (N := 12) hx hb hw0 inA_wsX70 hown hK.1 hP 0 rfl rfl 7 (by decide) (hw0 _ m_1071) (fun _ h9 => h9) rfl dX7_copy_90 ?_
  refine lv_iconst (v := 0) hx hb dX7_copy_93 (by decide) ?_
  refine lv_bipush (v := 16) hx hb dX7_copy_94 (by decide) ?_
  refine va_copyi (own := RX7) hx hb (by rw [hml]; exact hl.1.symm) hown (hw0 _ m_1067) (hw0 _ m_272) (hw0 _ m_273) (hw0 _ m_274) hK.1 hP hD hS 15 5 1 1 rfl rfl rfl rfl rfl (by decide) (by decide) (by decide) (by decide) (by decide) (fun i hi => rfl) (Nat.le_of_ble_eq_true rfl) (by decide) dX7_copy_96 (fun H locs hP hD hS => ?_)
  generalize hf_1005 : (va_cpy fo1_from fob_from (0 : Int32).toNatClampNeg (0 : Int32).toNatClampNeg (16 : Int32).toNatClampNeg) = f_1005 at hP hD
  obtain ⟨hP, hD⟩ : vPD G A H [(ce_X7 ob o1_houses o1_fresh o1_introducers ob_x ob_y ob_rank ob_weekday ob_from ob_to ob_came ob_bride ob_told), (ce_i16 y ob_x f_1001), (ce_i16 y ob_y f_1002), (ce_i16 y ob_rank f_1003), (ce_i16 y ob_weekday f_1004), (ce_i16 y ob_from f_1005), (ce_i16 y ob_to fob_to), (ce_i16 y ob_came fob_came), (ce_i16 y ob_bride fob_bride), (ce_i16 y ob_told fob_told), (ce_X7 o1 o1_houses o1_fresh o1_introducers o1_x o1_y o1_rank o1_weekday o1_from o1_to o1_came o1_bride o1_told), (ce_i16 y o1_x fo1_x), (ce_i16 y o1_y fo1_y), (ce_i16 y o1_rank fo1_rank), (ce_i16 y o1_weekday fo1_weekday), (ce_i16 y o1_from fo1_from), (ce_i16 y o1_to fo1_to), (ce_i16 y o1_came fo1_came), (ce_i16 y o1_bride fo1_bride), (ce_i16 y o1_told fo1_told)] := ⟨hP, hD⟩
  refine lv_aload_n hx hb dX7_copy_99 rfl (lv_at hl 1 rfl) ?_
  refine va_get (D := G) (ci := 7) (v := .ref o1_to) (C := RX7) (T := TX7) (N := 12) hx hb hw0 inA_wsX70 hown hK.1 hP 10 rfl rfl 8 (by decide) (hw0 _ m_1072) (fun _ h9 => h9) rfl dX7_copy_100 ?_
  refine lv_iconst (v := 0) hx hb dX7_copy_103 (by decide) ?_
  refine lv_aload_n hx hb dX7_copy_104 rfl (lv_at hl 0 rfl) ?_
  refine va_get (D := G) (ci := 7) (v := .ref ob_to) (C := RX7) (T := TX7) (N := 12) hx hb hw0 inA_wsX70 hown hK.1 hP 0 rfl rfl 8 (by decide) (hw0 _ m_1072) (fun _ h9 => h9) rfl dX7_copy_105 ?_
  refine lv_iconst (v := 0) hx hb dX7_copy_108 (by decide) ?_
  refine lv_bipush (v := 16) hx hb dX7_copy_109 (by decide) ?_
  refine va_copyi (own := RX7) hx hb (by rw [hml]; exact hl.1.symm) hown (hw0 _ m_1067) (hw0 _ m_272) (hw0 _ m_273) (hw0 _ m_274) hK.1 hP hD hS 16 6 1 1 rfl rfl rfl rfl rfl (by decide) (by decide) (by decide) (by decide) (by decide) (fun i hi => rfl) (Nat.le_of_ble_eq_true rfl) (by decide) dX7_copy_111 (fun H locs hP hD hS => ?_)
  generalize hf_1006 : (va_cpy fo1_to fob_to (0 : Int32).toNatClampNeg (0 : Int32).toNatClampNeg (16 : Int32).toNatClampNeg) = f_1006 at hP hD
  obtain ⟨hP, hD⟩ : vPD G A H [(ce_X7 ob o1_houses o1_fresh o1_introducers ob_x ob_y ob_rank ob_weekday ob_from ob_to ob_came ob_bride ob_told), (ce_i16 y ob_x f_1001), (ce_i16 y ob_y f_1002), (ce_i16 y ob_rank f_1003), (ce_i16 y ob_weekday f_1004), (ce_i16 y ob_from f_1005), (ce_i16 y ob_to f_1006), (ce_i16 y ob_came fob_came), (ce_i16 y ob_bride fob_bride), (ce_i16 y ob_told fob_told), (ce_X7 o1 o1_houses o1_fresh o1_introducers o1_x o1_y o1_rank o1_weekday o1_from o1_to o1_came o1_bride o1_told), (ce_i16 y o1_x fo1_x), (ce_i16 y o1_y fo1_y), (ce_i16 y o1_rank fo1_rank), (ce_i16 y o1_weekday fo1_weekday), (ce_i16 y o1_from fo1_from), (ce_i16 y o1_to fo1_to), (ce_i16 y o1_came fo1_came), (ce_i16 y o1_bride fo1_bride), (ce_i16 y o1_told fo1_told)] := ⟨hP, hD⟩
  refine lv_aload_n hx hb dX7_copy_114 rfl (lv_at hl 1 rfl) ?_
  refine va_get (D := G) (ci := 7) (v := .ref o1_came) (C := RX7) (T := TX7) (N := 12) hx hb hw0 inA_wsX70 hown hK.1 hP 10 rfl rfl 9 (by decide) (hw0 _ m_1073) (fun _ h9 => h9) rfl dX7_copy_115 ?_
  refine lv_iconst (v := 0) hx hb dX7_copy_118 (by decide) ?_
  refine lv_aload_n hx hb dX7_copy_119 rfl (lv_at hl 0 rfl) ?_
  refine va_get (D := G) (ci := 7) (v := .ref ob_came) (C := RX7) (T := TX7) (N := 12) hx hb hw0 inA_wsX70 hown hK.1 hP 0 rfl rfl 9 (by decide) (hw0 _ m_1073) (fun _ h9 => h9) rfl dX7_copy_120 ?_
  refine lv_iconst (v := 0) hx hb dX7_copy_123 (by decide) ?_
  refine lv_bipush (v := 16) hx hb dX7_copy_124 (by decide) ?_
  refine va_copyi (own := RX7) hx hb (by rw [hml]; exact hl.1.symm) hown (hw0 _ m_1067) (hw0 _ m_272) (hw0 _ m_273) (hw0 _ m_274) hK.1 hP hD hS 17 7 1 1 rfl rfl rfl rfl rfl (by decide) (by decide) (by decide) (by decide) (by decide) (fun i hi => rfl) (Nat.le_of_ble_eq_true rfl) (by decide) dX7_copy_126 (fun H locs hP hD hS => ?_)
  generalize hf_1007 : (va_cpy fo1_came fob_came (0 : Int32).toNatClampNeg (0 : Int32).toNatClampNeg (16 : Int32).toNatClampNeg) = f_1007 at hP hD
  obtain ⟨hP, hD⟩ : vPD G A H [(ce_X7 ob o1_houses o1_fresh o1_introducers ob_x ob_y ob_rank ob_weekday ob_from ob_to ob_came ob_bride ob_told), (ce_i16 y ob_x f_1001), (ce_i16 y ob_y f_1002), (ce_i16 y ob_rank f_1003), (ce_i16 y ob_weekday f_1004), (ce_i16 y ob_from f_1005), (ce_i16 y ob_to f_1006), (ce_i16 y ob_came f_1007), (ce_i16 y ob_bride fob_bride), (ce_i16 y ob_told fob_told), (ce_X7 o1 o1_houses o1_fresh o1_introducers o1_x o1_y o1_rank o1_weekday o1_from o1_to o1_came o1_bride o1_told), (ce_i16 y o1_x fo1_x), (ce_i16 y o1_y fo1_y), (ce_i16 y o1_rank fo1_rank), (ce_i16 y o1_weekday fo1_weekday), (ce_i16 y o1_from fo1_from), (ce_i16 y o1_to fo1_to), (ce_i16 y o1_came fo1_came), (ce_i16 y o1_bride fo1_bride), (ce_i16 y o1_told fo1_told)] := ⟨hP, hD⟩
  refine lv_aload_n hx hb dX7_copy_129 rfl (lv_at hl 1 rfl) ?_
  refine va_get (D := G) (ci := 7) (v := .ref o1_bride) (C := RX7) (T := TX7) (N := 12) hx hb hw0 inA_wsX70 hown hK.1 hP 10 rfl rfl 10 (by decide) (hw0 _ m_1074) (fun _ h9 => h9) rfl dX7_copy_130 ?_
  refine lv_iconst (v := 0) hx hb dX7_copy_133 (by decide) ?_
  refine lv_aload_n hx hb dX7_copy_134 rfl (lv_at hl 0 rfl) ?_
  refine va_get (D := G) (ci := 7) (v := .ref ob_bride) (C := RX7) (T := TX7) (N := 12) hx hb hw0 inA_wsX70 hown hK.1 hP 0 rfl rfl 10 (by decide) (hw0 _ m_1074) (fun _ h9 => h9) rfl dX7_copy_135 ?_
  refine lv_iconst (v := 0) hx hb dX7_copy_138 (by decide) ?_
  refine lv_bipush (v := 16) hx hb dX7_copy_139 (by decide) ?_
  refine va_copyi (own := RX7) hx hb (by rw [hml]; exact hl.1.symm) hown (hw0 _ m_1067) (hw0 _ m_272) (hw0 _ m_273) (hw0 _ m_274) hK.1 hP hD hS 18 8 1 1 rfl rfl rfl rfl rfl (by decide) (by decide) (by decide) (by decide) (by decide) (fun i hi => rfl) (Nat.le_of_ble_eq_true rfl) (by decide) dX7_copy_141 (fun H locs hP hD hS => ?_)
  generalize hf_1008 : (va_cpy fo1_bride fob_bride (0 : Int32).toNatClampNeg (0 : Int32).toNatClampNeg (16 : Int32).toNatClampNeg) = f_1008 at hP hD
  obtain ⟨hP, hD⟩ : vPD G A H [(ce_X7 ob o1_houses o1_fresh o1_introducers ob_x ob_y ob_rank ob_weekday ob_from ob_to ob_came ob_bride ob_told), (ce_i16 y ob_x f_1001), (ce_i16 y ob_y f_1002), (ce_i16 y ob_rank f_1003), (ce_i16 y ob_weekday f_1004), (ce_i16 y ob_from f_1005), (ce_i16 y ob_to f_1006), (ce_i16 y ob_came f_1007), (ce_i16 y ob_bride f_1008), (ce_i16 y ob_told fob_told), (ce_X7 o1 o1_houses o1_fresh o1_introducers o1_x o1_y o1_rank o1_weekday o1_from o1_to o1_came o1_bride o1_told), (ce_i16 y o1_x fo1_x), (ce_i16 y o1_y fo1_y), (ce_i16 y o1_rank fo1_rank), (ce_i16 y o1_weekday fo1_weekday), (ce_i16 y o1_from fo1_from), (ce_i16 y o1_to fo1_to), (ce_i16 y o1_came fo1_came), (ce_i16 y o1_bride fo1_bride), (ce_i16 y o1_told fo1_told)] := ⟨hP, hD⟩
  refine lv_aload_n hx hb dX7_copy_144 rfl (lv_at hl 1 rfl) ?_
  refine va_get (D := G) (ci := 7) (v := .ref o1_told) (C := RX7) (T := TX7) (N := 12) hx hb hw0 inA_wsX70 hown hK.1 hP 10 rfl rfl 11 (by decide) (hw0 _ m_1063) (fun _ h9 => h9) rfl dX7_copy_145 ?_
  refine lv_iconst (v := 0) hx hb dX7_copy_148 (by decide) ?_
  refine lv_aload_n hx hb dX7_copy_149 rfl (lv_at hl 0 rfl) ?_
  refine va_get (D := G) (ci := 7) (v := .ref ob_told) (C := RX7) (T := TX7) (N := 12) hx hb hw0 inA_wsX70 hown hK.1 hP 0 rfl rfl 11 (by decide) (hw0 _ m_1063) (fun _ h9 => h9) rfl dX7_copy_150 ?_
  refine lv_iconst (v := 0) hx hb dX7_copy_153 (by decide) ?_
  refine lv_bipush (v := 16) hx hb dX7_copy_154 (by decide) ?_
  refine va_copyi (own := RX7) hx hb (by rw [hml]; exact hl.1.symm) hown (hw0 _ m_1067) (hw0 _ m_272) (hw0 _ m_273) (hw0 _ m_274) hK.1 hP hD hS 19 9 1 1 rfl rfl rfl rfl rfl (by decide) (by decide) (by decide) (by decide) (by decide) (fun i hi => rfl) (Nat.le_of_ble_eq_true rfl) (by decide) dX7_copy_156 (fun H locs hP hD hS => ?_)
  generalize hf_1009 : (va_cpy fo1_told fob_told (0 : Int32).toNatClampNeg (0 : Int32).toNatClampNeg (16 : Int32).toNatClampNeg) = f_1009 at hP hD
  obtain ⟨hP, hD⟩ : vPD G A H [(ce_X7 ob o1_houses o1_fresh o1_introducers ob_x ob_y ob_rank ob_weekday ob_from ob_to ob_came ob_bride ob_told), (ce_i16 y ob_x f_1001), (ce_i16 y ob_y f_1002), (ce_i16 y ob_rank f_1003), (ce_i16 y ob_weekday f_1004), (ce_i16 y ob_from f_1005), (ce_i16 y ob_to f_1006), (ce_i16 y ob_came f_1007), (ce_i16 y ob_bride f_1008), (ce_i16 y ob_told f_1009), (ce_X7 o1 o1_houses o1_fresh o1_introducers o1_x o1_y o1_rank o1_weekday o1_from o1_to o1_came o1_bride o1_told), (ce_i16 y o1_x fo1_x), (ce_i16 y o1_y fo1_y), (ce_i16 y o1_rank fo1_rank), (ce_i16 y o1_weekday fo1_weekday), (ce_i16 y o1_from fo1_from), (ce_i16 y o1_to fo1_to), (ce_i16 y o1_came fo1_came), (ce_i16 y o1_bride fo1_bride), (ce_i16 y o1_told fo1_told)] := ⟨hP, hD⟩
  exact W.vret hx hb hr (fun t ht hW => ⟨⟨_, rfl, ⟨f_1001, f_1002, f_1003, f_1004, f_1005, f_1006, f_1007, f_1008, f_1009, rfl⟩, by rw [ht]; exact hP, hD⟩, hS.F ht⟩) hS.2.2 dX7_copy_159

set_option maxHeartbeats 4000000 in
set_option maxRecDepth 100000 in
theorem sX0_copy (l : Launch) (G : va_G) (y : Nat → ClassId) (sz : Nat) (ob : Nat) (o1 : Nat) (ob_lines : Int32) (ob_used : Int32) (ob_paying : Nat) (ob_kind : Nat) (ob_within : Nat) (ob_start : Nat) (ob_stop : Nat) (ob_tests : Nat) (ob_facts : Nat) (ob_beyond : Int32) (fob_paying : Nat → Int32) (fob_kind : Nat → Int32) (fob_within : Nat → Int32) (fob_start : Nat → Int32) (fob_stop : Nat → Int32) (fob_tests : Nat → Int32) (o1_lines : Int32) (o1_used : Int32) (o1_paying : Nat) (o1_kind : Nat) (o1_within : Nat) (o1_start : Nat) (o1_stop : Nat) (o1_tests : Nat) (o1_facts : Nat) (o1_beyond : Int32) (fo1_paying : Nat → Int32) (fo1_kind : Nat → Int32) (fo1_within : Nat → Int32) (fo1_start : Nat → Int32) (fo1_stop : Nat → Int32) (fo1_tests : Nat → Int32) (p_ob_lines : (0 : Int) ≤ ob_lines.toInt ∧ ob_lines.toInt ≤ 24) (p_ob_used : (0 : Int) ≤ ob_used.toInt ∧ ob_used.toInt ≤ 700) (p_fob_start : ∀ i, (0 : Int) ≤ (fob_start i).toInt ∧ (fob_start i).toInt ≤ 700) (p_fob_stop : ∀ i, (0 : Int) ≤ (fob_stop i).toInt ∧ (fob_stop i).toInt ≤ 700) (p_ob_beyond : (0 : Int) ≤ ob_beyond.toInt ∧ ob_beyond.toInt ≤ 1) (p_o1_lines : (0 : Int) ≤ o1_lines.toInt ∧ o1_lines.toInt ≤ 24) (p_o1_used : (0 : Int) ≤ o1_used.toInt ∧ o1_used.toInt ≤ 700) (p_fo1_start : ∀ i, (0 : Int) ≤ (fo1_start i).toInt ∧ (fo1_start i).toInt ≤ 700) (p_fo1_stop : ∀ i, (0 : Int) ≤ (fo1_stop i).toInt ∧ (fo1_stop i).toInt ≤ 700) (p_o1_beyond : (0 : Int) ≤ o1_beyond.toInt ∧ o1_beyond.toInt ≤ 1) : Met l yX0_copy (Cond.code yX0_copy cX0_copy 2 none :: wAll) ({ frames := 1, cells := 0, slots := 0, locals := 72 }) (va_Pc [.ref ob, .ref o1] (kp G y sz [(ce_X0 ob ob_lines ob_used ob_paying ob_kind ob_within ob_start ob_stop ob_tests ob_facts ob_beyond), (ce_i24 y ob_paying fob_paying), (ce_i24 y ob_kind fob_kind), (ce_i24 y ob_within fob_within), (ce_i24 y ob_start fob_start), (ce_i24 y ob_stop fob_stop), (ce_i700 y ob_tests fob_tests), (ce_X0 o1 o1_lines o1_used o1_paying o1_kind o1_within o1_start o1_stop o1_tests o1_facts o1_beyond), (ce_i24 y o1_paying fo1_paying), (ce_i24 y o1_kind fo1_kind), (ce_i24 y o1_within fo1_within), (ce_i24 y o1_start fo1_start), (ce_i24 y o1_stop fo1_stop), (ce_i700 y o1_tests fo1_tests)])) (va_Qv (fun (w : va_W) => (∃ (f_13 : Nat → Int32) (f_14 : Nat → Int32) (f_15 : Nat → Int32) (f_16 : Nat → Int32) (f_17 : Nat → Int32) (f_18 : Nat → Int32), (∀ i, (0 : Int) ≤ (f_16 i).toInt ∧ (f_16 i).toInt ≤ 700) ∧ (∀ i, (0 : Int) ≤ (f_17 i).toInt ∧ (f_17 i).toInt ≤ 700) ∧ w = [(ce_X0 ob o1_lines o1_used ob_paying ob_kind ob_within ob_start ob_stop ob_tests ob_facts ob_beyond), (ce_i24 y ob_paying f_13), (ce_i24 y ob_kind f_14), (ce_i24 y ob_within f_15), (ce_i24 y ob_start f_16), (ce_i24 y ob_stop f_17), (ce_i700 y ob_tests f_18), (ce_X0 o1 o1_lines o1_used o1_paying o1_kind o1_within o1_start o1_stop o1_tests o1_facts o1_beyond), (ce_i24 y o1_paying fo1_paying), (ce_i24 y o1_kind fo1_kind), (ce_i24 y o1_within fo1_within), (ce_i24 y o1_start fo1_start), (ce_i24 y o1_stop fo1_stop), (ce_i700 y o1_tests fo1_tests)])) (kq G (va_A [(ce_X0 ob ob_lines ob_used ob_paying ob_kind ob_within ob_start ob_stop ob_tests ob_facts ob_beyond), (ce_i24 y ob_paying fob_paying), (ce_i24 y ob_kind fob_kind), (ce_i24 y ob_within fob_within), (ce_i24 y ob_start fob_start), (ce_i24 y ob_stop fob_stop), (ce_i700 y ob_tests fob_tests), (ce_X0 o1 o1_lines o1_used o1_paying o1_kind o1_within o1_start o1_stop o1_tests o1_facts o1_beyond), (ce_i24 y o1_paying fo1_paying), (ce_i24 y o1_kind fo1_kind), (ce_i24 y o1_within fo1_within), (ce_i24 y o1_start fo1_start), (ce_i24 y o1_stop fo1_stop), (ce_i700 y o1_tests fo1_tests)] sz)) (va_A [(ce_X0 ob ob_lines ob_used ob_paying ob_kind ob_within ob_start ob_stop ob_tests ob_facts ob_beyond), (ce_i24 y ob_paying fob_paying), (ce_i24 y ob_kind fob_kind), (ce_i24 y ob_within fob_within), (ce_i24 y ob_start fob_start), (ce_i24 y ob_stop fob_stop), (ce_i700 y ob_tests fob_tests), (ce_X0 o1 o1_lines o1_used o1_paying o1_kind o1_within o1_start o1_stop o1_tests o1_facts o1_beyond), (ce_i24 y o1_paying fo1_paying), (ce_i24 y o1_kind fo1_kind), (ce_i24 y o1_within fo1_within), (ce_i24 y o1_start fo1_start), (ce_i24 y o1_stop fo1_stop), (ce_i700 y o1_tests fo1_tests)] sz)) 0 0 (va_A [(ce_X0 ob ob_lines ob_used ob_paying ob_kind ob_within ob_start ob_stop ob_tests ob_facts ob_beyond), (ce_i24 y ob_paying fob_paying), (ce_i24 y ob_kind fob_kind), (ce_i24 y ob_within fob_within), (ce_i24 y ob_start fob_start), (ce_i24 y ob_stop fob_stop), (ce_i700 y ob_tests fob_tests), (ce_X0 o1 o1_lines o1_used o1_paying o1_kind o1_within o1_start o1_stop o1_tests o1_facts o1_beyond), (ce_i24 y o1_paying fo1_paying), (ce_i24 y o1_kind fo1_kind), (ce_i24 y o1_within fo1_within), (ce_i24 y o1_start fo1_start), (ce_i24 y o1_stop fo1_stop), (ce_i700 y o1_tests fo1_tests)] sz) := by
  refine Met.ofW (cc := cX0_copy) (maxL := 2) (ret := none) (by decide) rfl ?_
  intro p e s m args below meth c s₁ B hml hv
  obtain ⟨rfl, hsz, hP, hK, hD0⟩ := hv
  have hx := B.exec
  have hb := B.bytes
  have hr := B.returns
  have hw0 : ∀ w ∈ wAll, w.before _ s = true := fun w h => atoms_spec (ws := Cond.code yX0_copy cX0_copy 2 none :: wAll) B.pre w (List.mem_cons_of_mem _ h)
  have hown : s.vm.findClass RX0 = some m.cls := findClass_of_methodNamed B.named
  subst hsz
  have hD := hD0.self (sz := s.heap.size)
  generalize hAe : va_A [(ce_X0 ob ob_lines ob_used ob_paying ob_kind ob_within ob_start ob_stop ob_tests ob_facts ob_beyond), (ce_i24 y ob_paying fob_paying), (ce_i24 y ob_kind fob_kind), (ce_i24 y ob_within fob_within), (ce_i24 y ob_start fob_start), (ce_i24 y ob_stop fob_stop), (ce_i700 y ob_tests fob_tests), (ce_X0 o1 o1_lines o1_used o1_paying o1_kind o1_within o1_start o1_stop o1_tests o1_facts o1_beyond), (ce_i24 y o1_paying fo1_paying), (ce_i24 y o1_kind fo1_kind), (ce_i24 y o1_within fo1_within), (ce_i24 y o1_start fo1_start), (ce_i24 y o1_stop fo1_stop), (ce_i700 y o1_tests fo1_tests)] s.heap.size = A at hD ⊢
  have hA : ∀ q : Nat, s.heap.size ≤ q → A q := fun q h => by rw [← hAe]; exact Or.inr h
  have hS : va_S A s.heap s.heap [] := va_S.rf
  have hP : va_P G vwCl [(ce_X0 ob ob_lines ob_used ob_paying ob_kind ob_within ob_start ob_stop ob_tests ob_facts ob_beyond), (ce_i24 y ob_paying fob_paying), (ce_i24 y ob_kind fob_kind), (ce_i24 y ob_within fob_within), (ce_i24 y ob_start fob_start), (ce_i24 y ob_stop fob_stop), (ce_i700 y ob_tests fob_tests), (ce_X0 o1 o1_lines o1_used o1_paying o1_kind o1_within o1_start o1_stop o1_tests o1_facts o1_beyond), (ce_i24 y o1_paying fo1_paying), (ce_i24 y o1_kind fo1_kind), (ce_i24 y o1_within fo1_within), (ce_i24 y o1_start fo1_start), (ce_i24 y o1_stop fo1_stop), (ce_i700 y o1_tests fo1_tests)] s.heap := hP
  have hl := lv_entry ([.ref ob, .ref o1]) (n := 2) (Nat.le_of_ble_eq_true rfl)
  rw [lg_entry_eq]
  generalize (lg_sl ([.ref ob, .ref o1]) ++ List.replicate (2 - (lg_sl ([.ref ob, .ref o1])).length) Slot.unset).toArray = ls at hl ⊢
  have hl : lv_has ls 2 [(0, .ref ob), (1, .ref o1)] := hl
  refine lv_aload_n hx hb dX0_copy_0 rfl (lv_at hl 0 rfl) ?_
  refine lv_aload_n hx hb dX0_copy_1 rfl (lv_at hl 1 rfl) ?_
  refine va_get (D := G) (ci := 0) (v := .int o1_lines) (C := RX0) (T := TX0) (N := 10) hx hb hw0 inA_wsX00 hown hK.1 hP 7 rfl rfl 0 (by decide) (hw0 _ m_266) (fun _ h9 => h9) rfl dX0_copy_2 ?_
  refine va_put (D := G) (ci := 0) (v := .int o1_lines) (ty := .int) (C := RX0) (T := TX0) (N := 10) hx hb hw0 inA_wsX00 tyX0 tyX0_ok nmX0 hown hK.1 hP hD hS 0 rfl rfl 0 (by decide) (hw0 _ m_266) (fun _ h9 => h9) rfl fd_X0_0 rfl rfl (Nat.le_of_ble_eq_true rfl) dX0_copy_5 (fun H locs hP hD hS => ?_)
  obtain ⟨hP, hD⟩ : vPD G A H [(ce_X0 ob o1_lines ob_used ob_paying ob_kind ob_within ob_start ob_stop ob_tests ob_facts ob_beyond), (ce_i24 y ob_paying fob_paying), (ce_i24 y ob_kind fob_kind), (ce_i24 y ob_within fob_within), (ce_i24 y ob_start fob_start), (ce_i24 y ob_stop fob_stop), (ce_i700 y ob_tests fob_tests), (ce_X0 o1 o1_lines o1_used o1_paying o1_kind o1_within o1_start o1_stop o1_tests o1_facts o1_beyond), (ce_i24 y o1_paying fo1_paying), (ce_i24 y o1_kind fo1_kind), (ce_i24 y o1_within fo1_within), (ce_i24 y o1_start fo1_start), (ce_i24 y o1_stop fo1_stop), (ce_i700 y o1_tests fo1_tests)] := ⟨hP, hD⟩
  refine lv_aload_n hx hb dX0_copy_8 rfl (lv_at hl 0 rfl) ?_
  refine lv_aload_n hx hb dX0_copy_9 rfl (lv_at hl 1 rfl) ?_
  refine va_get (D := G) (ci := 0) (v := .int o1_used) (C := RX0) (T := TX0) (N := 10) hx hb hw0 inA_wsX00 hown hK.1 hP 7 rfl rfl 1 (by decide) (hw0 _ m_267) (fun _ h9 => h9) rfl dX0_copy_10 ?_
  refine va_put (D := G) (ci := 0) (v := .int o1_used) (ty := .int) (C := RX0) (T := TX0) (N := 10) hx hb hw0 inA_wsX00 tyX0 tyX0_ok nmX0 hown hK.1 hP hD hS 0 rfl rfl 1 (by decide) (hw0 _ m_267) (fun _ h9 => h9) rfl fd_X0_1 rfl rfl (Nat.le_of_ble_eq_true rfl) dX0_copy_13 (fun H locs hP hD hS => ?_)
  obtain ⟨hP, hD⟩ : vPD G A H [(ce_X0 ob o1_lines o1_used ob_paying ob_kind ob_within ob_start ob_stop ob_tests ob_facts ob_beyond), (ce_i24 y ob_paying fob_paying), (ce_i24 y ob_kind fob_kind), (ce_i24 y ob_within fob_within), (ce_i24 y ob_start fob_start), (ce_i24 y ob_stop fob_stop), (ce_i700 y ob_tests fob_tests), (ce_X0 o1 o1_lines o1_used o1_paying o1_kind o1_within o1_start o1_stop o1_tests o1_facts o1_beyond), (ce_i24 y o1_paying fo1_paying), (ce_i24 y o1_kind fo1_kind), (ce_i24 y o1_within fo1_within), (ce_i24 y o1_start fo1_start), (ce_i24 y o1_stop fo1_stop), (ce_i700 y o1_tests fo1_tests)] := ⟨hP, hD⟩
  refine lv_aload_n hx hb dX0_copy_16 rfl (lv_at hl 1 rfl) ?_
  refine va_get (D := G) (ci := 0) (v := .ref o1_paying) (C := RX0) (T := TX0) (N := 10) hx hb hw0 inA_wsX00 hown hK.1 hP 7 rfl rfl 2 (by decide) (hw0 _ m_270) (fun _ h9 => h9) rfl dX0_copy_17 ?_
  refine lv_iconst (v := 0) hx hb dX0_copy_20 (by decide) ?_
  refine lv_aload_n hx hb dX0_copy_21 rfl (lv_at hl 0 rfl) ?_
  refine va_get (D := G) (ci := 0) (v := .ref ob_paying) (C := RX0) (T := TX0) (N := 10) hx hb hw0 inA_wsX00 hown hK.1 hP 0 rfl rfl 2 (by decide) (hw0 _ m_270) (fun _ h9 => h9) rfl dX0_copy_22 ?_
  refine lv_iconst (v := 0) hx hb dX0_copy_25 (by decide) ?_
  refine lv_aload_n hx hb dX0_copy_26 rfl (lv_at hl 0 rfl) ?_
  refine va_get (D := G) (ci := 0) (v := .int o1_lines) (C := RX0) (T := TX0) (N := 10) hx hb hw0 inA_wsX00 hown hK.1 hP 0 rfl rfl 0 (by decide) (hw0 _ m_266) (fun _ h9 => h9) rfl dX0_copy_27 ?_
  refine va_copyi (own := RX0) hx hb (by rw [hml]; exact hl.1.symm) hown (hw0 _ m_271) (hw0 _ m_272) (hw0 _ m_273) (hw0 _ m_274) hK.1 hP hD hS 8 1 1 1 rfl rfl rfl rfl rfl (by decide) (by decide) (cy_n p_o1_lines (by decide)) (cy_l p_o1_lines (by decide)) (cy_l p_o1_lines (by decide)) (fun i hi => rfl) (Nat.le_of_ble_eq_true rfl) (by decide) dX0_copy_30 (fun H locs hP hD hS => ?_)
  generalize hf_1001 : (va_cpy fo1_paying fob_paying (0 : Int32).toNatClampNeg (0 : Int32).toNatClampNeg (o1_lines : Int32).toNatClampNeg) = f_1001 at hP hD
  obtain ⟨hP, hD⟩ : vPD G A H [(ce_X0 ob o1_lines o1_used ob_paying ob_kind ob_within ob_start ob_stop ob_tests ob_facts ob_beyond), (ce_i24 y ob_paying f_1001), (ce_i24 y ob_kind fob_kind), (ce_i24 y ob_within fob_within), (ce_i24 y ob_start fob_start), (ce_i24 y ob_stop fob_stop), (ce_i700 y ob_tests fob_tests), (ce_X0 o1 o1_lines o1_used o1_paying o1_kind o1_within o1_start o1_stop o1_tests o1_facts o1_beyond), (ce_i24 y o1_paying fo1_paying), (ce_i24 y o1_kind fo1_kind), (ce_i24 y o1_within fo1_within), (ce_i24 y o1_start fo1_start), (ce_i24 y o1_stop fo1_stop), (ce_i700 y o1_tests fo1_tests)] := ⟨hP, hD⟩
  refine lv_aload_n hx hb dX0_copy_33 rfl (lv_at hl 1 rfl) ?_
  refine va_get (D := G) (ci := 0) (v := .ref o1_kind) (C := RX0) (T := TX0) (N := 10) hx hb hw0 inA_wsX00 hown hK.1 hP 7 rfl rfl 3 (by decide) (hw0 _ m_275) (fun _ h9 => h9) rfl dX0_copy_34 ?_
  refine lv_iconst (v := 0) hx hb dX0_copy_37 (by decide) ?_
  refine lv_aload_n hx hb dX0_copy_38 rfl (lv_at hl 0 rfl) ?_
  refine va_get (D := G) (ci := 0) (v := .ref ob_kind) (C := RX0) (T := TX0) (N := 10) hx hb hw0 inA_wsX00 hown hK.1 hP 0 rfl rfl 3 (by decide) (hw0 _ m_275) (fun _ h9 => h9) rfl dX0_copy_39 ?_
  refine lv_iconst (v := 0) hx hb dX0_copy_42 (by decide) ?_
  refine lv_aload_n hx hb dX0_copy_43 rfl (lv_at hl 0 rfl) ?_
  refine va_get (D := G) (ci := 0) (v := .int o1_lines) (C := RX0) (T := TX0) (N := 10) hx hb hw0 inA_wsX00 hown hK.1 hP 0 rfl rfl 0 (by decide) (hw0 _ m_266) (fun _ h9 => h9) rfl dX0_copy_44 ?_
  refine va_copyi (own := RX0) hx hb (by rw [hml]; exact hl.1.symm) hown (hw0 _ m_271) (hw0 _ m_272) (hw0 _ m_273) (hw0 _ m_274) hK.1 hP hD hS 9 2 1 1 rfl rfl rfl rfl rfl (by decide) (by decide) (cy_n p_o1_lines (by decide)) (cy_l p_o1_lines (by decide)) (cy_l p_o1_lines (by decide)) (fun i hi => rfl) (Nat.le_of_ble_eq_true rfl) (by decide) dX0_copy_47 (fun H locs hP hD hS => ?_)
  generalize hf_1002 : (va_cpy fo1_kind fob_kind (0 : Int32).toNatClampNeg (0 : Int32).toNatClampNeg (o1_lines : Int32).toNatClampNeg) = f_1002 at hP hD
  obtain ⟨hP, hD⟩ : vPD G A H [(ce_X0 ob o1_lines o1_used ob_paying ob_kind ob_within ob_start ob_stop ob_tests ob_facts ob_beyond), (ce_i24 y ob_paying f_1001), (ce_i24 y ob_kind f_1002), (ce_i24 y ob_within fob_within), (ce_i24 y ob_start fob_start), (ce_i24 y ob_stop fob_stop), (ce_i700 y ob_tests fob_tests), (ce_X0 o1 o1_lines o1_used o1_paying o1_kind o1_within o1_start o1_stop o1_tests o1_facts o1_beyond), (ce_i24 y o1_paying fo1_paying), (ce_i24 y o1_kind fo1_kind), (ce_i24 y o1_within fo1_within), (ce_i24 y o1_start fo1_start), (ce_i24 y o1_stop fo1_stop), (ce_i700 y o1_tests fo1_tests)] := ⟨hP, hD⟩
  refine lv_aload_n hx hb dX0_copy_50 rfl (lv_at hl 1 rfl) ?_
  refine va_get (D := G) (ci := 0) (v := .ref o1_within) (C := RX0) (T := TX0) (N := 10) hx hb hw0 inA_wsX00 hown hK.1 hP 7 rfl rfl 4 (by decide) (hw0 _ m_276) (fun _ h9 => h9) rfl dX0_copy_51 ?_
  refine lv_iconst (v := 0) hx hb dX0_copy_54 (by decide) ?_
  refine lv_aload_n hx hb dX0_copy_55 rfl (lv_at hl 0 rfl) ?_
  refine va_get (D := G) (ci := 0) (v := .ref ob_within) (C := RX0) (T := TX0) (N := 10) hx hb hw0 inA_wsX00 hown hK.1 hP 0 rfl rfl 4 (by decide) (hw0 _ m_276) (fun _ h9 => h9) rfl dX0_copy_56 ?_
  refine lv_iconst (v := 0) hx hb dX0_copy_59 (by decide) ?_
  refine lv_aload_n hx hb dX0_copy_60 rfl (lv_at hl 0 rfl) ?_
  refine va_get (D := G) (ci := 0) (v := .int o1_lines) (C := RX0) (T := TX0) (N := 10) hx hb hw0 inA_wsX00 hown hK.1 hP 0 rfl rfl 0 (by decide) (hw0 _ m_266) (fun _ h9 => h9) rfl dX0_copy_61 ?_
  refine va_copyi (own := RX0) hx hb (by rw [hml]; exact hl.1.symm) hown (hw0 _ m_271) (hw0 _ m_272) (hw0 _ m_273) (hw0 _ m_274) hK.1 hP hD hS 10 3 1 1 rfl rfl rfl rfl rfl (by decide) (by decide) (cy_n p_o1_lines (by decide)) (cy_l p_o1_lines (by decide)) (cy_l p_o1_lines (by decide)) (fun i hi => rfl) (Nat.le_of_ble_eq_true rfl) (by decide) dX0_copy_64 (fun H locs hP hD hS => ?_)
  generalize hf_1003 : (va_cpy fo1_within fob_within (0 : Int32).toNatClampNeg (0 : Int32).toNatClampNeg (o1_lines : Int32).toNatClampNeg) = f_1003 at hP hD
  obtain ⟨hP, hD⟩ : vPD G A H [(ce_X0 ob o1_lines o1_used ob_paying ob_kind ob_within ob_start ob_stop ob_tests ob_facts ob_beyond), (ce_i24 y ob_paying f_1001), (ce_i24 y ob_kind f_1002), (ce_i24 y ob_within f_1003), (ce_i24 y ob_start fob_start), (ce_i24 y ob_stop fob_stop), (ce_i700 y ob_tests fob_tests), (ce_X0 o1 o1_lines o1_used o1_paying o1_kind o1_within o1_start o1_stop o1_tests o1_facts o1_beyond), (ce_i24 y o1_paying fo1_paying), (ce_i24 y o1_kind fo1_kind), (ce_i24 y o1_within fo1_within), (ce_i24 y o1_start fo1_start), (ce_i24 y o1_stop fo1_stop), (ce_i700 y o1_tests fo1_tests)] := ⟨hP, hD⟩
  refine lv_aload_n hx hb dX0_copy_67 rfl (lv_at hl 1 rfl) ?_
  refine va_get (D := G) (ci := 0) (v := .ref o1_start) (C := RX0) (T := TX0) (N := 10) hx hb hw0 inA_wsX00 hown hK.1 hP 7 rfl rfl 5 (by decide) (hw0 _ m_277) (fun _ h9 => h9) rfl dX0_copy_68 ?_
  refine lv_iconst (v := 0) hx hb dX0_copy_71 (by decide) ?_
  refine lv_aload_n hx hb dX0_copy_72 rfl (lv_at hl 0 rfl) ?_
  refine va_get (D := G) (ci := 0) (v := .ref ob_start) (C := RX0) (T := TX0) (N := 10) hx hb hw0 inA_wsX00 hown hK.1 hP 0 rfl rfl 5 (by decide) (hw0 _ m_277) (fun _ h9 => h9) rfl dX0_copy_73 ?_
  refine lv_iconst (v := 0) hx hb dX0_copy_76 (by decide) ?_
  refine lv_aload_n hx hb dX0_copy_77 rfl (lv_at hl 0 rfl) ?_
  refine va_get (D := G) (ci := 0) (v := .int o1_lines) (C := RX0) (T := TX0) (N := 10) hx hb hw0 inA_wsX00 hown hK.1 hP 0 rfl rfl 0 (by decide) (hw0 _ m_266) (fun _ h9 => h9) rfl dX0_copy_78 ?_
  refine va_copyi (own := RX0) hx hb (by rw [hml]; exact hl.1.symm) hown (hw0 _ m_271) (hw0 _ m_272) (hw0 _ m_273) (hw0 _ m_274) hK.1 hP hD hS 11 4 1 1 rfl rfl rfl rfl rfl (by decide) (by decide) (cy_n p_o1_lines (by decide)) (cy_l p_o1_lines (by decide)) (cy_l p_o1_lines (by decide)) (fun i hi => rfl) (Nat.le_of_ble_eq_true rfl) (by decide) dX0_copy_81 (fun H locs hP hD hS => ?_)
  generalize hf_1004 : (va_cpy fo1_start fob_start (0 : Int32).toNatClampNeg (0 : Int32).toNatClampNeg (o1_lines : Int32).toNatClampNeg) = f_1004 at hP hD
  have bf_1004 : ∀ i, (0 : Int) ≤ (f_1004 i).toInt ∧ (f_1004 i).toInt ≤ 700 := hf_1004 ▸ cp_b p_fo1_start p_fob_start
  obtain ⟨hP, hD⟩ : vPD G A H [(ce_X0 ob o1_lines o1_used ob_paying ob_kind ob_within ob_start ob_stop ob_tests ob_facts ob_beyond), (ce_i24 y ob_paying f_1001), (ce_i24 y ob_kind f_1002), (ce_i24 y ob_within f_1003), (ce_i24 y ob_start f_1004), (ce_i24 y ob_stop fob_stop), (ce_i700 y ob_tests fob_tests), (ce_X0 o1 o1_lines o1_used o1_paying o1_kind o1_within o1_start o1_stop o1_tests o1_facts o1_beyond), (ce_i24 y o1_paying fo1_paying), (ce_i24 y o1_kind fo1_kind), (ce_i24 y o1_within fo1_within), (ce_i24 y o1_start fo1_start), (ce_i24 y o1_stop fo1_stop), (ce_i700 y o1_tests fo1_tests)] := ⟨hP, hD⟩
  refine lv_aload_n hx hb dX0_copy_84 rfl (lv_at hl 1 rfl) ?_
  refine va_get (D := G) (ci := 0) (v := .ref o1_stop) (C := RX0) (T := TX0) (N := 10) hx hb hw0 inA_wsX00 hown hK.1 hP 7 rfl rfl 6 (by decide) (hw0 _ m_278) (fun _ h9 => h9) rfl dX0_copy_85 ?_
  refine lv_iconst (v := 0) hx hb dX0_copy_88 (by decide) ?_
  refine lv_aload_n hx hb dX0_copy_89 rfl (lv_at hl 0 rfl) ?_
  refine va_get (D := G) (ci := 0) (v := .ref ob_stop) (C := RX0) (T := TX0) (N := 10) hx hb hw0 inA_wsX00 hown hK.1 hP 0 rfl rfl 6 (by decide) (hw0 _ m_278) (fun _ h9 => h9) rfl dX0_copy_90 ?_
  refine lv_iconst (v := 0) hx hb dX0_copy_93 (by decide) ?_
  refine lv_aload_n hx hb dX0_copy_94 rfl (lv_at hl 0 rfl) ?_
  refine va_get (D := G) (ci := 0) (v := .int o1_lines) (C := RX0) (T := TX0) (N := 10) hx hb hw0 inA_wsX00 hown hK.1 hP 0 rfl rfl 0 (by decide) (hw0 _ m_266) (fun _ h9 => h9) rfl dX0_copy_95 ?_
  refine va_copyi (own := RX0) hx hb (by rw [hml]; exact hl.1.symm) hown (hw0 _ m_271) (hw0 _ m_272) (hw0 _ m_273) (hw0 _ m_274) hK.1 hP hD hS 12 5 1 1 rfl rfl rfl rfl rfl (by decide) (by decide) (cy_n p_o1_lines (by decide)) (cy_l p_o1_lines (by decide)) (cy_l p_o1_lines (by decide)) (fun i hi => rfl) (Nat.le_of_ble_eq_true rfl) (by decide) dX0_copy_98 (fun H locs hP hD hS => ?_)
  generalize hf_1005 : (va_cpy fo1_stop fob_stop (0 : Int32).toNatClampNeg (0 : Int32).toNatClampNeg (o1_lines : Int32).toNatClampNeg) = f_1005 at hP hD
  have bf_1005 : ∀ i, (0 : Int) ≤ (f_1005 i).toInt ∧ (f_1005 i).toInt ≤ 700 := hf_1005 ▸ cp_b p_fo1_stop p_fob_stop
  obtain ⟨hP, hD⟩ : vPD G A H [(ce_X0 ob o1_lines o1_used ob_paying ob_kind ob_within ob_start ob_stop ob_tests ob_facts ob_beyond), (ce_i24 y ob_paying f_1001), (ce_i24 y ob_kind f_1002), (ce_i24 y ob_within f_1003), (ce_i24 y ob_start f_1004), (ce_i24 y ob_stop f_1005), (ce_i700 y ob_tests fob_tests), (ce_X0 o1 o1_lines o1_used o1_paying o1_kind o1_within o1_start o1_stop o1_tests o1_facts o1_beyond), (ce_i24 y o1_paying fo1_paying), (ce_i24 y o1_kind fo1_kind), (ce_i24 y o1_within fo1_within), (ce_i24 y o1_start fo1_start), (ce_i24 y o1_stop fo1_stop), (ce_i700 y o1_tests fo1_tests)] := ⟨hP, hD⟩
  refine lv_aload_n hx hb dX0_copy_101 rfl (lv_at hl 1 rfl) ?_
  refine va_get (D := G) (ci := 0) (v := .ref o1_tests) (C := RX0) (T := TX0) (N := 10) hx hb hw0 inA_wsX00 hown hK.1 hP 7 rfl rfl 7 (by decide) (hw0 _ m_279) (fun _ h9 => h9) rfl dX0_copy_102 ?_
  refine lv_iconst (v := 0) hx hb dX0_copy_105 (by decide) ?_
  refine lv_aload_n hx hb dX0_copy_106 rfl (lv_at hl 0 rfl) ?_
  refine va_get (D := G) (ci := 0) (v := .ref ob_tests) (C := RX0) (T := TX0) (N := 10) hx hb hw0 inA_wsX00 hown hK.1 hP 0 rfl rfl 7 (by decide) (hw0 _ m_279) (fun _ h9 => h9) rfl dX0_copy_107 ?_
  refine lv_iconst (v := 0) hx hb dX0_copy_110 (by decide) ?_
  refine lv_aload_n hx hb dX0_copy_111 rfl (lv_at hl 0 rfl) ?_
  refine va_get (D := G) (ci := 0) (v := .int o1_used) (C := RX0) (T := TX0) (N := 10) hx hb hw0 inA_wsX00 hown hK.1 hP 0 rfl rfl 1 (by decide) (hw0 _ m_267) (fun _ h9 => h9) rfl dX0_copy_112 ?_
  refine va_copyi (own := RX0) hx hb (by rw [hml]; exact hl.1.symm) hown (hw0 _ m_271) (hw0 _ m_272) (hw0 _ m_273) (hw0 _ m_274) hK.1 hP hD hS 13 6 1 1 rfl rfl rfl rfl rfl (by decide) (by decide) (cy_n p_o1_used (by decide)) (cy_l p_o1_used (by decide)) (cy_l p_o1_used (by decide)) (fun i hi => rfl) (Nat.le_of_ble_eq_true rfl) (by decide) dX0_copy_115 (fun H locs hP hD hS => ?_)
  generalize hf_1006 : (va_cpy fo1_tests fob_tests (0 : Int32).toNatClampNeg (0 : Int32).toNatClampNeg (o1_used : Int32).toNatClampNeg) = f_1006 at hP hD
  obtain ⟨hP, hD⟩ : vPD G A H [(ce_X0 ob o1_lines o1_used ob_paying ob_kind ob_within ob_start ob_stop ob_tests ob_facts ob_beyond), (ce_i24 y ob_paying f_1001), (ce_i24 y ob_kind f_1002), (ce_i24 y ob_within f_1003), (ce_i24 y ob_start f_1004), (ce_i24 y ob_stop f_1005), (ce_i700 y ob_tests f_1006), (ce_X0 o1 o1_lines o1_used o1_paying o1_kind o1_within o1_start o1_stop o1_tests o1_facts o1_beyond), (ce_i24 y o1_paying fo1_paying), (ce_i24 y o1_kind fo1_kind), (ce_i24 y o1_within fo1_within), (ce_i24 y o1_start fo1_start), (ce_i24 y o1_stop fo1_stop), (ce_i700 y o1_tests fo1_tests)] := ⟨hP, hD⟩
  exact W.vret hx hb hr (fun t ht hW => ⟨⟨_, rfl, ⟨f_1001, f_1002, f_1003, f_1004, f_1005, f_1006, bf_1004, bf_1005, rfl⟩, by rw [ht]; exact hP, hD⟩, hS.F ht⟩) hS.2.2 dX0_copy_118

set_option maxHeartbeats 4000000 in
set_option maxRecDepth 100000 in
theorem sX0_bounded (l : Launch) (G : va_G) (y : Nat → ClassId) (sz : Nat) (ob : Nat) (a1 : Int64) (ob_lines : Int32) (ob_used : Int32) (ob_paying : Nat) (ob_kind : Nat) (ob_within : Nat) (ob_start : Nat) (ob_stop : Nat) (ob_tests : Nat) (ob_facts : Nat) (ob_beyond : Int32) (p_ob_lines : (0 : Int) ≤ ob_lines.toInt ∧ ob_lines.toInt ≤ 24) (p_ob_used : (0 : Int) ≤ ob_used.toInt ∧ ob_used.toInt ≤ 700) (p_ob_beyond : (0 : Int) ≤ ob_beyond.toInt ∧ ob_beyond.toInt ≤ 1) : Met l yX0_bounded (Cond.code yX0_bounded cX0_bounded 3 (some .long) :: wAll) ({ frames := 0, cells := 0, slots := 0, locals := 0 }) (va_Pc [.ref ob, .long a1] (kp G y sz [(ce_X0 ob ob_lines ob_used ob_paying ob_kind ob_within ob_start ob_stop ob_tests ob_facts ob_beyond)])) (va_Ql (fun (r : Int64) (w : va_W) => (∃ (v_9 : Int64) (v_10 : Int32), ((0 : Int) ≤ v_10.toInt ∧ v_10.toInt ≤ 1) ∧ r = v_9 ∧ w = [(ce_X0 ob ob_lines ob_used ob_paying ob_kind ob_within ob_start ob_stop ob_tests ob_facts v_10)])) (kq G (va_A [(ce_X0 ob ob_lines ob_used ob_paying ob_kind ob_within ob_start ob_stop ob_tests ob_facts ob_beyond)] sz)) (va_A [(ce_X0 ob ob_lines ob_used ob_paying ob_kind ob_within ob_start ob_stop ob_tests ob_facts ob_beyond)] sz)) 0 0 (va_A [(ce_X0 ob ob_lines ob_used ob_paying ob_kind ob_within ob_start ob_stop ob_tests ob_facts ob_beyond)] sz) := by
  refine Met.ofW (cc := cX0_bounded) (maxL := 3) (ret := (some .long)) (by decide) rfl ?_
  intro p e s m args below meth c s₁ B hml hv
  obtain ⟨rfl, hsz, hP, hK, hD0⟩ := hv
  have hx := B.exec
  have hb := B.bytes
  have hr := B.returns
  have hw0 : ∀ w ∈ wAll, w.before _ s = true := fun w h => atoms_spec (ws := Cond.code yX0_bounded cX0_bounded 3 (some .long) :: wAll) B.pre w (List.mem_cons_of_mem _ h)
  have hown : s.vm.findClass RX0 = some m.cls := findClass_of_methodNamed B.named
  subst hsz
  have hD := hD0.self (sz := s.heap.size)
  generalize hAe : va_A [(ce_X0 ob ob_lines ob_used ob_paying ob_kind ob_within ob_start ob_stop ob_tests ob_facts ob_beyond)] s.heap.size = A at hD ⊢
  have hA : ∀ q : Nat, s.heap.size ≤ q → A q := fun q h => by rw [← hAe]; exact Or.inr h
  have hS : va_S A s.heap s.heap [] := va_S.rf
  have hP : va_P G vwCl [(ce_X0 ob ob_lines ob_used ob_paying ob_kind ob_within ob_start ob_stop ob_tests ob_facts ob_beyond)] s.heap := hP
  have hl := lv_entry ([.ref ob, .long a1]) (n := 3) (Nat.le_of_ble_eq_true rfl)
  rw [lg_entry_eq]
  generalize (lg_sl ([.ref ob, .long a1]) ++ List.replicate (3 - (lg_sl ([.ref ob, .long a1])).length) Slot.unset).toArray = ls at hl ⊢
  have hl : lv_has ls 3 [(0, .ref ob), (1, .long a1)] := hl
  refine lv_lload_n hx hb dX0_bounded_0 rfl (lv_at hl 1 rfl) ?_
  refine lv_ldc2 (own := RX0) (v := 1000000000) hx hb hown (hw0 _ m_262) dX0_bounded_1 ?_
  refine W.lcmp hx hb dX0_bounded_4 ?_
  refine cutW 16 (fun H locs ls st => st = [] ∧ vPD G A H [(ce_X0 ob ob_lines ob_used ob_paying ob_kind ob_within ob_start ob_stop ob_tests ob_facts ob_beyond)] ∧ va_S A s.heap H locs ∧ lv_has ls 3 [(0, .ref ob)]) ?_ (fun J_16_1002 => ?_)
  · rintro H locs ls st ⟨rfl, ⟨hP, hD⟩, hS, hl⟩
    refine lv_aload_n hx hb dX0_bounded_16 rfl (lv_at hl 0 rfl) ?_
    refine lv_iconst (v := 1) hx hb dX0_bounded_17 (by decide) ?_
    refine va_put (D := G) (ci := 0) (v := .int 1) (ty := .boolean) (C := RX0) (T := TX0) (N := 10) hx hb hw0 inA_wsX00 tyX0 tyX0_ok nmX0 hown hK.1 hP hD hS 0 rfl rfl 9 (by decide) (hw0 _ m_264) (fun _ h9 => h9) rfl fd_X0_9 rfl rfl (Nat.le_of_ble_eq_true rfl) dX0_bounded_18 (fun H locs hP hD hS => ?_)
    obtain ⟨hP, hD⟩ : vPD G A H [(ce_X0 ob ob_lines ob_used ob_paying ob_kind ob_within ob_start ob_stop ob_tests ob_facts 1)] := ⟨hP, hD⟩
    refine lv_lconst (v := 0) hx hb dX0_bounded_21 (by decide) ?_
    exact W.lret (v := 0) hx hb hr (fun t ht hW => ⟨⟨0, _, rfl, ⟨0, 1, (bw (0) (1) (bkc (x := 1) (c := 1) (by decide)) (by decide)), rfl, rfl⟩, by rw [ht]; exact hP, hD⟩, hS.F ht⟩) hS.2.2 dX0_bounded_22
  · skip
    refine lv_if_gt (tgt := 16) hx hb dX0_bounded_5 (by decide) (fun c_1003 => ?_) (fun c_1003 => ?_)
    · skip
      have nc_1003 := jl_gt c_1003
      have bc_1003 : (1000000001 : Int) ≤ a1.toInt ∧ a1.toInt ≤ 9223372036854775807 := nl_gt nc_1003 (ltop a1) (k := 1000000000) (by decide) (by decide)
      exact J_16_1002 _ _ _ _ ⟨rfl, ⟨hP, hD⟩, hS, lv_sub hl [0] rfl⟩
    · skip
      have nc_1003 := jl_ngt c_1003
      have bc_1003 : (-9223372036854775808 : Int) ≤ a1.toInt ∧ a1.toInt ≤ 1000000000 := nl_le nc_1003 (ltop a1) (k := 1000000000) (by decide) (by decide)
      refine lv_lload_n hx hb dX0_bounded_8 rfl (lv_at hl 1 rfl) ?_
      refine lv_ldc2 (own := RX0) (v := (-1000000000)) hx hb hown (hw0 _ m_263) dX0_bounded_9 ?_
      refine W.lcmp hx hb dX0_bounded_12 ?_
      refine lv_if_ge (tgt := 23) hx hb dX0_bounded_13 (by decide) (fun c_1004 => ?_) (fun c_1004 => ?_)
      · skip
        have nc_1004 := jl_ge c_1004
        have bc_1004 : (-1000000000 : Int) ≤ a1.toInt ∧ a1.toInt ≤ 1000000000 := nl_ge nc_1004 bc_1003 (k := -1000000000) (by decide) (by decide)
        refine lv_lload_n hx hb dX0_bounded_23 rfl (lv_at hl 1 rfl) ?_
        exact W.lret (v := a1) hx hb hr (fun t ht hW => ⟨⟨a1, _, rfl, ⟨a1, ob_beyond, p_ob_beyond, rfl, rfl⟩, by rw [ht]; exact hP, hD⟩, hS.F ht⟩) hS.2.2 dX0_bounded_24
      · skip
        have nc_1004 := jl_nge c_1004
        have bc_1004 : (-9223372036854775808 : Int) ≤ a1.toInt ∧ a1.toInt ≤ -1000000001 := nl_lt nc_1004 bc_1003 (k := -1000000000) (by decide) (by decide)
        exact J_16_1002 _ _ _ _ ⟨rfl, ⟨hP, hD⟩, hS, lv_sub hl [0] rfl⟩

set_option maxHeartbeats 4000000 in
set_option maxRecDepth 100000 in
theorem sX0_compares (l : Launch) (G : va_G) (y : Nat → ClassId) (sz : Nat) (a1 : Int64) (a2 : Int32) (a3 : Int64)  : Met l yX0_compares (Cond.code yX0_compares cX0_compares 5 (some .boolean) :: wAll) ({ frames := 0, cells := 0, slots := 0, locals := 0 }) (va_Pc [.long a1, .int a2, .long a3] (kp G y sz [])) (va_Qi (fun (r : Int32) (w : va_W) => (r = 0 ∧ w = []) ∨ (r = 1 ∧ w = [])) (kq G (va_A [] sz)) (va_A [] sz)) 0 0 (va_A [] sz) := by
  refine Met.ofW (cc := cX0_compares) (maxL := 5) (ret := (some .boolean)) (by decide) rfl ?_
  intro p e s m args below meth c s₁ B hml hv
  obtain ⟨rfl, hsz, hP, hK, hD0⟩ := hv
  have hx := B.exec
  have hb := B.bytes
  have hr := B.returns
  have hw0 : ∀ w ∈ wAll, w.before _ s = true := fun w h => atoms_spec (ws := Cond.code yX0_compares cX0_compares 5 (some .boolean) :: wAll) B.pre w (List.mem_cons_of_mem _ h)
  have hown : s.vm.findClass RX0 = some m.cls := findClass_of_methodNamed B.named
  subst hsz
  have hD := hD0.self (sz := s.heap.size)
  generalize hAe : va_A [] s.heap.size = A at hD ⊢
  have hA : ∀ q : Nat, s.heap.size ≤ q → A q := fun q h => by rw [← hAe]; exact Or.inr h
  have hS : va_S A s.heap s.heap [] := va_S.rf
  have hP : va_P G vwCl [] s.heap := hP
  have hl := lv_entry ([.long a1, .int a2, .long a3]) (n := 5) (Nat.le_of_ble_eq_true rfl)
  rw [lg_entry_eq]
  generalize (lg_sl ([.long a1, .int a2, .long a3]) ++ List.replicate (5 - (lg_sl ([.long a1, .int a2, .long a3])).length) Slot.unset).toArray = ls at hl ⊢
  have hl : lv_has ls 5 [(0, .long a1), (2, .int a2), (3, .long a3)] := hl
  refine lv_iload_n hx hb dX0_compares_0 rfl (lv_at hl 1 rfl) ?_
  refine lv_sipush (v := 2003) hx hb dX0_compares_1 (by decide) ?_
  refine lv_icmp_ne (tgt := 19) hx hb dX0_compares_4 (by decide) (fun c_1001 => ?_) (fun c_1001 => ?_)
  · skip
    have nc_1001 := nb_ne (-2147483648) (2147483647) c_1001 (btop a2) (k := 2003) (by decide) (by decide)
    refine lv_iload_n hx hb dX0_compares_19 rfl (lv_at hl 1 rfl) ?_
    refine lv_sipush (v := 2004) hx hb dX0_compares_20 (by decide) ?_
    refine lv_icmp_ne (tgt := 40) hx hb dX0_compares_23 (by decide) (fun c_1002 => ?_) (fun c_1002 => ?_)
    · skip
      have nc_1002 := nb_ne (-2147483648) (2147483647) c_1002 nc_1001.1 (k := 2004) (by decide) (by decide)
      refine lv_lload_n hx hb dX0_compares_40 rfl (lv_at hl 0 rfl) ?_
      refine lv_lload_n hx hb dX0_compares_41 rfl (lv_at hl 2 rfl) ?_
      refine W.lcmp hx hb dX0_compares_42 ?_
      refine lv_if_ne (tgt := 50) hx hb dX0_compares_43 (by decide) (fun c_1003 => ?_) (fun c_1003 => ?_)
      · skip
        refine lv_iconst (v := 0) hx hb dX0_compares_50 (by decide) ?_
        exact W.zret (v := 0) hx hb hr rfl (fun t ht hW => ⟨⟨0, _, rfl, Or.inl (⟨rfl, rfl⟩), by rw [ht]; exact hP, hD⟩, hS.F ht⟩) hS.2.2 dX0_compares_51
      · skip
        refine lv_iconst (v := 1) hx hb dX0_compares_46 (by decide) ?_
        refine lv_goto (tgt := 51) hx hb dX0_compares_47 (by decide) ?_
        exact W.zret (v := 1) hx hb hr rfl (fun t ht hW => ⟨⟨1, _, rfl, Or.inr (⟨rfl, rfl⟩), by rw [ht]; exact hP, hD⟩, hS.F ht⟩) hS.2.2 dX0_compares_51
    · skip
      have nc_1002 := nb_eq (2004) (2004) c_1002 nc_1001.1 (bkc (x := 2004) (c := 2004) (by decide)) (by decide)
      refine lv_lload_n hx hb dX0_compares_26 rfl (lv_at hl 0 rfl) ?_
      refine lv_lload_n hx hb dX0_compares_27 rfl (lv_at hl 2 rfl) ?_
      refine W.lcmp hx hb dX0_compares_28 ?_
      refine lv_if_ge (tgt := 36) hx hb dX0_compares_29 (by decide) (fun c_1004 => ?_) (fun c_1004 => ?_)
      · skip
        refine lv_iconst (v := 0) hx hb dX0_compares_36 (by decide) ?_
        refine lv_goto (tgt := 51) hx hb dX0_compares_37 (by decide) ?_
        exact W.zret (v := 0) hx hb hr rfl (fun t ht hW => ⟨⟨0, _, rfl, Or.inl (⟨rfl, rfl⟩), by rw [ht]; exact hP, hD⟩, hS.F ht⟩) hS.2.2 dX0_compares_51
      · skip
        refine lv_iconst (v := 1) hx hb dX0_compares_32 (by decide) ?_
        refine lv_goto (tgt := 51) hx hb dX0_compares_33 (by decide) ?_
        exact W.zret (v := 1) hx hb hr rfl (fun t ht hW => ⟨⟨1, _, rfl, Or.inr (⟨rfl, rfl⟩), by rw [ht]; exact hP, hD⟩, hS.F ht⟩) hS.2.2 dX0_compares_51
  · skip
    have nc_1001 := nb_eq (2003) (2003) c_1001 (btop a2) (bkc (x := 2003) (c := 2003) (by decide)) (by decide)
    refine lv_lload_n hx hb dX0_compares_7 rfl (lv_at hl 0 rfl) ?_
    refine lv_lload_n hx hb dX0_compares_8 rfl (lv_at hl 2 rfl) ?_
    refine W.lcmp hx hb dX0_compares_9 ?_
    refine lv_if_le (tgt := 17) hx hb dX0_compares_10 (by decide) (fun c_1005 => ?_) (fun c_1005 => ?_)
    · skip
      refine lv_iconst (v := 0) hx hb dX0_compares_17 (by decide) ?_
      exact W.zret (v := 0) hx hb hr rfl (fun t ht hW => ⟨⟨0, _, rfl, Or.inl (⟨rfl, rfl⟩), by rw [ht]; exact hP, hD⟩, hS.F ht⟩) hS.2.2 dX0_compares_18
    · skip
      refine lv_iconst (v := 1) hx hb dX0_compares_13 (by decide) ?_
      refine lv_goto (tgt := 18) hx hb dX0_compares_14 (by decide) ?_
      exact W.zret (v := 1) hx hb hr rfl (fun t ht hW => ⟨⟨1, _, rfl, Or.inr (⟨rfl, rfl⟩), by rw [ht]; exact hP, hD⟩, hS.F ht⟩) hS.2.2 dX0_compares_18

set_option maxHeartbeats 4000000 in
set_option maxRecDepth 100000 in
theorem sX0_holds (l : Launch) (G : va_G) (y : Nat → ClassId) (sz : Nat) (ob : Nat) (a1 : Int32) (ob_lines : Int32) (ob_used : Int32) (ob_paying : Nat) (ob_kind : Nat) (ob_within : Nat) (ob_start : Nat) (ob_stop : Nat) (ob_tests : Nat) (ob_facts : Nat) (ob_beyond : Int32) (fob_start : Nat → Int32) (fob_stop : Nat → Int32) (fob_tests : Nat → Int32) (fob_facts : Nat → Int32) (p_ob_lines : (0 : Int) ≤ ob_lines.toInt ∧ ob_lines.toInt ≤ 24) (p_ob_used : (0 : Int) ≤ ob_used.toInt ∧ ob_used.toInt ≤ 700) (p_fob_start : ∀ i, (0 : Int) ≤ (fob_start i).toInt ∧ (fob_start i).toInt ≤ 700) (p_fob_stop : ∀ i, (0 : Int) ≤ (fob_stop i).toInt ∧ (fob_stop i).toInt ≤ 700) (p_ob_beyond : (0 : Int) ≤ ob_beyond.toInt ∧ ob_beyond.toInt ≤ 1) (p_a1 : (0 : Int) ≤ a1.toInt ∧ a1.toInt ≤ 23) : Met l yX0_holds (Cond.code yX0_holds cX0_holds 13 (some .boolean) :: wAll) ({ frames := 1, cells := 0, slots := 0, locals := 24 }) (va_Pc [.ref ob, .int a1] (kp G y sz [(ce_X0 ob ob_lines ob_used ob_paying ob_kind ob_within ob_start ob_stop ob_tests ob_facts ob_beyond), (ce_i24 y ob_start fob_start), (ce_i24 y ob_stop fob_stop), (ce_i700 y ob_tests fob_tests), (ce_i5 y ob_facts fob_facts)])) (va_Qi (fun (r : Int32) (w : va_W) => (∃ (v_683 : Int32), ((0 : Int) ≤ v_683.toInt ∧ v_683.toInt ≤ 1) ∧ r = 0 ∧ w = [(ce_X0 ob ob_lines ob_used ob_paying ob_kind ob_within ob_start ob_stop ob_tests ob_facts v_683), (ce_i24 y ob_start fob_start), (ce_i24 y ob_stop fob_stop), (ce_i700 y ob_tests fob_tests), (ce_i5 y ob_facts fob_facts)]) ∨ (∃ (v_684 : Int32), ((0 : Int) ≤ v_684.toInt ∧ v_684.toInt ≤ 1) ∧ r = 1 ∧ w = [(ce_X0 ob ob_lines ob_used ob_paying ob_kind ob_within ob_start ob_stop ob_tests ob_facts v_684), (ce_i24 y ob_start fob_start), (ce_i24 y ob_stop fob_stop), (ce_i700 y ob_tests fob_tests), (ce_i5 y ob_facts fob_facts)])) (kq G (va_A [(ce_X0 ob ob_lines ob_used ob_paying ob_kind ob_within ob_start ob_stop ob_tests ob_facts ob_beyond), (ce_i24 y ob_start fob_start), (ce_i24 y ob_stop fob_stop), (ce_i700 y ob_tests fob_tests), (ce_i5 y ob_facts fob_facts)] sz)) (va_A [(ce_X0 ob ob_lines ob_used ob_paying ob_kind ob_within ob_start ob_stop ob_tests ob_facts ob_beyond), (ce_i24 y ob_start fob_start), (ce_i24 y ob_stop fob_stop), (ce_i700 y ob_tests fob_tests), (ce_i5 y ob_facts fob_facts)] sz)) 0 0 (va_A [(ce_X0 ob ob_lines ob_used ob_paying ob_kind ob_within ob_start ob_stop ob_tests ob_facts ob_beyond), (ce_i24 y ob_start fob_start), (ce_i24 y ob_stop fob_stop), (ce_i700 y ob_tests fob_tests), (ce_i5 y ob_facts fob_facts)] sz) := by
  refine Met.ofW (cc := cX0_holds) (maxL := 13) (ret := (some .boolean)) (by decide) rfl ?_
  intro p e s m args below meth c s₁ B hml hv
  obtain ⟨rfl, hsz, hP, hK, hD0⟩ := hv
  have hx := B.exec
  have hb := B.bytes
  have hr := B.returns
  have hw0 : ∀ w ∈ wAll, w.before _ s = true := fun w h => atoms_spec (ws := Cond.code yX0_holds cX0_holds 13 (some .boolean) :: wAll) B.pre w (List.mem_cons_of_mem _ h)
  have hown : s.vm.findClass RX0 = some m.cls := findClass_of_methodNamed B.named
  subst hsz
  have hD := hD0.self (sz := s.heap.size)
  generalize hAe : va_A [(ce_X0 ob ob_lines ob_used ob_paying ob_kind ob_within ob_start ob_stop ob_tests ob_facts ob_beyond), (ce_i24 y ob_start fob_start), (ce_i24 y ob_stop fob_stop), (ce_i700 y ob_tests fob_tests), (ce_i5 y ob_facts fob_facts)] s.heap.size = A at hD ⊢
  have hA : ∀ q : Nat, s.heap.size ≤ q → A q := fun q h => by rw [← hAe]; exact Or.inr h
  have hS : va_S A s.heap s.heap [] := va_S.rf
  have hP : va_P G vwCl [(ce_X0 ob ob_lines ob_used ob_paying ob_kind ob_within ob_start ob_stop ob_tests ob_facts ob_beyond), (ce_i24 y ob_start fob_start), (ce_i24 y ob_stop fob_stop), (ce_i700 y ob_tests fob_tests), (ce_i5 y ob_facts fob_facts)] s.heap := hP
  have hl := lv_entry ([.ref ob, .int a1]) (n := 13) (Nat.le_of_ble_eq_true rfl)
  rw [lg_entry_eq]
  generalize (lg_sl ([.ref ob, .int a1]) ++ List.replicate (13 - (lg_sl ([.ref ob, .int a1])).length) Slot.unset).toArray = ls at hl ⊢
  have hl : lv_has ls 13 [(0, .ref ob), (1, .int a1)] := hl
  refine lv_aload_n hx hb dX0_holds_0 rfl (lv_at hl 0 rfl) ?_
  refine va_get (D := G) (ci := 0) (v := .ref ob_stop) (C := RX0) (T := TX0) (N := 10) hx hb hw0 inA_wsX00 hown hK.1 hP 0 rfl rfl 6 (by decide) (hw0 _ m_278) (fun _ h9 => h9) rfl dX0_holds_1 ?_
  refine lv_iload_n hx hb dX0_holds_4 rfl (lv_at hl 1 rfl) ?_
  refine va_iald hx hb hK.1 hP 2 1 rfl rfl (vi p_a1 (by decide)) dX0_holds_5 ?_
  refine lv_topi (fun v_1001 ev_1001 => ?_)
  have bv_1001 : (0 : Int) ≤ v_1001.toInt ∧ v_1001.toInt ≤ 700 := rd_b ev_1001 p_fob_stop
  refine lv_sipush (v := 700) hx hb dX0_holds_6 (by decide) ?_
  refine va_mmin (own := RX0) hx hb (by rw [hml]; exact hl.1.symm) hown (hw0 _ m_281) (hw0 _ m_282) (hw0 _ m_283) (hw0 _ m_284) (Nat.le_of_ble_eq_true rfl) (Nat.le_of_ble_eq_true rfl) (Nat.zero_le _) (Nat.zero_le _) dX0_holds_9 ?_
  refine lv_topi (fun v_1002 ev_1002 => ?_)
  have bv_1002 : (0 : Int) ≤ v_1002.toInt ∧ v_1002.toInt ≤ 700 := bm_min ev_1002 bv_1001 (bkc (x := 700) (c := 700) (by decide)) _ _ (by decide)
  refine lv_istore_n (lv' := [(2, .int v_1002), (0, .ref ob), (1, .int a1)]) hx hb dX0_holds_12 rfl hl (by decide) rfl (fun ls hl => ?_)
  refine lv_lconst (v := 0) hx hb dX0_holds_13 (by decide) ?_
  refine lv_lstore_n (lv' := [(3, .long 0), (2, .int v_1002), (0, .ref ob), (1, .int a1)]) hx hb dX0_holds_14 rfl hl (by decide) rfl (fun ls hl => ?_)
  refine lv_lconst (v := 0) hx hb dX0_holds_15 (by decide) ?_
  refine lv_lstore (lv' := [(5, .long 0), (3, .long 0), (2, .int v_1002), (0, .ref ob), (1, .int a1)]) hx hb dX0_holds_16 hl (by decide) rfl (fun ls hl => ?_)
  refine lv_lconst (v := 1) hx hb dX0_holds_18 (by decide) ?_
  refine lv_lstore (lv' := [(7, .long 1), (5, .long 0), (3, .long 0), (2, .int v_1002), (0, .ref ob), (1, .int a1)]) hx hb dX0_holds_19 hl (by decide) rfl (fun ls hl => ?_)
  refine lv_iconst (v := 0) hx hb dX0_holds_21 (by decide) ?_
  refine lv_istore (lv' := [(9, .int 0), (7, .long 1), (5, .long 0), (3, .long 0), (2, .int v_1002), (0, .ref ob), (1, .int a1)]) hx hb dX0_holds_22 hl (by decide) rfl (fun ls hl => ?_)
  refine lv_sipush (v := 2005) hx hb dX0_holds_24 (by decide) ?_
  refine lv_istore (lv' := [(10, .int 2005), (9, .int 0), (7, .long 1), (5, .long 0), (3, .long 0), (2, .int v_1002), (0, .ref ob), (1, .int a1)]) hx hb dX0_holds_27 hl (by decide) rfl (fun ls hl => ?_)
  refine lv_aload_n hx hb dX0_holds_29 rfl (lv_at hl 6 rfl) ?_
  refine lv_iconst (v := 0) hx hb dX0_holds_30 (by decide) ?_
  refine va_put (D := G) (ci := 0) (v := .int 0) (ty := .boolean) (C := RX0) (T := TX0) (N := 10) hx hb hw0 inA_wsX00 tyX0 tyX0_ok nmX0 hown hK.1 hP hD hS 0 rfl rfl 9 (by decide) (hw0 _ m_264) (fun _ h9 => h9) rfl fd_X0_9 rfl rfl (Nat.le_of_ble_eq_true rfl) dX0_holds_31 (fun H locs hP hD hS => ?_)
  obtain ⟨hP, hD⟩ : vPD G A H [(ce_X0 ob ob_lines ob_used ob_paying ob_kind ob_within ob_start ob_stop ob_tests ob_facts 0), (ce_i24 y ob_start fob_start), (ce_i24 y ob_stop fob_stop), (ce_i700 y ob_tests fob_tests), (ce_i5 y ob_facts fob_facts)] := ⟨hP, hD⟩
  refine lv_aload_n hx hb dX0_holds_34 rfl (lv_at hl 6 rfl) ?_
  refine va_get (D := G) (ci := 0) (v := .ref ob_start) (C := RX0) (T := TX0) (N := 10) hx hb hw0 inA_wsX00 hown hK.1 hP 0 rfl rfl 5 (by decide) (hw0 _ m_277) (fun _ h9 => h9) rfl dX0_holds_35 ?_
  refine lv_iload_n hx hb dX0_holds_38 rfl (lv_at hl 7 rfl) ?_
  refine va_iald hx hb hK.1 hP 1 1 rfl rfl (vi p_a1 (by decide)) dX0_holds_39 ?_
  refine lv_topi (fun v_1003 ev_1003 => ?_)
  have bv_1003 : (0 : Int) ≤ v_1003.toInt ∧ v_1003.toInt ≤ 700 := rd_b ev_1003 p_fob_start
  refine lv_istore (lv' := [(11, .int v_1003), (10, .int 2005), (9, .int 0), (7, .long 1), (5, .long 0), (3, .long 0), (2, .int v_1002), (0, .ref ob), (1, .int a1)]) hx hb dX0_holds_40 hl (by decide) rfl (fun ls hl => ?_)
  refine loopX (fun n H locs ls st => ∃ (v_1205 : Int32) (v_1206 : Int32) (v_1207 : Int32) (v_1208 : Int64) (v_1209 : Int64) (v_1210 : Int64) (v_1211 : Int32), (701 - v_1205.toInt).toNat = n ∧ ((0 : Int) ≤ v_1205.toInt ∧ v_1205.toInt ≤ 701) ∧ ((2003 : Int) ≤ v_1206.toInt ∧ v_1206.toInt ≤ 2147483647) ∧ ((0 : Int) ≤ v_1207.toInt ∧ v_1207.toInt ≤ 1) ∧ ((0 : Int) ≤ v_1211.toInt ∧ v_1211.toInt ≤ 1) ∧ st = [] ∧ vPD G A H [(ce_X0 ob ob_lines ob_used ob_paying ob_kind ob_within ob_start ob_stop ob_tests ob_facts v_1211), (ce_i24 y ob_start fob_start), (ce_i24 y ob_stop fob_stop), (ce_i700 y ob_tests fob_tests), (ce_i5 y ob_facts fob_facts)] ∧ va_S A s.heap H locs ∧ lv_has ls 13 [(11, .int v_1205), (10, .int v_1206), (9, .int v_1207), (7, .long v_1208), (5, .long v_1209), (3, .long v_1210), (2, .int v_1002), (0, .ref ob)]) ?_ (n := (701 - v_1003.toInt).toNat) ⟨v_1003, 2005, 0, 1, 0, 0, 0, rfl, (bw (0) (701) bv_1003 (by decide)), (bw (2003) (2147483647) (bkc (x := 2005) (c := 2005) (by decide)) (by decide)), (bw (0) (1) (bkc (x := 0) (c := 0) (by decide)) (by decide)), (bw (0) (1) (bkc (x := 0) (c := 0) (by decide)) (by decide)), rfl, ⟨hP, hD⟩, hS, lv_sub hl [0, 1, 2, 3, 4, 5, 6, 7] rfl⟩
  rintro n ih_1276 H locs ls st ⟨v_1205, v_1206, v_1207, v_1208, v_1209, v_1210, v_1211, hn_1276, bv_1205, bv_1206, bv_1207, bv_1211, rfl, ⟨hP, hD⟩, hS, hl⟩
  refine lv_iload hx hb dX0_holds_42 (lv_at hl 0 rfl) ?_
  refine lv_iload_n hx hb dX0_holds_44 rfl (lv_at hl 6 rfl) ?_
  refine lv_icmp_ge (tgt := 205) hx hb dX0_holds_45 (by decide) (fun c_1277 => ?_) (fun c_1277 => ?_)
  · skip
    have nc_1277 := nb_le (700) (0) c_1277 bv_1002 bv_1205 (by decide)
    refine lv_iconst (v := 1) hx hb dX0_holds_205 (by decide) ?_
    exact W.zret (v := 1) hx hb hr rfl (fun t ht hW => ⟨⟨1, _, rfl, Or.inr (⟨v_1211, bv_1211, rfl, rfl⟩), by rw [ht]; exact hP, hD⟩, hS.F ht⟩) hS.2.2 dX0_holds_206
  · skip
    have nc_1277 := nb_nle (699) (1) c_1277 bv_1205 bv_1002 (by decide)
    refine lv_iload hx hb dX0_holds_48 (lv_at hl 0 rfl) ?_
    refine lv_iconst (v := 1) hx hb dX0_holds_50 (by decide) ?_
    refine lv_iadd hx hb dX0_holds_51 ?_
    refine lv_topi (fun v_1278 ev_1278 => ?_)
    have qv_1278 := ba_add ev_1278 nc_1277.1 (bkc (x := 1) (c := 1) (by decide)) (by decide)
    have bv_1278 : (1 : Int) ≤ v_1278.toInt ∧ v_1278.toInt ≤ 700 := bq_add qv_1278 nc_1277.1 (bkc (x := 1) (c := 1) (by decide)) _ _ (by decide)
    have qv_1278 : v_1278.toInt = v_1205.toInt + (1) := qv_1278
    refine lv_iload_n hx hb dX0_holds_52 rfl (lv_at hl 6 rfl) ?_
    refine cutW 71 (fun H locs ls st => ∃ (v_1283 : Int32), st = [.int v_1283] ∧ vPD G A H [(ce_X0 ob ob_lines ob_used ob_paying ob_kind ob_within ob_start ob_stop ob_tests ob_facts v_1211), (ce_i24 y ob_start fob_start), (ce_i24 y ob_stop fob_stop), (ce_i700 y ob_tests fob_tests), (ce_i5 y ob_facts fob_facts)] ∧ va_S A s.heap H locs ∧ lv_has ls 13 [(11, .int v_1205), (10, .int v_1206), (9, .int v_1207), (7, .long v_1208), (5, .long v_1209), (3, .long v_1210), (2, .int v_1002), (0, .ref ob)]) ?_ (fun J_71_1283 => ?_)
    · rintro H locs ls st ⟨v_1283, rfl, ⟨hP, hD⟩, hS, hl⟩
      refine lv_istore (lv' := [(12, .int v_1283), (11, .int v_1205), (10, .int v_1206), (9, .int v_1207), (7, .long v_1208), (5, .long v_1209), (3, .long v_1210), (2, .int v_1002), (0, .ref ob)]) hx hb dX0_holds_71 hl (by decide) rfl (fun ls hl => ?_)
      refine lv_aload_n hx hb dX0_holds_73 rfl (lv_at hl 8 rfl) ?_
      refine lv_lload hx hb dX0_holds_74 (lv_at hl 4 rfl) ?_
      refine lv_aload_n hx hb dX0_holds_76 rfl (lv_at hl 8 rfl) ?_
      refine lv_aload_n hx hb dX0_holds_77 rfl (lv_at hl 8 rfl) ?_
      refine va_get (D := G) (ci := 0) (v := .ref ob_tests) (C := RX0) (T := TX0) (N := 10) hx hb hw0 inA_wsX00 hown hK.1 hP 0 rfl rfl 7 (by decide) (hw0 _ m_279) (fun _ h9 => h9) rfl dX0_holds_78 ?_
      refine lv_iload hx hb dX0_holds_81 (lv_at hl 1 rfl) ?_
      refine va_iald hx hb hK.1 hP 3 1 rfl rfl (vi nc_1277.1 (by decide)) dX0_holds_83 ?_
      refine lv_topi (fun v_1284 ev_1284 => ?_)
      refine cVim (As := [.int v_1284]) (rest := [.long v_1208, .ref ob]) ⟨hx, hb, hml, hown, hw0⟩ hA hK hP hD hS [true, false, false, false, true] (sX0_partOf l G y _ ob v_1284 ob_lines ob_used ob_paying ob_kind ob_within ob_start ob_stop ob_tests ob_facts v_1211 fob_facts p_ob_lines p_ob_used bv_1211) rfl ⟨(callB_of 1 hw0 (gA m_304) rfl rfl rfl (hw0 _ m_286) (hw0 _ m_285) cb_X0_partOf ⟨Nat.le_of_ble_eq_true rfl, Nat.le_of_ble_eq_true rfl⟩), (hw0 _ m_287), (hw0 _ m_288)⟩ (ci := 0) (q := (RX0, TX0, 10)) rfl rfl rfl hl.1 (Nat.le_of_ble_eq_true rfl) dX0_holds_84 ⟨Nat.le_of_ble_eq_true rfl, Nat.le_of_ble_eq_true rfl⟩ (fun r_1285 w_1285 H locs hw_1285 hP hD hS => ?_)
      obtain ⟨v_1286, er_1285, rfl⟩ := hw_1285
      subst r_1285
      obtain ⟨hP, hD⟩ : vPD G A H [(ce_X0 ob ob_lines ob_used ob_paying ob_kind ob_within ob_start ob_stop ob_tests ob_facts v_1211), (ce_i24 y ob_start fob_start), (ce_i24 y ob_stop fob_stop), (ce_i700 y ob_tests fob_tests), (ce_i5 y ob_facts fob_facts)] := ⟨hP, hD⟩
      refine lv_i2l hx hb dX0_holds_87 rfl ?_
      refine lv_lmul hx hb dX0_holds_88 ?_
      refine lv_topl (fun v_1287 ev_1287 => ?_)
      refine cVlm (As := [.long v_1287]) (rest := []) ⟨hx, hb, hml, hown, hw0⟩ hA hK hP hD hS [true] (sX0_bounded l G y _ ob v_1287 ob_lines ob_used ob_paying ob_kind ob_within ob_start ob_stop ob_tests ob_facts v_1211 p_ob_lines p_ob_used bv_1211) rfl ⟨(callB_of 1 hw0 (gA m_261) rfl rfl rfl (hw0 _ m_286) (hw0 _ m_289) cb_X0_bounded ⟨Nat.le_of_ble_eq_true rfl, Nat.le_of_ble_eq_true rfl⟩), (hw0 _ m_290), (hw0 _ m_291)⟩ (ci := 0) (q := (RX0, TX0, 10)) rfl rfl rfl hl.1 (Nat.le_of_ble_eq_true rfl) dX0_holds_89 ⟨Nat.le_of_ble_eq_true rfl, Nat.le_of_ble_eq_true rfl⟩ (fun r_1288 w_1288 H locs hw_1288 hP hD hS => ?_)
      obtain ⟨v_1289, v_1290, bv_1290, er_1288, rfl⟩ := hw_1288
      subst r_1288
      obtain ⟨hP, hD⟩ : vPD G A H [(ce_X0 ob ob_lines ob_used ob_paying ob_kind ob_within ob_start ob_stop ob_tests ob_facts v_1290), (ce_i24 y ob_start fob_start), (ce_i24 y ob_stop fob_stop), (ce_i700 y ob_tests fob_tests), (ce_i5 y ob_facts fob_facts)] := ⟨hP, hD⟩
      refine lv_lstore (lv' := [(7, .long v_1289), (12, .int v_1283), (11, .int v_1205), (10, .int v_1206), (9, .int v_1207), (5, .long v_1209), (3, .long v_1210), (2, .int v_1002), (0, .ref ob)]) hx hb dX0_holds_92 hl (by decide) rfl (fun ls hl => ?_)
      refine lv_iload hx hb dX0_holds_94 (lv_at hl 1 rfl) ?_
      refine lv_sipush (v := 2002) hx hb dX0_holds_96 (by decide) ?_
      refine cutW 199 (fun H locs ls st => ∃ (v_1311 : Int32) (v_1312 : Int64) (v_1313 : Int64) (v_1314 : Int32) (v_1315 : Int64) (v_1316 : Int32), ((0 : Int) ≤ v_1311.toInt ∧ v_1311.toInt ≤ 1) ∧ ((2003 : Int) ≤ v_1314.toInt ∧ v_1314.toInt ≤ 2147483647) ∧ ((0 : Int) ≤ v_1316.toInt ∧ v_1316.toInt ≤ 1) ∧ st = [] ∧ vPD G A H [(ce_X0 ob ob_lines ob_used ob_paying ob_kind ob_within ob_start ob_stop ob_tests ob_facts v_1316), (ce_i24 y ob_start fob_start), (ce_i24 y ob_stop fob_stop), (ce_i700 y ob_tests fob_tests), (ce_i5 y ob_facts fob_facts)] ∧ va_S A s.heap H locs ∧ lv_has ls 13 [(9, .int v_1311), (7, .long v_1312), (5, .long v_1313), (11, .int v_1205), (10, .int v_1314), (3, .long v_1315), (2, .int v_1002), (0, .ref ob)]) ?_ (fun J_199_1316 => ?_)
      · rintro H locs ls st ⟨v_1311, v_1312, v_1313, v_1314, v_1315, v_1316, bv_1311, bv_1314, bv_1316, rfl, ⟨hP, hD⟩, hS, hl⟩
        obtain ⟨v_1317, ev_1317⟩ : ∃ z : Int32, z = v_1205 + 2 := ⟨_, rfl⟩
        have qv_1317 := ba_add ev_1317 nc_1277.1 (bkc (x := 2) (c := 2) (by decide)) (by decide)
        have bv_1317 : (2 : Int) ≤ v_1317.toInt ∧ v_1317.toInt ≤ 701 := bq_add qv_1317 nc_1277.1 (bkc (x := 2) (c := 2) (by decide)) _ _ (by decide)
        have qv_1317 : v_1317.toInt = v_1205.toInt + (2) := qv_1317
        refine lv_iinc (v := v_1317) (lv' := [(11, .int v_1317), (9, .int v_1311), (7, .long v_1312), (5, .long v_1313), (10, .int v_1314), (3, .long v_1315), (2, .int v_1002), (0, .ref ob)]) hx hb dX0_holds_199 hl (k := 3) rfl (ev_1317.symm) (by decide) rfl (fun ls hl => ?_)
        refine lv_goto (tgt := 42) hx hb dX0_holds_202 (by decide) ?_
        exact ih_1276 _ (ml_inc (hi := 701) hn_1276 qv_1317 (by decide) ((bw (0) (701) bv_1317 (by decide))).2) _ _ _ _ ⟨v_1317, v_1314, v_1311, v_1312, v_1313, v_1315, v_1316, rfl, (bw (0) (701) bv_1317 (by decide)), bv_1314, bv_1311, bv_1316, rfl, ⟨hP, hD⟩, hS, lv_sub hl [0, 4, 1, 2, 3, 5, 6, 7] rfl⟩
      · skip
        refine lv_icmp_ne (tgt := 105) hx hb dX0_holds_99 (by decide) (fun c_1318 => ?_) (fun c_1318 => ?_)
        · skip
          have nc_1318 := nb_ne (-2147483648) (2147483647) c_1318 (btop v_1283) (k := 2002) (by decide) (by decide)
          refine lv_aload_n hx hb dX0_holds_105 rfl (lv_at hl 8 rfl) ?_
          refine lv_iload hx hb dX0_holds_106 (lv_at hl 4 rfl) ?_
          refine cutW 124 (fun H locs ls st => ∃ (v_1322 : Int64), st = [.long v_1322, .ref ob] ∧ vPD G A H [(ce_X0 ob ob_lines ob_used ob_paying ob_kind ob_within ob_start ob_stop ob_tests ob_facts v_1290), (ce_i24 y ob_start fob_start), (ce_i24 y ob_stop fob_stop), (ce_i700 y ob_tests fob_tests), (ce_i5 y ob_facts fob_facts)] ∧ va_S A s.heap H locs ∧ lv_has ls 13 [(12, .int v_1283), (11, .int v_1205), (10, .int v_1206), (3, .long v_1210), (2, .int v_1002), (0, .ref ob)]) ?_ (fun J_124_1322 => ?_)
          · rintro H locs ls st ⟨v_1322, rfl, ⟨hP, hD⟩, hS, hl⟩
            refine cVlm (As := [.long v_1322]) (rest := []) ⟨hx, hb, hml, hown, hw0⟩ hA hK hP hD hS [true] (sX0_bounded l G y _ ob v_1322 ob_lines ob_used ob_paying ob_kind ob_within ob_start ob_stop ob_tests ob_facts v_1290 p_ob_lines p_ob_used bv_1290) rfl ⟨(callB_of 1 hw0 (gA m_261) rfl rfl rfl (hw0 _ m_286) (hw0 _ m_289) cb_X0_bounded ⟨Nat.le_of_ble_eq_true rfl, Nat.le_of_ble_eq_true rfl⟩), (hw0 _ m_290), (hw0 _ m_291)⟩ (ci := 0) (q := (RX0, TX0, 10)) rfl rfl rfl hl.1 (Nat.le_of_ble_eq_true rfl) dX0_holds_124 ⟨Nat.le_of_ble_eq_true rfl, Nat.le_of_ble_eq_true rfl⟩ (fun r_1323 w_1323 H locs hw_1323 hP hD hS => ?_)
            obtain ⟨v_1324, v_1325, bv_1325, er_1323, rfl⟩ := hw_1323
            subst r_1323
            obtain ⟨hP, hD⟩ : vPD G A H [(ce_X0 ob ob_lines ob_used ob_paying ob_kind ob_within ob_start ob_stop ob_tests ob_facts v_1325), (ce_i24 y ob_start fob_start), (ce_i24 y ob_stop fob_stop), (ce_i700 y ob_tests fob_tests), (ce_i5 y ob_facts fob_facts)] := ⟨hP, hD⟩
            refine lv_lstore (lv' := [(5, .long v_1324), (12, .int v_1283), (11, .int v_1205), (10, .int v_1206), (3, .long v_1210), (2, .int v_1002), (0, .ref ob)]) hx hb dX0_holds_127 hl (by decide) rfl (fun ls hl => ?_)
            refine lv_lconst (v := 1) hx hb dX0_holds_129 (by decide) ?_
            refine lv_lstore (lv' := [(7, .long 1), (5, .long v_1324), (12, .int v_1283), (11, .int v_1205), (10, .int v_1206), (3, .long v_1210), (2, .int v_1002), (0, .ref ob)]) hx hb dX0_holds_130 hl (by decide) rfl (fun ls hl => ?_)
            refine lv_iload hx hb dX0_holds_132 (lv_at hl 2 rfl) ?_
            refine lv_sipush (v := 2001) hx hb dX0_holds_134 (by decide) ?_
            refine cutW 145 (fun H locs ls st => ∃ (v_1327 : Int32), ((0 : Int) ≤ v_1327.toInt ∧ v_1327.toInt ≤ 1) ∧ st = [.int v_1327] ∧ vPD G A H [(ce_X0 ob ob_lines ob_used ob_paying ob_kind ob_within ob_start ob_stop ob_tests ob_facts v_1325), (ce_i24 y ob_start fob_start), (ce_i24 y ob_stop fob_stop), (ce_i700 y ob_tests fob_tests), (ce_i5 y ob_facts fob_facts)] ∧ va_S A s.heap H locs ∧ lv_has ls 13 [(7, .long 1), (5, .long v_1324), (12, .int v_1283), (11, .int v_1205), (10, .int v_1206), (3, .long v_1210), (2, .int v_1002), (0, .ref ob)]) ?_ (fun J_145_1327 => ?_)
            · rintro H locs ls st ⟨v_1327, bv_1327, rfl, ⟨hP, hD⟩, hS, hl⟩
              refine lv_istore (lv' := [(9, .int v_1327), (7, .long 1), (5, .long v_1324), (12, .int v_1283), (11, .int v_1205), (10, .int v_1206), (3, .long v_1210), (2, .int v_1002), (0, .ref ob)]) hx hb dX0_holds_145 hl (by decide) rfl (fun ls hl => ?_)
              refine lv_iload hx hb dX0_holds_147 (lv_at hl 3 rfl) ?_
              refine lv_sipush (v := 2006) hx hb dX0_holds_149 (by decide) ?_
              refine lv_icmp_ne (tgt := 181) hx hb dX0_holds_152 (by decide) (fun c_1328 => ?_) (fun c_1328 => ?_)
              · skip
                have nc_1328 := nb_ne (-2147483648) (2147483647) c_1328 nc_1318.1 (k := 2006) (by decide) (by decide)
                refine lv_iload hx hb dX0_holds_181 (lv_at hl 3 rfl) ?_
                refine lv_sipush (v := 2003) hx hb dX0_holds_183 (by decide) ?_
                refine lv_icmp_lt (tgt := 199) hx hb dX0_holds_186 (by decide) (fun c_1329 => ?_) (fun c_1329 => ?_)
                · skip
                  have nc_1329 := nb_lt (2002) (2003) c_1329 nc_1328.1 (bkc (x := 2003) (c := 2003) (by decide)) (by decide)
                  exact J_199_1316 _ _ _ _ ⟨v_1327, 1, v_1324, v_1206, v_1210, v_1325, bv_1327, bv_1206, bv_1325, rfl, ⟨hP, hD⟩, hS, lv_sub hl [0, 1, 2, 4, 5, 6, 7, 8] rfl⟩
                · skip
                  have nc_1329 := nb_nlt (2003) (2003) c_1329 (bkc (x := 2003) (c := 2003) (by decide)) nc_1328.1 (by decide)
                  refine lv_lload hx hb dX0_holds_189 (lv_at hl 2 rfl) ?_
                  refine lv_lstore_n (lv' := [(3, .long v_1324), (9, .int v_1327), (7, .long 1), (5, .long v_1324), (12, .int v_1283), (11, .int v_1205), (10, .int v_1206), (2, .int v_1002), (0, .ref ob)]) hx hb dX0_holds_191 rfl hl (by decide) rfl (fun ls hl => ?_)
                  refine lv_iload hx hb dX0_holds_192 (lv_at hl 4 rfl) ?_
                  refine lv_istore (lv' := [(10, .int v_1283), (3, .long v_1324), (9, .int v_1327), (7, .long 1), (5, .long v_1324), (12, .int v_1283), (11, .int v_1205), (2, .int v_1002), (0, .ref ob)]) hx hb dX0_holds_194 hl (by decide) rfl (fun ls hl => ?_)
                  refine lv_lconst (v := 0) hx hb dX0_holds_196 (by decide) ?_
                  refine lv_lstore (lv' := [(5, .long 0), (10, .int v_1283), (3, .long v_1324), (9, .int v_1327), (7, .long 1), (12, .int v_1283), (11, .int v_1205), (2, .int v_1002), (0, .ref ob)]) hx hb dX0_holds_197 hl (by decide) rfl (fun ls hl => ?_)
                  exact J_199_1316 _ _ _ _ ⟨v_1327, 1, 0, v_1283, v_1324, v_1325, bv_1327, nc_1329.2.1, bv_1325, rfl, ⟨hP, hD⟩, hS, lv_sub hl [3, 4, 0, 6, 1, 2, 7, 8] rfl⟩
              · skip
                have nc_1328 := nb_eq (2006) (2006) c_1328 nc_1318.1 (bkc (x := 2006) (c := 2006) (by decide)) (by decide)
                refine lv_aload_n hx hb dX0_holds_155 rfl (lv_at hl 8 rfl) ?_
                refine va_get (D := G) (ci := 0) (v := .int v_1325) (C := RX0) (T := TX0) (N := 10) hx hb hw0 inA_wsX00 hown hK.1 hP 0 rfl rfl 9 (by decide) (hw0 _ m_264) (fun _ h9 => h9) rfl dX0_holds_156 ?_
                refine cutW 173 (fun H locs ls st => st = [] ∧ vPD G A H [(ce_X0 ob ob_lines ob_used ob_paying ob_kind ob_within ob_start ob_stop ob_tests ob_facts v_1325), (ce_i24 y ob_start fob_start), (ce_i24 y ob_stop fob_stop), (ce_i700 y ob_tests fob_tests), (ce_i5 y ob_facts fob_facts)] ∧ va_S A s.heap H locs ∧ lv_has ls 13 []) ?_ (fun J_173_1331 => ?_)
                · rintro H locs ls st ⟨rfl, ⟨hP, hD⟩, hS, hl⟩
                  refine lv_iconst (v := 0) hx hb dX0_holds_173 (by decide) ?_
                  exact W.zret (v := 0) hx hb hr rfl (fun t ht hW => ⟨⟨0, _, rfl, Or.inl (⟨v_1325, bv_1325, rfl, rfl⟩), by rw [ht]; exact hP, hD⟩, hS.F ht⟩) hS.2.2 dX0_holds_174
                · skip
                  refine lv_if_ne (tgt := 173) hx hb dX0_holds_159 (by decide) (fun c_1332 => ?_) (fun c_1332 => ?_)
                  · skip
                    have nc_1332 := nb_ne (1) (1) c_1332 bv_1325 (k := 0) (by decide) (by decide)
                    exact J_173_1331 _ _ _ _ ⟨rfl, ⟨hP, hD⟩, hS, lv_sub hl [] rfl⟩
                  · skip
                    have nc_1332 := nb_eq (0) (0) c_1332 bv_1325 (bkc (x := 0) (c := 0) (by decide)) (by decide)
                    refine lv_lload_n hx hb dX0_holds_162 rfl (lv_at hl 6 rfl) ?_
                    refine lv_iload hx hb dX0_holds_163 (lv_at hl 5 rfl) ?_
                    refine lv_lload hx hb dX0_holds_165 (lv_at hl 2 rfl) ?_
                    refine cSim (As := [.long v_1210, .int v_1206, .long v_1324]) (rest := []) ⟨hx, hb, hml, hown, hw0⟩ hA hK hP hD hS [] (sX0_compares l G y _ v_1210 v_1206 v_1324 ) rfl ⟨(callB_of 3 hw0 (gA m_268) rfl rfl rfl (hw0 _ m_286) (hw0 _ m_292) cb_X0_compares ⟨Nat.le_of_ble_eq_true rfl, Nat.le_of_ble_eq_true rfl⟩), (hw0 _ m_293)⟩ rfl hl.1 (Nat.le_of_ble_eq_true rfl) dX0_holds_167 ⟨Nat.le_of_ble_eq_true rfl, Nat.le_of_ble_eq_true rfl⟩ (fun r_1333 w_1333 H locs hw_1333 hP hD hS => ?_)
                    rcases hw_1333 with ⟨rfl, rfl⟩ | ⟨rfl, rfl⟩
                    · skip
                      obtain ⟨hP, hD⟩ : vPD G A H [(ce_X0 ob ob_lines ob_used ob_paying ob_kind ob_within ob_start ob_stop ob_tests ob_facts v_1325), (ce_i24 y ob_start fob_start), (ce_i24 y ob_stop fob_stop), (ce_i700 y ob_tests fob_tests), (ce_i5 y ob_facts fob_facts)] := ⟨hP, hD⟩
                      refine lv_if_ne (tgt := 175) hx hb dX0_holds_170 (by decide) (fun c9 => absurd (by decide) c9) (fun _ => ?_)
                      exact J_173_1331 _ _ _ _ ⟨rfl, ⟨hP, hD⟩, hS, lv_sub hl [] rfl⟩
                    · skip
                      obtain ⟨hP, hD⟩ : vPD G A H [(ce_X0 ob ob_lines ob_used ob_paying ob_kind ob_within ob_start ob_stop ob_tests ob_facts v_1325), (ce_i24 y ob_start fob_start), (ce_i24 y ob_stop fob_stop), (ce_i700 y ob_tests fob_tests), (ce_i5 y ob_facts fob_facts)] := ⟨hP, hD⟩
                      refine lv_if_ne (tgt := 175) hx hb dX0_holds_170 (by decide) (fun _ => ?_) (fun c9 => absurd c9 (by decide))
                      refine lv_lconst (v := 0) hx hb dX0_holds_175 (by decide) ?_
                      refine lv_lstore (lv' := [(5, .long 0), (9, .int v_1327), (7, .long 1), (12, .int v_1283), (11, .int v_1205), (10, .int v_1206), (3, .long v_1210), (2, .int v_1002), (0, .ref ob)]) hx hb dX0_holds_176 hl (by decide) rfl (fun ls hl => ?_)
                      refine lv_goto (tgt := 199) hx hb dX0_holds_178 (by decide) ?_
                      exact J_199_1316 _ _ _ _ ⟨v_1327, 1, 0, v_1206, v_1210, v_1325, bv_1327, bv_1206, (bw (0) (1) nc_1332.1 (by decide)), rfl, ⟨hP, hD⟩, hS, lv_sub hl [1, 2, 0, 4, 5, 6, 7, 8] rfl⟩
            · skip
              refine lv_icmp_ne (tgt := 144) hx hb dX0_holds_137 (by decide) (fun c_1334 => ?_) (fun c_1334 => ?_)
              · skip
                have nc_1334 := nb_ne (-2147483648) (2147483647) c_1334 nc_1318.1 (k := 2001) (by decide) (by decide)
                refine lv_iconst (v := 0) hx hb dX0_holds_144 (by decide) ?_
                exact J_145_1327 _ _ _ _ ⟨0, (bw (0) (1) (bkc (x := 0) (c := 0) (by decide)) (by decide)), rfl, ⟨hP, hD⟩, hS, lv_sub hl [0, 1, 2, 3, 4, 5, 6, 7] rfl⟩
              · skip
                have nc_1334 := nb_eq (2001) (2001) c_1334 nc_1318.1 (bkc (x := 2001) (c := 2001) (by decide)) (by decide)
                refine lv_iconst (v := 1) hx hb dX0_holds_140 (by decide) ?_
                refine lv_goto (tgt := 145) hx hb dX0_holds_141 (by decide) ?_
                exact J_145_1327 _ _ _ _ ⟨1, (bw (0) (1) (bkc (x := 1) (c := 1) (by decide)) (by decide)), rfl, ⟨hP, hD⟩, hS, lv_sub hl [0, 1, 2, 3, 4, 5, 6, 7] rfl⟩
          · skip
            refine lv_if_eq (tgt := 119) hx hb dX0_holds_108 (by decide) (fun c_1335 => ?_) (fun c_1335 => ?_)
            · skip
              have nc_1335 := nb_eq (0) (0) c_1335 bv_1207 (bkc (x := 0) (c := 0) (by decide)) (by decide)
              refine lv_lload hx hb dX0_holds_119 (lv_at hl 5 rfl) ?_
              refine lv_lload hx hb dX0_holds_121 (lv_at hl 0 rfl) ?_
              refine lv_ladd hx hb dX0_holds_123 ?_
              refine lv_topl (fun v_1336 ev_1336 => ?_)
              exact J_124_1322 _ _ _ _ ⟨v_1336, rfl, ⟨hP, hD⟩, hS, lv_sub hl [1, 2, 3, 6, 7, 8] rfl⟩
            · skip
              have nc_1335 := nb_ne (1) (1) c_1335 bv_1207 (k := 0) (by decide) (by decide)
              refine lv_lload hx hb dX0_holds_111 (lv_at hl 5 rfl) ?_
              refine lv_lload hx hb dX0_holds_113 (lv_at hl 0 rfl) ?_
              refine lv_lsub hx hb dX0_holds_115 ?_
              refine lv_topl (fun v_1337 ev_1337 => ?_)
              refine lv_goto (tgt := 124) hx hb dX0_holds_116 (by decide) ?_
              exact J_124_1322 _ _ _ _ ⟨v_1337, rfl, ⟨hP, hD⟩, hS, lv_sub hl [1, 2, 3, 6, 7, 8] rfl⟩
        · skip
          have nc_1318 := nb_eq (2002) (2002) c_1318 (btop v_1283) (bkc (x := 2002) (c := 2002) (by decide)) (by decide)
          refine lv_goto (tgt := 199) hx hb dX0_holds_102 (by decide) ?_
          exact J_199_1316 _ _ _ _ ⟨v_1207, v_1289, v_1209, v_1206, v_1210, v_1290, bv_1207, bv_1206, bv_1290, rfl, ⟨hP, hD⟩, hS, lv_sub hl [4, 0, 5, 2, 3, 6, 7, 8] rfl⟩
    · skip
      refine lv_icmp_ge (tgt := 68) hx hb dX0_holds_53 (by decide) (fun c_1338 => ?_) (fun c_1338 => ?_)
      · skip
        have nc_1338 := nb_le (700) (1) c_1338 nc_1277.2.1 bv_1278 (by decide)
        refine lv_sipush (v := 2006) hx hb dX0_holds_68 (by decide) ?_
        exact J_71_1283 _ _ _ _ ⟨2006, rfl, ⟨hP, hD⟩, hS, lv_sub hl [0, 1, 2, 3, 4, 5, 6, 7] rfl⟩
      · skip
        have nc_1338 := nb_nle (699) (2) c_1338 bv_1278 nc_1277.2.1 (by decide)
        have h_1339 : (0 : Int) ≤ v_1205.toInt ∧ v_1205.toInt ≤ 698 := bq_in1 qv_1278 nc_1338.1 nc_1277.1 (bkc (x := 1) (c := 1) (by decide)) (by decide)
        refine lv_aload_n hx hb dX0_holds_56 rfl (lv_at hl 7 rfl) ?_
        refine va_get (D := G) (ci := 0) (v := .ref ob_tests) (C := RX0) (T := TX0) (N := 10) hx hb hw0 inA_wsX00 hown hK.1 hP 0 rfl rfl 7 (by decide) (hw0 _ m_279) (fun _ h9 => h9) rfl dX0_holds_57 ?_
        refine lv_iload hx hb dX0_holds_60 (lv_at hl 0 rfl) ?_
        refine lv_iconst (v := 1) hx hb dX0_holds_62 (by decide) ?_
        refine lv_iadd hx hb dX0_holds_63 ?_
        refine lv_topi (fun v_1340 ev_1340 => ?_)
        obtain rfl : v_1278 = v_1340 := (ev_1340.trans (ev_1278.symm)).symm
        refine va_iald hx hb hK.1 hP 3 1 rfl rfl (vi nc_1338.1 (by decide)) dX0_holds_64 ?_
        refine lv_topi (fun v_1341 ev_1341 => ?_)
        refine lv_goto (tgt := 71) hx hb dX0_holds_65 (by decide) ?_
        exact J_71_1283 _ _ _ _ ⟨v_1341, rfl, ⟨hP, hD⟩, hS, lv_sub hl [0, 1, 2, 3, 4, 5, 6, 7] rfl⟩

set_option maxHeartbeats 4000000 in
set_option maxRecDepth 100000 in
theorem sX0_lineFor (l : Launch) (G : va_G) (y : Nat → ClassId) (sz : Nat) (ob : Nat) (a1 : Int32) (a2 : Int32) (a3 : Int32) (a4 : Int32) (a5 : Int32) (a6 : Int32) (ob_lines : Int32) (ob_used : Int32) (ob_paying : Nat) (ob_kind : Nat) (ob_within : Nat) (ob_start : Nat) (ob_stop : Nat) (ob_tests : Nat) (ob_facts : Nat) (ob_beyond : Int32) (fob_paying : Nat → Int32) (fob_start : Nat → Int32) (fob_stop : Nat → Int32) (fob_tests : Nat → Int32) (fob_facts : Nat → Int32) (p_ob_lines : (0 : Int) ≤ ob_lines.toInt ∧ ob_lines.toInt ≤ 24) (p_ob_used : (0 : Int) ≤ ob_used.toInt ∧ ob_used.toInt ≤ 700) (p_fob_start : ∀ i, (0 : Int) ≤ (fob_start i).toInt ∧ (fob_start i).toInt ≤ 700) (p_fob_stop : ∀ i, (0 : Int) ≤ (fob_stop i).toInt ∧ (fob_stop i).toInt ≤ 700) (p_ob_beyond : (0 : Int) ≤ ob_beyond.toInt ∧ ob_beyond.toInt ≤ 1) : Met l yX0_lineFor (Cond.code yX0_lineFor cX0_lineFor 8 (some .int) :: wAll) ({ frames := 2, cells := 0, slots := 0, locals := 56 }) (va_Pc [.ref ob, .int a1, .int a2, .int a3, .int a4, .int a5, .int a6] (kp G y sz [(ce_X0 ob ob_lines ob_used ob_paying ob_kind ob_within ob_start ob_stop ob_tests ob_facts ob_beyond), (ce_i24 y ob_paying fob_paying), (ce_i24 y ob_start fob_start), (ce_i24 y ob_stop fob_stop), (ce_i700 y ob_tests fob_tests), (ce_i5 y ob_facts fob_facts)])) (va_Qi (fun (r : Int32) (w : va_W) => (∃ (v_365 : Int32) (v_366 : Int32) (f_367 : Nat → Int32), ((-1 : Int) ≤ v_365.toInt ∧ v_365.toInt ≤ 23) ∧ ((0 : Int) ≤ v_366.toInt ∧ v_366.toInt ≤ 1) ∧ r = v_365 ∧ w = [(ce_X0 ob ob_lines ob_used ob_paying ob_kind ob_within ob_start ob_stop ob_tests ob_facts v_366), (ce_i24 y ob_paying fob_paying), (ce_i24 y ob_start fob_start), (ce_i24 y ob_stop fob_stop), (ce_i700 y ob_tests fob_tests), (ce_i5 y ob_facts f_367)])) (kq G (va_A [(ce_X0 ob ob_lines ob_used ob_paying ob_kind ob_within ob_start ob_stop ob_tests ob_facts ob_beyond), (ce_i24 y ob_paying fob_paying), (ce_i24 y ob_start fob_start), (ce_i24 y ob_stop fob_stop), (ce_i700 y ob_tests fob_tests), (ce_i5 y ob_facts fob_facts)] sz)) (va_A [(ce_X0 ob ob_lines ob_used ob_paying ob_kind ob_within ob_start ob_stop ob_tests ob_facts ob_beyond), (ce_i24 y ob_paying fob_paying), (ce_i24 y ob_start fob_start), (ce_i24 y ob_stop fob_stop), (ce_i700 y ob_tests fob_tests), (ce_i5 y ob_facts fob_facts)] sz)) 0 0 (va_A [(ce_X0 ob ob_lines ob_used ob_paying ob_kind ob_within ob_start ob_stop ob_tests ob_facts ob_beyond), (ce_i24 y ob_paying fob_paying), (ce_i24 y ob_start fob_start), (ce_i24 y ob_stop fob_stop), (ce_i700 y ob_tests fob_tests), (ce_i5 y ob_facts fob_facts)] sz) := by
  refine Met.ofW (cc := cX0_lineFor) (maxL := 8) (ret := (some .int)) (by decide) rfl ?_
  intro p e s m args below meth c s₁ B hml hv
  obtain ⟨rfl, hsz, hP, hK, hD0⟩ := hv
  have hx := B.exec
  have hb := B.bytes
  have hr := B.returns
  have hw0 : ∀ w ∈ wAll, w.before _ s = true := fun w h => atoms_spec (ws := Cond.code yX0_lineFor cX0_lineFor 8 (some .int) :: wAll) B.pre w (List.mem_cons_of_mem _ h)
  have hown : s.vm.findClass RX0 = some m.cls := findClass_of_methodNamed B.named
  subst hsz
  have hD := hD0.self (sz := s.heap.size)
  generalize hAe : va_A [(ce_X0 ob ob_lines ob_used ob_paying ob_kind ob_within ob_start ob_stop ob_tests ob_facts ob_beyond), (ce_i24 y ob_paying fob_paying), (ce_i24 y ob_start fob_start), (ce_i24 y ob_stop fob_stop), (ce_i700 y ob_tests fob_tests), (ce_i5 y ob_facts fob_facts)] s.heap.size = A at hD ⊢
  have hA : ∀ q : Nat, s.heap.size ≤ q → A q := fun q h => by rw [← hAe]; exact Or.inr h
  have hS : va_S A s.heap s.heap [] := va_S.rf
  have hP : va_P G vwCl [(ce_X0 ob ob_lines ob_used ob_paying ob_kind ob_within ob_start ob_stop ob_tests ob_facts ob_beyond), (ce_i24 y ob_paying fob_paying), (ce_i24 y ob_start fob_start), (ce_i24 y ob_stop fob_stop), (ce_i700 y ob_tests fob_tests), (ce_i5 y ob_facts fob_facts)] s.heap := hP
  have hl := lv_entry ([.ref ob, .int a1, .int a2, .int a3, .int a4, .int a5, .int a6]) (n := 8) (Nat.le_of_ble_eq_true rfl)
  rw [lg_entry_eq]
  generalize (lg_sl ([.ref ob, .int a1, .int a2, .int a3, .int a4, .int a5, .int a6]) ++ List.replicate (8 - (lg_sl ([.ref ob, .int a1, .int a2, .int a3, .int a4, .int a5, .int a6])).length) Slot.unset).toArray = ls at hl ⊢
  have hl : lv_has ls 8 [(0, .ref ob), (1, .int a1), (2, .int a2), (3, .int a3), (4, .int a4), (5, .int a5), (6, .int a6)] := hl
  refine lv_aload_n hx hb dX0_lineFor_0 rfl (lv_at hl 0 rfl) ?_
  refine va_get (D := G) (ci := 0) (v := .ref ob_facts) (C := RX0) (T := TX0) (N := 10) hx hb hw0 inA_wsX00 hown hK.1 hP 0 rfl rfl 8 (by decide) (hw0 _ m_299) (fun _ h9 => h9) rfl dX0_lineFor_1 ?_
  refine lv_iconst (v := 0) hx hb dX0_lineFor_4 (by decide) ?_
  refine lv_iload_n hx hb dX0_lineFor_5 rfl (lv_at hl 2 rfl) ?_
  refine va_iast hx hb hK.1 hP hD hS 5 1 rfl rfl (vi (bkc (x := 0) (c := 0) (by decide)) (by decide)) dX0_lineFor_6 (fun H locs hP hD hS => ?_)
  generalize hf_1001 : (upd fob_facts (0 : Int32).toNatClampNeg a2) = f_1001 at hP hD
  obtain ⟨hP, hD⟩ : vPD G A H [(ce_X0 ob ob_lines ob_used ob_paying ob_kind ob_within ob_start ob_stop ob_tests ob_facts ob_beyond), (ce_i24 y ob_paying fob_paying), (ce_i24 y ob_start fob_start), (ce_i24 y ob_stop fob_stop), (ce_i700 y ob_tests fob_tests), (ce_i5 y ob_facts f_1001)] := ⟨hP, hD⟩
  refine lv_aload_n hx hb dX0_lineFor_7 rfl (lv_at hl 0 rfl) ?_
  refine va_get (D := G) (ci := 0) (v := .ref ob_facts) (C := RX0) (T := TX0) (N := 10) hx hb hw0 inA_wsX00 hown hK.1 hP 0 rfl rfl 8 (by decide) (hw0 _ m_299) (fun _ h9 => h9) rfl dX0_lineFor_8 ?_
  refine lv_iconst (v := 1) hx hb dX0_lineFor_11 (by decide) ?_
  refine lv_iload_n hx hb dX0_lineFor_12 rfl (lv_at hl 3 rfl) ?_
  refine va_iast hx hb hK.1 hP hD hS 5 1 rfl rfl (vi (bkc (x := 1) (c := 1) (by decide)) (by decide)) dX0_lineFor_13 (fun H locs hP hD hS => ?_)
  generalize hf_1002 : (upd f_1001 (1 : Int32).toNatClampNeg a3) = f_1002 at hP hD
  obtain ⟨hP, hD⟩ : vPD G A H [(ce_X0 ob ob_lines ob_used ob_paying ob_kind ob_within ob_start ob_stop ob_tests ob_facts ob_beyond), (ce_i24 y ob_paying fob_paying), (ce_i24 y ob_start fob_start), (ce_i24 y ob_stop fob_stop), (ce_i700 y ob_tests fob_tests), (ce_i5 y ob_facts f_1002)] := ⟨hP, hD⟩
  refine lv_aload_n hx hb dX0_lineFor_14 rfl (lv_at hl 0 rfl) ?_
  refine va_get (D := G) (ci := 0) (v := .ref ob_facts) (C := RX0) (T := TX0) (N := 10) hx hb hw0 inA_wsX00 hown hK.1 hP 0 rfl rfl 8 (by decide) (hw0 _ m_299) (fun _ h9 => h9) rfl dX0_lineFor_15 ?_
  refine lv_iconst (v := 2) hx hb dX0_lineFor_18 (by decide) ?_
  refine lv_iload hx hb dX0_lineFor_19 (lv_at hl 4 rfl) ?_
  refine va_iast hx hb hK.1 hP hD hS 5 1 rfl rfl (vi (bkc (x := 2) (c := 2) (by decide)) (by decide)) dX0_lineFor_21 (fun H locs hP hD hS => ?_)
  generalize hf_1003 : (upd f_1002 (2 : Int32).toNatClampNeg a4) = f_1003 at hP hD
  obtain ⟨hP, hD⟩ : vPD G A H [(ce_X0 ob ob_lines ob_used ob_paying ob_kind ob_within ob_start ob_stop ob_tests ob_facts ob_beyond), (ce_i24 y ob_paying fob_paying), (ce_i24 y ob_start fob_start), (ce_i24 y ob_stop fob_stop), (ce_i700 y ob_tests fob_tests), (ce_i5 y ob_facts f_1003)] := ⟨hP, hD⟩
  refine lv_aload_n hx hb dX0_lineFor_22 rfl (lv_at hl 0 rfl) ?_
  refine va_get (D := G) (ci := 0) (v := .ref ob_facts) (C := RX0) (T := TX0) (N := 10) hx hb hw0 inA_wsX00 hown hK.1 hP 0 rfl rfl 8 (by decide) (hw0 _ m_299) (fun _ h9 => h9) rfl dX0_lineFor_23 ?_
  refine lv_iconst (v := 3) hx hb dX0_lineFor_26 (by decide) ?_
  refine lv_iload hx hb dX0_lineFor_27 (lv_at hl 5 rfl) ?_
  refine va_iast hx hb hK.1 hP hD hS 5 1 rfl rfl (vi (bkc (x := 3) (c := 3) (by decide)) (by decide)) dX0_lineFor_29 (fun H locs hP hD hS => ?_)
  generalize hf_1004 : (upd f_1003 (3 : Int32).toNatClampNeg a5) = f_1004 at hP hD
  obtain ⟨hP, hD⟩ : vPD G A H [(ce_X0 ob ob_lines ob_used ob_paying ob_kind ob_within ob_start ob_stop ob_tests ob_facts ob_beyond), (ce_i24 y ob_paying fob_paying), (ce_i24 y ob_start fob_start), (ce_i24 y ob_stop fob_stop), (ce_i700 y ob_tests fob_tests), (ce_i5 y ob_facts f_1004)] := ⟨hP, hD⟩
  refine lv_aload_n hx hb dX0_lineFor_30 rfl (lv_at hl 0 rfl) ?_
  refine va_get (D := G) (ci := 0) (v := .ref ob_facts) (C := RX0) (T := TX0) (N := 10) hx hb hw0 inA_wsX00 hown hK.1 hP 0 rfl rfl 8 (by decide) (hw0 _ m_299) (fun _ h9 => h9) rfl dX0_lineFor_31 ?_
  refine lv_iconst (v := 4) hx hb dX0_lineFor_34 (by decide) ?_
  refine lv_iload hx hb dX0_lineFor_35 (lv_at hl 6 rfl) ?_
  refine va_iast hx hb hK.1 hP hD hS 5 1 rfl rfl (vi (bkc (x := 4) (c := 4) (by decide)) (by decide)) dX0_lineFor_37 (fun H locs hP hD hS => ?_)
  generalize hf_1005 : (upd f_1004 (4 : Int32).toNatClampNeg a6) = f_1005 at hP hD
  obtain ⟨hP, hD⟩ : vPD G A H [(ce_X0 ob ob_lines ob_used ob_paying ob_kind ob_within ob_start ob_stop ob_tests ob_facts ob_beyond), (ce_i24 y ob_paying fob_paying), (ce_i24 y ob_start fob_start), (ce_i24 y ob_stop fob_stop), (ce_i700 y ob_tests fob_tests), (ce_i5 y ob_facts f_1005)] := ⟨hP, hD⟩
  refine lv_iconst (v := 0) hx hb dX0_lineFor_38 (by decide) ?_
  refine lv_istore (lv' := [(7, .int 0), (0, .ref ob), (1, .int a1), (2, .int a2), (3, .int a3), (4, .int a4), (5, .int a5), (6, .int a6)]) hx hb dX0_lineFor_39 hl (by decide) rfl (fun ls hl => ?_)
  refine loopX (fun n H locs ls st => ∃ (v_1157 : Int32) (v_1158 : Int32), (24 - v_1157.toInt).toNat = n ∧ ((0 : Int) ≤ v_1157.toInt ∧ v_1157.toInt ≤ 24) ∧ ((0 : Int) ≤ v_1158.toInt ∧ v_1158.toInt ≤ 1) ∧ st = [] ∧ vPD G A H [(ce_X0 ob ob_lines ob_used ob_paying ob_kind ob_within ob_start ob_stop ob_tests ob_facts v_1158), (ce_i24 y ob_paying fob_paying), (ce_i24 y ob_start fob_start), (ce_i24 y ob_stop fob_stop), (ce_i700 y ob_tests fob_tests), (ce_i5 y ob_facts f_1005)] ∧ va_S A s.heap H locs ∧ lv_has ls 8 [(7, .int v_1157), (0, .ref ob), (1, .int a1)]) ?_ (n := (24 - (0 : Int32).toInt).toNat) ⟨0, ob_beyond, rfl, (bw (0) (24) (bkc (x := 0) (c := 0) (by decide)) (by decide)), p_ob_beyond, rfl, ⟨hP, hD⟩, hS, lv_sub hl [0, 1, 2] rfl⟩
  rintro n ih_1170 H locs ls st ⟨v_1157, v_1158, hn_1170, bv_1157, bv_1158, rfl, ⟨hP, hD⟩, hS, hl⟩
  refine lv_iload hx hb dX0_lineFor_41 (lv_at hl 0 rfl) ?_
  refine lv_aload_n hx hb dX0_lineFor_43 rfl (lv_at hl 1 rfl) ?_
  refine va_get (D := G) (ci := 0) (v := .int ob_lines) (C := RX0) (T := TX0) (N := 10) hx hb hw0 inA_wsX00 hown hK.1 hP 0 rfl rfl 0 (by decide) (hw0 _ m_266) (fun _ h9 => h9) rfl dX0_lineFor_44 ?_
  refine lv_icmp_ge (tgt := 79) hx hb dX0_lineFor_47 (by decide) (fun c_1171 => ?_) (fun c_1171 => ?_)
  · skip
    have nc_1171 := nb_le (24) (0) c_1171 p_ob_lines bv_1157 (by decide)
    refine lv_iconst (v := (-1)) hx hb dX0_lineFor_79 (by decide) ?_
    exact W.iret (v := (-1)) hx hb hr (fun t ht hW => ⟨⟨(-1), _, rfl, ⟨(-1), v_1158, f_1005, (bw (-1) (23) (bkc (x := (-1)) (c := -1) (by decide)) (by decide)), bv_1158, rfl, rfl⟩, by rw [ht]; exact hP, hD⟩, hS.F ht⟩) hS.2.2 dX0_lineFor_80
  · skip
    have nc_1171 := nb_nle (23) (1) c_1171 bv_1157 p_ob_lines (by decide)
    refine lv_aload_n hx hb dX0_lineFor_50 rfl (lv_at hl 1 rfl) ?_
    refine va_get (D := G) (ci := 0) (v := .ref ob_paying) (C := RX0) (T := TX0) (N := 10) hx hb hw0 inA_wsX00 hown hK.1 hP 0 rfl rfl 2 (by decide) (hw0 _ m_270) (fun _ h9 => h9) rfl dX0_lineFor_51 ?_
    refine lv_iload hx hb dX0_lineFor_54 (lv_at hl 0 rfl) ?_
    refine va_iald hx hb hK.1 hP 1 1 rfl rfl (vi nc_1171.1 (by decide)) dX0_lineFor_56 ?_
    refine lv_topi (fun v_1172 ev_1172 => ?_)
    refine lv_iload_n hx hb dX0_lineFor_57 rfl (lv_at hl 2 rfl) ?_
    refine cutW 73 (fun H locs ls st => ∃ (v_1177 : Int32), ((0 : Int) ≤ v_1177.toInt ∧ v_1177.toInt ≤ 1) ∧ st = [] ∧ vPD G A H [(ce_X0 ob ob_lines ob_used ob_paying ob_kind ob_within ob_start ob_stop ob_tests ob_facts v_1177), (ce_i24 y ob_paying fob_paying), (ce_i24 y ob_start fob_start), (ce_i24 y ob_stop fob_stop), (ce_i700 y ob_tests fob_tests), (ce_i5 y ob_facts f_1005)] ∧ va_S A s.heap H locs ∧ lv_has ls 8 [(7, .int v_1157), (0, .ref ob), (1, .int a1)]) ?_ (fun J_73_1177 => ?_)
    · rintro H locs ls st ⟨v_1177, bv_1177, rfl, ⟨hP, hD⟩, hS, hl⟩
      obtain ⟨v_1178, ev_1178⟩ : ∃ z : Int32, z = v_1157 + 1 := ⟨_, rfl⟩
      have qv_1178 := ba_add ev_1178 nc_1171.1 (bkc (x := 1) (c := 1) (by decide)) (by decide)
      have bv_1178 : (1 : Int) ≤ v_1178.toInt ∧ v_1178.toInt ≤ 24 := bq_add qv_1178 nc_1171.1 (bkc (x := 1) (c := 1) (by decide)) _ _ (by decide)
      have qv_1178 : v_1178.toInt = v_1157.toInt + (1) := qv_1178
      refine lv_iinc (v := v_1178) (lv' := [(7, .int v_1178), (0, .ref ob), (1, .int a1)]) hx hb dX0_lineFor_73 hl (k := 0) rfl (ev_1178.symm) (by decide) rfl (fun ls hl => ?_)
      refine lv_goto (tgt := 41) hx hb dX0_lineFor_76 (by decide) ?_
      exact ih_1170 _ (ml_inc (hi := 24) hn_1170 qv_1178 (by decide) ((bw (0) (24) bv_1178 (by decide))).2) _ _ _ _ ⟨v_1178, v_1177, rfl, (bw (0) (24) bv_1178 (by decide)), bv_1177, rfl, ⟨hP, hD⟩, hS, lv_sub hl [0, 1, 2] rfl⟩
    · skip
      refine lv_icmp_ne (tgt := 73) hx hb dX0_lineFor_58 (by decide) (fun c_1179 => ?_) (fun c_1179 => ?_)
      · skip
        exact J_73_1177 _ _ _ _ ⟨v_1158, bv_1158, rfl, ⟨hP, hD⟩, hS, lv_sub hl [0, 1, 2] rfl⟩
      · skip
        have nc_1179 := nb_eq (-2147483648) (2147483647) c_1179 (btop v_1172) (btop a1) (by decide)
        refine lv_aload_n hx hb dX0_lineFor_61 rfl (lv_at hl 1 rfl) ?_
        refine lv_iload hx hb dX0_lineFor_62 (lv_at hl 0 rfl) ?_
        refine cVim (As := [.int v_1157]) (rest := []) ⟨hx, hb, hml, hown, hw0⟩ hA hK hP hD hS [true, false, true, true, true, true] (sX0_holds l G y _ ob v_1157 ob_lines ob_used ob_paying ob_kind ob_within ob_start ob_stop ob_tests ob_facts v_1158 fob_start fob_stop fob_tests f_1005 (bw (0) (24) nc_1171.2.1 (by decide)) p_ob_used p_fob_start p_fob_stop bv_1158 nc_1171.1) rfl ⟨(callB_of 1 hw0 (gA m_280) rfl rfl rfl (hw0 _ m_286) (hw0 _ m_301) cb_X0_holds ⟨Nat.le_of_ble_eq_true rfl, Nat.le_of_ble_eq_true rfl⟩), (hw0 _ m_302), (hw0 _ m_303)⟩ (ci := 0) (q := (RX0, TX0, 10)) rfl rfl rfl hl.1 (Nat.le_of_ble_eq_true rfl) dX0_lineFor_64 ⟨Nat.le_of_ble_eq_true rfl, Nat.le_of_ble_eq_true rfl⟩ (fun r_1180 w_1180 H locs hw_1180 hP hD hS => ?_)
        rcases hw_1180 with ⟨v_1181, bv_1181, rfl, rfl⟩ | ⟨v_1182, bv_1182, rfl, rfl⟩
        · skip
          obtain ⟨hP, hD⟩ : vPD G A H [(ce_X0 ob ob_lines ob_used ob_paying ob_kind ob_within ob_start ob_stop ob_tests ob_facts v_1181), (ce_i24 y ob_paying fob_paying), (ce_i24 y ob_start fob_start), (ce_i24 y ob_stop fob_stop), (ce_i700 y ob_tests fob_tests), (ce_i5 y ob_facts f_1005)] := ⟨hP, hD⟩
          refine lv_if_eq (tgt := 73) hx hb dX0_lineFor_67 (by decide) (fun _ => ?_) (fun c9 => absurd (by decide) c9)
          exact J_73_1177 _ _ _ _ ⟨v_1181, bv_1181, rfl, ⟨hP, hD⟩, hS, lv_sub hl [0, 1, 2] rfl⟩
        · skip
          obtain ⟨hP, hD⟩ : vPD G A H [(ce_X0 ob ob_lines ob_used ob_paying ob_kind ob_within ob_start ob_stop ob_tests ob_facts v_1182), (ce_i24 y ob_paying fob_paying), (ce_i24 y ob_start fob_start), (ce_i24 y ob_stop fob_stop), (ce_i700 y ob_tests fob_tests), (ce_i5 y ob_facts f_1005)] := ⟨hP, hD⟩
          refine lv_if_eq (tgt := 73) hx hb dX0_lineFor_67 (by decide) (fun c9 => absurd c9 (by decide)) (fun _ => ?_)
          refine lv_iload hx hb dX0_lineFor_70 (lv_at hl 0 rfl) ?_
          exact W.iret (v := v_1157) hx hb hr (fun t ht hW => ⟨⟨v_1157, _, rfl, ⟨v_1157, v_1182, f_1005, (bw (-1) (23) nc_1171.1 (by decide)), bv_1182, rfl, rfl⟩, by rw [ht]; exact hP, hD⟩, hS.F ht⟩) hS.2.2 dX0_lineFor_72

set_option maxHeartbeats 4000000 in
set_option maxRecDepth 100000 in
theorem sX1_clear (l : Launch) (G : va_G) (y : Nat → ClassId) (sz : Nat) (ob : Nat) (ob_size : Int32) (ob_debtor : Nat) (ob_creditor : Nat) (ob_kind : Nat) (ob_due : Nat) (ob_came : Nat) (ob_open : Nat) (ob_kinds : Nat) (fob_open : Nat → Int32) (fob_kinds : Nat → Int32) (p_ob_size : (0 : Int) ≤ ob_size.toInt ∧ ob_size.toInt ≤ 600) : Met l yX1_clear (Cond.code yX1_clear cX1_clear 1 none :: wAll) ({ frames := 1, cells := 0, slots := 0, locals := 23 }) (va_Pc [.ref ob] (kp G y sz [(ce_X1 ob ob_size ob_debtor ob_creditor ob_kind ob_due ob_came ob_open ob_kinds), (ce_i16 y ob_open fob_open), (ce_i256 y ob_kinds fob_kinds)])) (va_Qv (fun (w : va_W) => (∃ (f_9 : Nat → Int32) (f_10 : Nat → Int32), w = [(ce_X1 ob 0 ob_debtor ob_creditor ob_kind ob_due ob_came ob_open ob_kinds), (ce_i16 y ob_open f_9), (ce_i256 y ob_kinds f_10)])) (kq G (va_A [(ce_X1 ob ob_size ob_debtor ob_creditor ob_kind ob_due ob_came ob_open ob_kinds), (ce_i16 y ob_open fob_open), (ce_i256 y ob_kinds fob_kinds)] sz)) (va_A [(ce_X1 ob ob_size ob_debtor ob_creditor ob_kind ob_due ob_came ob_open ob_kinds), (ce_i16 y ob_open fob_open), (ce_i256 y ob_kinds fob_kinds)] sz)) 0 0 (va_A [(ce_X1 ob ob_size ob_debtor ob_creditor ob_kind ob_due ob_came ob_open ob_kinds), (ce_i16 y ob_open fob_open), (ce_i256 y ob_kinds fob_kinds)] sz) := by
  refine Met.ofW (cc := cX1_clear) (maxL := 1) (ret := none) (by decide) rfl ?_
  intro p e s m args below meth c s₁ B hml hv
  obtain ⟨rfl, hsz, hP, hK, hD0⟩ := hv
  have hx := B.exec
  have hb := B.bytes
  have hr := B.returns
  have hw0 : ∀ w ∈ wAll, w.before _ s = true := fun w h => atoms_spec (ws := Cond.code yX1_clear cX1_clear 1 none :: wAll) B.pre w (List.mem_cons_of_mem _ h)
  have hown : s.vm.findClass RX1 = some m.cls := findClass_of_methodNamed B.named
  subst hsz
  have hD := hD0.self (sz := s.heap.size)
  generalize hAe : va_A [(ce_X1 ob ob_size ob_debtor ob_creditor ob_kind ob_due ob_came ob_open ob_kinds), (ce_i16 y ob_open fob_open), (ce_i256 y ob_kinds fob_kinds)] s.heap.size = A at hD ⊢
  have hA : ∀ q : Nat, s.heap.size ≤ q → A q := fun q h => by rw [← hAe]; exact Or.inr h
  have hS : va_S A s.heap s.heap [] := va_S.rf
  have hP : va_P G vwCl [(ce_X1 ob ob_size ob_debtor ob_creditor ob_kind ob_due ob_came ob_open ob_kinds), (ce_i16 y ob_open fob_open), (ce_i256 y ob_kinds fob_kinds)] s.heap := hP
  have hl := lv_entry ([.ref ob]) (n := 1) (Nat.le_of_ble_eq_true rfl)
  rw [lg_entry_eq]
  generalize (lg_sl ([.ref ob]) ++ List.replicate (1 - (lg_sl ([.ref ob])).length) Slot.unset).toArray = ls at hl ⊢
  have hl : lv_has ls 1 [(0, .ref ob)] := hl
  refine lv_aload_n hx hb dX1_clear_0 rfl (lv_at hl 0 rfl) ?_
  refine lv_iconst (v := 0) hx hb dX1_clear_1 (by decide) ?_
  refine va_put (D := G) (ci := 1) (v := .int 0) (ty := .int) (C := RX1) (T := TX1) (N := 8) hx hb hw0 inA_wsX10 tyX1 tyX1_ok nmX1 hown hK.1 hP hD hS 0 rfl rfl 0 (by decide) (hw0 _ m_307) (fun _ h9 => h9) rfl fd_X1_0 rfl rfl (Nat.le_of_ble_eq_true rfl) dX1_clear_2 (fun H locs hP hD hS => ?_)
  obtain ⟨hP, hD⟩ : vPD G A H [(ce_X1 ob 0 ob_debtor ob_creditor ob_kind ob_due ob_came ob_open ob_kinds), (ce_i16 y ob_open fob_open), (ce_i256 y ob_kinds fob_kinds)] := ⟨hP, hD⟩
  refine lv_aload_n hx hb dX1_clear_5 rfl (lv_at hl 0 rfl) ?_
  refine va_get (D := G) (ci := 1) (v := .ref ob_open) (C := RX1) (T := TX1) (N := 8) hx hb hw0 inA_wsX10 hown hK.1 hP 0 rfl rfl 6 (by decide) (hw0 _ m_313) (fun _ h9 => h9) rfl dX1_clear_6 ?_
  refine lv_iconst (v := 0) hx hb dX1_clear_9 (by decide) ?_
  refine cSvm (As := [.ref ob_open, .int 0]) (rest := []) ⟨hx, hb, hml, hown, hw0⟩ hA hK hP hD hS [false, true] (sfill16 l G y _ ob_open 0 fob_open ) rfl ⟨(callB_of 2 hw0 (gA m_32) rfl rfl rfl (hw0 _ m_317) (hw0 _ m_316) cb_J7_fill_53178 ⟨Nat.le_of_ble_eq_true rfl, Nat.le_of_ble_eq_true rfl⟩), (hw0 _ m_318)⟩ rfl hl.1 (Nat.le_of_ble_eq_true rfl) dX1_clear_10 ⟨Nat.le_of_ble_eq_true rfl, Nat.le_of_ble_eq_true rfl⟩ (fun w_1001 H locs hw_1001 hP hD hS => ?_)
  obtain ⟨f_1002, rfl⟩ := hw_1001
  obtain ⟨hP, hD⟩ : vPD G A H [(ce_X1 ob 0 ob_debtor ob_creditor ob_kind ob_due ob_came ob_open ob_kinds), (ce_i16 y ob_open f_1002), (ce_i256 y ob_kinds fob_kinds)] := ⟨hP, hD⟩
  refine lv_aload_n hx hb dX1_clear_13 rfl (lv_at hl 0 rfl) ?_
  refine va_get (D := G) (ci := 1) (v := .ref ob_kinds) (C := RX1) (T := TX1) (N := 8) hx hb hw0 inA_wsX10 hown hK.1 hP 0 rfl rfl 7 (by decide) (hw0 _ m_314) (fun _ h9 => h9) rfl dX1_clear_14 ?_
  refine lv_iconst (v := 0) hx hb dX1_clear_17 (by decide) ?_
  refine cSvm (As := [.ref ob_kinds, .int 0]) (rest := []) ⟨hx, hb, hml, hown, hw0⟩ hA hK hP hD hS [false, false, true] (sfill256 l G y _ ob_kinds 0 fob_kinds ) rfl ⟨(callB_of 2 hw0 (gA m_32) rfl rfl rfl (hw0 _ m_317) (hw0 _ m_316) cb_J7_fill_53178 ⟨Nat.le_of_ble_eq_true rfl, Nat.le_of_ble_eq_true rfl⟩), (hw0 _ m_318)⟩ rfl hl.1 (Nat.le_of_ble_eq_true rfl) dX1_clear_18 ⟨Nat.le_of_ble_eq_true rfl, Nat.le_of_ble_eq_true rfl⟩ (fun w_1003 H locs hw_1003 hP hD hS => ?_)
  obtain ⟨f_1004, rfl⟩ := hw_1003
  obtain ⟨hP, hD⟩ : vPD G A H [(ce_X1 ob 0 ob_debtor ob_creditor ob_kind ob_due ob_came ob_open ob_kinds), (ce_i16 y ob_open f_1002), (ce_i256 y ob_kinds f_1004)] := ⟨hP, hD⟩
  exact W.vret hx hb hr (fun t ht hW => ⟨⟨_, rfl, ⟨f_1002, f_1004, rfl⟩, by rw [ht]; exact hP, hD⟩, hS.F ht⟩) hS.2.2 dX1_clear_21

set_option maxHeartbeats 4000000 in
set_option maxRecDepth 100000 in
theorem sX1_copy (l : Launch) (G : va_G) (y : Nat → ClassId) (sz : Nat) (ob : Nat) (o1 : Nat) (ob_size : Int32) (ob_debtor : Nat) (ob_creditor : Nat) (ob_kind : Nat) (ob_due : Nat) (ob_came : Nat) (ob_open : Nat) (ob_kinds : Nat) (fob_debtor : Nat → Int32) (fob_creditor : Nat → Int32) (fob_kind : Nat → Int32) (fob_due : Nat → Int32) (fob_came : Nat → Int32) (fob_open : Nat → Int32) (fob_kinds : Nat → Int32) (o1_size : Int32) (o1_debtor : Nat) (o1_creditor : Nat) (o1_kind : Nat) (o1_due : Nat) (o1_came : Nat) (o1_open : Nat) (o1_kinds : Nat) (fo1_debtor : Nat → Int32) (fo1_creditor : Nat → Int32) (fo1_kind : Nat → Int32) (fo1_due : Nat → Int32) (fo1_came : Nat → Int32) (fo1_open : Nat → Int32) (fo1_kinds : Nat → Int32) (p_ob_size : (0 : Int) ≤ ob_size.toInt ∧ ob_size.toInt ≤ 600) (p_fob_creditor : ∀ i, (0 : Int) ≤ (fob_creditor i).toInt ∧ (fob_creditor i).toInt ≤ 15) (p_o1_size : (0 : Int) ≤ o1_size.toInt ∧ o1_size.toInt ≤ 600) (p_fo1_creditor : ∀ i, (0 : Int) ≤ (fo1_creditor i).toInt ∧ (fo1_creditor i).toInt ≤ 15) : Met l yX1_copy (Cond.code yX1_copy cX1_copy 2 none :: wAll) ({ frames := 1, cells := 0, slots := 0, locals := 72 }) (va_Pc [.ref ob, .ref o1] (kp G y sz [(ce_X1 ob ob_size ob_debtor ob_creditor ob_kind ob_due ob_came ob_open ob_kinds), (ce_i600 y ob_debtor fob_debtor), (ce_i600 y ob_creditor fob_creditor), (ce_i600 y ob_kind fob_kind), (ce_i600 y ob_due fob_due), (ce_i600 y ob_came fob_came), (ce_i16 y ob_open fob_open), (ce_i256 y ob_kinds fob_kinds), (ce_X1 o1 o1_size o1_debtor o1_creditor o1_kind o1_due o1_came o1_open o1_kinds), (ce_i600 y o1_debtor fo1_debtor), (ce_i600 y o1_creditor fo1_creditor), (ce_i600 y o1_kind fo1_kind), (ce_i600 y o1_due fo1_due), (ce_i600 y o1_came fo1_came), (ce_i16 y o1_open fo1_open), (ce_i256 y o1_kinds fo1_kinds)])) (va_Qv (fun (w : va_W) => (∃ (f_15 : Nat → Int32) (f_16 : Nat → Int32) (f_17 : Nat → Int32) (f_18 : Nat → Int32) (f_19 : Nat → Int32) (f_20 : Nat → Int32) (f_21 : Nat → Int32), (∀ i, (0 : Int) ≤ (f_16 i).toInt ∧ (f_16 i).toInt ≤ 15) ∧ w = [(ce_X1 ob o1_size ob_debtor ob_creditor ob_kind ob_due ob_came ob_open ob_kinds), (ce_i600 y ob_debtor f_15), (ce_i600 y ob_creditor f_16), (ce_i600 y ob_kind f_17), (ce_i600 y ob_due f_18), (ce_i600 y ob_came f_19), (ce_i16 y ob_open f_20), (ce_i256 y ob_kinds f_21), (ce_X1 o1 o1_size o1_debtor o1_creditor o1_kind o1_due o1_came o1_open o1_kinds), (ce_i600 y o1_debtor fo1_debtor), (ce_i600 y o1_creditor fo1_creditor), (ce_i600 y o1_kind fo1_kind), (ce_i600 y o1_due fo1_due), (ce_i600 y o1_came fo1_came), (ce_i16 y o1_open fo1_open), (ce_i256 y o1_kinds fo1_kinds)])) (kq G (va_A [(ce_X1 ob ob_size ob_debtor ob_creditor ob_kind ob_due ob_came ob_open ob_kinds), (ce_i600 y ob_debtor fob_debtor), (ce_i600 y ob_creditor fob_creditor), (ce_i600 y ob_kind fob_kind), (ce_i600 y ob_due fob_due), (ce_i600 y ob_came fob_came), (ce_i16 y ob_open fob_open), (ce_i256 y ob_kinds fob_kinds), (ce_X1 o1 o1_size o1_debtor o1_creditor o1_kind o1_due o1_came o1_open o1_kinds), (ce_i600 y o1_debtor fo1_debtor), (ce_i600 y o1_creditor fo1_creditor), (ce_i600 y o1_kind fo1_kind), (ce_i600 y o1_due fo1_due), (ce_i600 y o1_came fo1_came), (ce_i16 y o1_open fo1_open), (ce_i256 y o1_kinds fo1_kinds)] sz)) (va_A [(ce_X1 ob ob_size ob_debtor ob_creditor ob_kind ob_due ob_came ob_open ob_kinds), (ce_i600 y ob_debtor fob_debtor), (ce_i600 y ob_creditor fob_creditor), (ce_i600 y ob_kind fob_kind), (ce_i600 y ob_due fob_due), (ce_i600 y ob_came fob_came), (ce_i16 y ob_open fob_open), (ce_i256 y ob_kinds fob_kinds), (ce_X1 o1 o1_size o1_debtor o1_creditor o1_kind o1_due o1_came o1_open o1_kinds), (ce_i600 y o1_debtor fo1_debtor), (ce_i600 y o1_creditor fo1_creditor), (ce_i600 y o1_kind fo1_kind), (ce_i600 y o1_due fo1_due), (ce_i600 y o1_came fo1_came), (ce_i16 y o1_open fo1_open), (ce_i256 y o1_kinds fo1_kinds)] sz)) 0 0 (va_A [(ce_X1 ob ob_size ob_debtor ob_creditor ob_kind ob_due ob_came ob_open ob_kinds), (ce_i600 y ob_debtor fob_debtor), (ce_i600 y ob_creditor fob_creditor), (ce_i600 y ob_kind fob_kind), (ce_i600 y ob_due fob_due), (ce_i600 y ob_came fob_came), (ce_i16 y ob_open fob_open), (ce_i256 y ob_kinds fob_kinds), (ce_X1 o1 o1_size o1_debtor o1_creditor o1_kind o1_due o1_came o1_open o1_kinds), (ce_i600 y o1_debtor fo1_debtor), (ce_i600 y o1_creditor fo1_creditor), (ce_i600 y o1_kind fo1_kind), (ce_i600 y o1_due fo1_due), (ce_i600 y o1_came fo1_came), (ce_i16 y o1_open fo1_open), (ce_i256 y o1_kinds fo1_kinds)] sz) := by
  refine Met.ofW (cc := cX1_copy) (maxL := 2) (ret := none) (by decide) rfl ?_
  intro p e s m args below meth c s₁ B hml hv
  obtain ⟨rfl, hsz, hP, hK, hD0⟩ := hv
  have hx := B.exec
  have hb := B.bytes
  have hr := B.returns
  have hw0 : ∀ w ∈ wAll, w.before _ s = true := fun w h => atoms_spec (ws := Cond.code yX1_copy cX1_copy 2 none :: wAll) B.pre w (List.mem_cons_of_mem _ h)
  have hown : s.vm.findClass RX1 = some m.cls := findClass_of_methodNamed B.named
  subst hsz
  have hD := hD0.self (sz := s.heap.size)
  generalize hAe : va_A [(ce_X1 ob ob_size ob_debtor ob_creditor ob_kind ob_due ob_came ob_open ob_kinds), (ce_i600 y ob_debtor fob_debtor), (ce_i600 y ob_creditor fob_creditor), (ce_i600 y ob_kind fob_kind), (ce_i600 y ob_due fob_due), (ce_i600 y ob_came fob_came), (ce_i16 y ob_open fob_open), (ce_i256 y ob_kinds fob_kinds), (ce_X1 o1 o1_size o1_debtor o1_creditor o1_kind o1_due o1_came o1_open o1_kinds), (ce_i600 y o1_debtor fo1_debtor), (ce_i600 y o1_creditor fo1_creditor), (ce_i600 y o1_kind fo1_kind), (ce_i600 y o1_due fo1_due), (ce_i600 y o1_came fo1_came), (ce_i16 y o1_open fo1_open), (ce_i256 y o1_kinds fo1_kinds)] s.heap.size = A at hD ⊢
  have hA : ∀ q : Nat, s.heap.size ≤ q → A q := fun q h => by rw [← hAe]; exact Or.inr h
  have hS : va_S A s.heap s.heap [] := va_S.rf
  have hP : va_P G vwCl [(ce_X1 ob ob_size ob_debtor ob_creditor ob_kind ob_due ob_came ob_open ob_kinds), (ce_i600 y ob_debtor fob_debtor), (ce_i600 y ob_creditor fob_creditor), (ce_i600 y ob_kind fob_kind), (ce_i600 y ob_due fob_due), (ce_i600 y ob_came fob_came), (ce_i16 y ob_open fob_open), (ce_i256 y ob_kinds fob_kinds), (ce_X1 o1 o1_size o1_debtor o1_creditor o1_kind o1_due o1_came o1_open o1_kinds), (ce_i600 y o1_debtor fo1_debtor), (ce_i600 y o1_creditor fo1_creditor), (ce_i600 y o1_kind fo1_kind), (ce_i600 y o1_due fo1_due), (ce_i600 y o1_came fo1_came), (ce_i16 y o1_open fo1_open), (ce_i256 y o1_kinds fo1_kinds)] s.heap := hP
  have hl := lv_entry ([.ref ob, .ref o1]) (n := 2) (Nat.le_of_ble_eq_true rfl)
  rw [lg_entry_eq]
  generalize (lg_sl ([.ref ob, .ref o1]) ++ List.replicate (2 - (lg_sl ([.ref ob, .ref o1])).length) Slot.unset).toArray = ls at hl ⊢
  have hl : lv_has ls 2 [(0, .ref ob), (1, .ref o1)] := hl
  refine lv_aload_n hx hb dX1_copy_0 rfl (lv_at hl 0 rfl) ?_
  refine lv_aload_n hx hb dX1_copy_1 rfl (lv_at hl 1 rfl) ?_
  refine va_get (D := G) (ci := 1) (v := .int o1_size) (C := RX1) (T := TX1) (N := 8) hx hb hw0 inA_wsX10 hown hK.1 hP 8 rfl rfl 0 (by decide) (hw0 _ m_307) (fun _ h9 => h9) rfl dX1_copy_2 ?_
  refine va_put (D := G) (ci := 1) (v := .int o1_size) (ty := .int) (C := RX1) (T := TX1) (N := 8) hx hb hw0 inA_wsX10 tyX1 tyX1_ok nmX1 hown hK.1 hP hD hS 0 rfl rfl 0 (by decide) (hw0 _ m_307) (fun _ h9 => h9) rfl fd_X1_0 rfl rfl (Nat.le_of_ble_eq_true rfl) dX1_copy_5 (fun H locs hP hD hS => ?_)
  obtain ⟨hP, hD⟩ : vPD G A H [(ce_X1 ob o1_size ob_debtor ob_creditor ob_kind ob_due ob_came ob_open ob_kinds), (ce_i600 y ob_debtor fob_debtor), (ce_i600 y ob_creditor fob_creditor), (ce_i600 y ob_kind fob_kind), (ce_i600 y ob_due fob_due), (ce_i600 y ob_came fob_came), (ce_i16 y ob_open fob_open), (ce_i256 y ob_kinds fob_kinds), (ce_X1 o1 o1_size o1_debtor o1_creditor o1_kind o1_due o1_came o1_open o1_kinds), (ce_i600 y o1_debtor fo1_debtor), (ce_i600 y o1_creditor fo1_creditor), (ce_i600 y o1_kind fo1_kind), (ce_i600 y o1_due fo1_due), (ce_i600 y o1_came fo1_came), (ce_i16 y o1_open fo1_open), (ce_i256 y o1_kinds fo1_kinds)] := ⟨hP, hD⟩
  refine lv_aload_n hx hb dX1_copy_8 rfl (lv_at hl 1 rfl) ?_
  refine va_get (D := G) (ci := 1) (v := .ref o1_debtor) (C := RX1) (T := TX1) (N := 8) hx hb hw0 inA_wsX10 hown hK.1 hP 8 rfl rfl 1 (by decide) (hw0 _ m_308) (fun _ h9 => h9) rfl dX1_copy_9 ?_
  refine lv_iconst (v := 0) hx hb dX1_copy_12 (by decide) ?_
  refine lv_aload_n hx hb dX1_copy_13 rfl (lv_at hl 0 rfl) ?_
  refine va_get (D := G) (ci := 1) (v := .ref ob_debtor) (C := RX1) (T := TX1) (N := 8) hx hb hw0 inA_wsX10 hown hK.1 hP 0 rfl rfl 1 (by decide) (hw0 _ m_308) (fun _ h9 => h9) rfl dX1_copy_14 ?_
  refine lv_iconst (v := 0) hx hb dX1_copy_17 (by decide) ?_
  refine lv_aload_n hx hb dX1_copy_18 rfl (lv_at hl 0 rfl) ?_
  refine va_get (D := G) (ci := 1) (v := .int o1_size) (C := RX1) (T := TX1) (N := 8) hx hb hw0 inA_wsX10 hown hK.1 hP 0 rfl rfl 0 (by decide) (hw0 _ m_307) (fun _ h9 => h9) rfl dX1_copy_19 ?_
  refine va_copyi (own := RX1) hx hb (by rw [hml]; exact hl.1.symm) hown (hw0 _ m_320) (hw0 _ m_272) (hw0 _ m_273) (hw0 _ m_274) hK.1 hP hD hS 9 1 1 1 rfl rfl rfl rfl rfl (by decide) (by decide) (cy_n p_o1_size (by decide)) (cy_l p_o1_size (by decide)) (cy_l p_o1_size (by decide)) (fun i hi => rfl) (Nat.le_of_ble_eq_true rfl) (by decide) dX1_copy_22 (fun H locs hP hD hS => ?_)
  generalize hf_1001 : (va_cpy fo1_debtor fob_debtor (0 : Int32).toNatClampNeg (0 : Int32).toNatClampNeg (o1_size : Int32).toNatClampNeg) = f_1001 at hP hD
  obtain ⟨hP, hD⟩ : vPD G A H [(ce_X1 ob o1_size ob_debtor ob_creditor ob_kind ob_due ob_came ob_open ob_kinds), (ce_i600 y ob_debtor f_1001), (ce_i600 y ob_creditor fob_creditor), (ce_i600 y ob_kind fob_kind), (ce_i600 y ob_due fob_due), (ce_i600 y ob_came fob_came), (ce_i16 y ob_open fob_open), (ce_i256 y ob_kinds fob_kinds), (ce_X1 o1 o1_size o1_debtor o1_creditor o1_kind o1_due o1_came o1_open o1_kinds), (ce_i600 y o1_debtor fo1_debtor), (ce_i600 y o1_creditor fo1_creditor), (ce_i600 y o1_kind fo1_kind), (ce_i600 y o1_due fo1_due), (ce_i600 y o1_came fo1_came), (ce_i16 y o1_open fo1_open), (ce_i256 y o1_kinds fo1_kinds)] := ⟨hP, hD⟩
  refine lv_aload_n hx hb dX1_copy_25 rfl (lv_at hl 1 rfl) ?_
  refine va_get (D := G) (ci := 1) (v := .ref o1_creditor) (C := RX1) (T := TX1) (N := 8) hx hb hw0 inA_wsX10 hown hK.1 hP 8 rfl rfl 2 (by decide) (hw0 _ m_309) (fun _ h9 => h9) rfl dX1_copy_26 ?_
  refine lv_iconst (v := 0) hx hb dX1_copy_29 (by decide) ?_
  refine lv_aload_n hx hb dX1_copy_30 rfl (lv_at hl 0 rfl) ?_
  refine va_get (D := G) (ci := 1) (v := .ref ob_creditor) (C := RX1) (T := TX1) (N := 8) hx hb hw0 inA_wsX10 hown hK.1 hP 0 rfl rfl 2 (by decide) (hw0 _ m_309) (fun _ h9 => h9) rfl dX1_copy_31 ?_
  refine lv_iconst (v := 0) hx hb dX1_copy_34 (by decide) ?_
  refine lv_aload_n hx hb dX1_copy_35 rfl (lv_at hl 0 rfl) ?_
  refine va_get (D := G) (ci := 1) (v := .int o1_size) (C := RX1) (T := TX1) (N := 8) hx hb hw0 inA_wsX10 hown hK.1 hP 0 rfl rfl 0 (by decide) (hw0 _ m_307) (fun _ h9 => h9) rfl dX1_copy_36 ?_
  refine va_copyi (own := RX1) hx hb (by rw [hml]; exact hl.1.symm) hown (hw0 _ m_320) (hw0 _ m_272) (hw0 _ m_273) (hw0 _ m_274) hK.1 hP hD hS 10 2 1 1 rfl rfl rfl rfl rfl (by decide) (by decide) (cy_n p_o1_size (by decide)) (cy_l p_o1_size (by decide)) (cy_l p_o1_size (by decide)) (fun i hi => rfl) (Nat.le_of_ble_eq_true rfl) (by decide) dX1_copy_39 (fun H locs hP hD hS => ?_)
  generalize hf_1002 : (va_cpy fo1_creditor fob_creditor (0 : Int32).toNatClampNeg (0 : Int32).toNatClampNeg (o1_size : Int32).toNatClampNeg) = f_1002 at hP hD
  have bf_1002 : ∀ i, (0 : Int) ≤ (f_1002 i).toInt ∧ (f_1002 i).toInt ≤ 15 := hf_1002 ▸ cp_b p_fo1_creditor p_fob_creditor
  obtain ⟨hP, hD⟩ : vPD G A H [(ce_X1 ob o1_size ob_debtor ob_creditor ob_kind ob_due ob_came ob_open ob_kinds), (ce_i600 y ob_debtor f_1001), (ce_i600 y ob_creditor f_1002), (ce_i600 y ob_kind fob_kind), (ce_i600 y ob_due fob_due), (ce_i600 y ob_came fob_came), (ce_i16 y ob_open fob_open), (ce_i256 y ob_kinds fob_kinds), (ce_X1 o1 o1_size o1_debtor o1_creditor o1_kind o1_due o1_came o1_open o1_kinds), (ce_i600 y o1_debtor fo1_debtor), (ce_i600 y o1_creditor fo1_creditor), (ce_i600 y o1_kind fo1_kind), (ce_i600 y o1_due fo1_due), (ce_i600 y o1_came fo1_came), (ce_i16 y o1_open fo1_open), (ce_i256 y o1_kinds fo1_kinds)] := ⟨hP, hD⟩
  refine lv_aload_n hx hb dX1_copy_42 rfl (lv_at hl 1 rfl) ?_
  refine va_get (D := G) (ci := 1) (v := .ref o1_kind) (C := RX1) (T := TX1) (N := 8) hx hb hw0 inA_wsX10 hown hK.1 hP 8 rfl rfl 3 (by decide) (hw0 _ m_310) (fun _ h9 => h9) rfl dX1_copy_43 ?_
  refine lv_iconst (v := 0) hx hb dX1_copy_46 (by decide) ?_
  refine lv_aload_n hx hb dX1_copy_47 rfl (lv_at hl 0 rfl) ?_
  refine va_get (D := G) (ci := 1) (v := .ref ob_kind) (C := RX1) (T := TX1) (N := 8) hx hb hw0 inA_wsX10 hown hK.1 hP 0 rfl rfl 3 (by decide) (hw0 _ m_310) (fun _ h9 => h9) rfl dX1_copy_48 ?_
  refine lv_iconst (v := 0) hx hb dX1_copy_51 (by decide) ?_
  refine lv_aload_n hx hb dX1_copy_52 rfl (lv_at hl 0 rfl) ?_
  refine va_get (D := G) (ci := 1) (v := .int o1_size) (C := RX1) (T := TX1) (N := 8) hx hb hw0 inA_wsX10 hown hK.1 hP 0 rfl rfl 0 (by decide) (hw0 _ m_307) (fun _ h9 => h9) rfl dX1_copy_53 ?_
  refine va_copyi (own := RX1) hx hb (by rw [hml]; exact hl.1.symm) hown (hw0 _ m_320) (hw0 _ m_272) (hw0 _ m_273) (hw0 _ m_274) hK.1 hP hD hS 11 3 1 1 rfl rfl rfl rfl rfl (by decide) (by decide) (cy_n p_o1_size (by decide)) (cy_l p_o1_size (by decide)) (cy_l p_o1_size (by decide)) (fun i hi => rfl) (Nat.le_of_ble_eq_true rfl) (by decide) dX1_copy_56 (fun H locs hP hD hS => ?_)
  generalize hf_1003 : (va_cpy fo1_kind fob_kind (0 : Int32).toNatClampNeg (0 : Int32).toNatClampNeg (o1_size : Int32).toNatClampNeg) = f_1003 at hP hD
  obtain ⟨hP, hD⟩ : vPD G A H [(ce_X1 ob o1_size ob_debtor ob_creditor ob_kind ob_due ob_came ob_open ob_kinds), (ce_i600 y ob_debtor f_1001), (ce_i600 y ob_creditor f_1002), (ce_i600 y ob_kind f_1003), (ce_i600 y ob_due fob_due), (ce_i600 y ob_came fob_came), (ce_i16 y ob_open fob_open), (ce_i256 y ob_kinds fob_kinds), (ce_X1 o1 o1_size o1_debtor o1_creditor o1_kind o1_due o1_came o1_open o1_kinds), (ce_i600 y o1_debtor fo1_debtor), (ce_i600 y o1_creditor fo1_creditor), (ce_i600 y o1_kind fo1_kind), (ce_i600 y o1_due fo1_due), (ce_i600 y o1_came fo1_came), (ce_i16 y o1_open fo1_open), (ce_i256 y o1_kinds fo1_kinds)] := ⟨hP, hD⟩
  refine lv_aload_n hx hb dX1_copy_59 rfl (lv_at hl 1 rfl) ?_
  refine va_get (D := G) (ci := 1) (v := .ref o1_due) (C := RX1) (T := TX1) (N := 8) hx hb hw0 inA_wsX10 hown hK.1 hP 8 rfl rfl 4 (by decide) (hw0 _ m_311) (fun _ h9 => h9) rfl dX1_copy_60 ?_
  refine lv_iconst (v := 0) hx hb dX1_copy_63 (by decide) ?_
  refine lv_aload_n hx hb dX1_copy_64 rfl (lv_at hl 0 rfl) ?_
  refine va_get (D := G) (ci := 1) (v := .ref ob_due) (C := RX1) (T := TX1) (N := 8) hx hb hw0 inA_wsX10 hown hK.1 hP 0 rfl rfl 4 (by decide) (hw0 _ m_311) (fun _ h9 => h9) rfl dX1_copy_65 ?_
  refine lv_iconst (v := 0) hx hb dX1_copy_68 (by decide) ?_
  refine lv_aload_n hx hb dX1_copy_69 rfl (lv_at hl 0 rfl) ?_
  refine va_get (D := G) (ci := 1) (v := .int o1_size) (C := RX1) (T := TX1) (N := 8) hx hb hw0 inA_wsX10 hown hK.1 hP 0 rfl rfl 0 (by decide) (hw0 _ m_307) (fun _ h9 => h9) rfl dX1_copy_70 ?_
  refine va_copyi (own := RX1) hx hb (by rw [hml]; exact hl.1.symm) hown (hw0 _ m_320) (hw0 _ m_272) (hw0 _ m_273) (hw0 _ m_274) hK.1 hP hD hS 12 4 1 1 rfl rfl rfl rfl rfl (by decide) (by decide) (cy_n p_o1_size (by decide)) (cy_l p_o1_size (by decide)) (cy_l p_o1_size (by decide)) (fun i hi => rfl) (Nat.le_of_ble_eq_true rfl) (by decide) dX1_copy_73 (fun H locs hP hD hS => ?_)
  generalize hf_1004 : (va_cpy fo1_due fob_due (0 : Int32).toNatClampNeg (0 : Int32).toNatClampNeg (o1_size : Int32).toNatClampNeg) = f_1004 at hP hD
  obtain ⟨hP, hD⟩ : vPD G A H [(ce_X1 ob o1_size ob_debtor ob_creditor ob_kind ob_due ob_came ob_open ob_kinds), (ce_i600 y ob_debtor f_1001), (ce_i600 y ob_creditor f_1002), (ce_i600 y ob_kind f_1003), (ce_i600 y ob_due f_1004), (ce_i600 y ob_came fob_came), (ce_i16 y ob_open fob_open), (ce_i256 y ob_kinds fob_kinds), (ce_X1 o1 o1_size o1_debtor o1_creditor o1_kind o1_due o1_came o1_open o1_kinds), (ce_i600 y o1_debtor fo1_debtor), (ce_i600 y o1_creditor fo1_creditor), (ce_i600 y o1_kind fo1_kind), (ce_i600 y o1_due fo1_due), (ce_i600 y o1_came fo1_came), (ce_i16 y o1_open fo1_open), (ce_i256 y o1_kinds fo1_kinds)] := ⟨hP, hD⟩
  refine lv_aload_n hx hb dX1_copy_76 rfl (lv_at hl 1 rfl) ?_
  refine va_get (D := G) (ci := 1) (v := .ref o1_came) (C := RX1) (T := TX1) (N := 8) hx hb hw0 inA_wsX10 hown hK.1 hP 8 rfl rfl 5 (by decide) (hw0 _ m_312) (fun _ h9 => h9) rfl dX1_copy_77 ?_
  refine lv_iconst (v := 0) hx hb dX1_copy_80 (by decide) ?_
  refine lv_aload_n hx hb dX1_copy_81 rfl (lv_at hl 0 rfl) ?_
  refine va_get (D := G) (ci := 1) (v := .ref ob_came) (C := RX1) (T := TX1) (N := 8) hx hb hw0 inA_wsX10 hown hK.1 hP 0 rfl rfl 5 (by decide) (hw0 _ m_312) (fun _ h9 => h9) rfl dX1_copy_82 ?_
  refine lv_iconst (v := 0) hx hb dX1_copy_85 (by decide) ?_
  refine lv_aload_n hx hb dX1_copy_86 rfl (lv_at hl 0 rfl) ?_
  refine va_get (D := G) (ci := 1) (v := .int o1_size) (C := RX1) (T := TX1) (N := 8) hx hb hw0 inA_wsX10 hown hK.1 hP 0 rfl rfl 0 (by decide) (hw0 _ m_307) (fun _ h9 => h9) rfl dX1_copy_87 ?_
  refine va_copyi (own := RX1) hx hb (by rw [hml]; exact hl.1.symm) hown (hw0 _ m_320) (hw0 _ m_272) (hw0 _ m_273) (hw0 _ m_274) hK.1 hP hD hS 13 5 1 1 rfl rfl rfl rfl rfl (by decide) (by decide) (cy_n p_o1_size (by decide)) (cy_l p_o1_size (by decide)) (cy_l p_o1_size (by decide)) (fun i hi => rfl) (Nat.le_of_ble_eq_true rfl) (by decide) dX1_copy_90 (fun H locs hP hD hS => ?_)
  generalize hf_1005 : (va_cpy fo1_came fob_came (0 : Int32).toNatClampNeg (0 : Int32).toNatClampNeg (o1_size : Int32).toNatClampNeg) = f_1005 at hP hD
  obtain ⟨hP, hD⟩ : vPD G A H [(ce_X1 ob o1_size ob_debtor ob_creditor ob_kind ob_due ob_came ob_open ob_kinds), (ce_i600 y ob_debtor f_1001), (ce_i600 y ob_creditor f_1002), (ce_i600 y ob_kind f_1003), (ce_i600 y ob_due f_1004), (ce_i600 y ob_came f_1005), (ce_i16 y ob_open fob_open), (ce_i256 y ob_kinds fob_kinds), (ce_X1 o1 o1_size o1_debtor o1_creditor o1_kind o1_due o1_came o1_open o1_kinds), (ce_i600 y o1_debtor fo1_debtor), (ce_i600 y o1_creditor fo1_creditor), (ce_i600 y o1_kind fo1_kind), (ce_i600 y o1_due fo1_due), (ce_i600 y o1_came fo1_came), (ce_i16 y o1_open fo1_open), (ce_i256 y o1_kinds fo1_kinds)] := ⟨hP, hD⟩
  refine lv_aload_n hx hb dX1_copy_93 rfl (lv_at hl 1 rfl) ?_
  refine va_get (D := G) (ci := 1) (v := .ref o1_open) (C := RX1) (T := TX1) (N := 8) hx hb hw0 inA_wsX10 hown hK.1 hP 8 rfl rfl 6 (by decide) (hw0 _ m_313) (fun _ h9 => h9) rfl dX1_copy_94 ?_
  refine lv_iconst (v := 0) hx hb dX1_copy_97 (by decide) ?_
  refine lv_aload_n hx hb dX1_copy_98 rfl (lv_at hl 0 rfl) ?_
  refine va_get (D := G) (ci := 1) (v := .ref ob_open) (C := RX1) (T := TX1) (N := 8) hx hb hw0 inA_wsX10 hown hK.1 hP 0 rfl rfl 6 (by decide) (hw0 _ m_313) (fun _ h9 => h9) rfl dX1_copy_99 ?_
  refine lv_iconst (v := 0) hx hb dX1_copy_102 (by decide) ?_
  refine lv_aload_n hx hb dX1_copy_103 rfl (lv_at hl 0 rfl) ?_
  refine va_get (D := G) (ci := 1) (v := .ref ob_open) (C := RX1) (T := TX1) (N := 8) hx hb hw0 inA_wsX10 hown hK.1 hP 0 rfl rfl 6 (by decide) (hw0 _ m_313) (fun _ h9 => h9) rfl dX1_copy_104 ?_
  refine va_alen (v := 16) hx hb hK.1 hP 6 1 rfl rfl rfl dX1_copy_107 ?_
  refine va_copyi (own := RX1) hx hb (by rw [hml]; exact hl.1.symm) hown (hw0 _ m_320) (hw0 _ m_272) (hw0 _ m_273) (hw0 _ m_274) hK.1 hP hD hS 14 6 1 1 rfl rfl rfl rfl rfl (by decide) (by decide) (by decide) (by decide) (by decide) (fun i hi => rfl) (Nat.le_of_ble_eq_true rfl) (by decide) dX1_copy_108 (fun H locs hP hD hS => ?_)
  generalize hf_1006 : (va_cpy fo1_open fob_open (0 : Int32).toNatClampNeg (0 : Int32).toNatClampNeg (16 : Int32).toNatClampNeg) = f_1006 at hP hD
  obtain ⟨hP, hD⟩ : vPD G A H [(ce_X1 ob o1_size ob_debtor ob_creditor ob_kind ob_due ob_came ob_open ob_kinds), (ce_i600 y ob_debtor f_1001), (ce_i600 y ob_creditor f_1002), (ce_i600 y ob_kind f_1003), (ce_i600 y ob_due f_1004), (ce_i600 y ob_came f_1005), (ce_i16 y ob_open f_1006), (ce_i256 y ob_kinds fob_kinds), (ce_X1 o1 o1_size o1_debtor o1_creditor o1_kind o1_due o1_came o1_open o1_kinds), (ce_i600 y o1_debtor fo1_debtor), (ce_i600 y o1_creditor fo1_creditor), (ce_i600 y o1_kind fo1_kind), (ce_i600 y o1_due fo1_due), (ce_i600 y o1_came fo1_came), (ce_i16 y o1_open fo1_open), (ce_i256 y o1_kinds fo1_kinds)] := ⟨hP, hD⟩
  refine lv_aload_n hx hb dX1_copy_111 rfl (lv_at hl 1 rfl) ?_
  refine va_get (D := G) (ci := 1) (v := .ref o1_kinds) (C := RX1) (T := TX1) (N := 8) hx hb hw0 inA_wsX10 hown hK.1 hP 8 rfl rfl 7 (by decide) (hw0 _ m_314) (fun _ h9 => h9) rfl dX1_copy_112 ?_
  refine lv_iconst (v := 0) hx hb dX1_copy_115 (by decide) ?_
  refine lv_aload_n hx hb dX1_copy_116 rfl (lv_at hl 0 rfl) ?_
  refine va_get (D := G) (ci := 1) (v := .ref ob_kinds) (C := RX1) (T := TX1) (N := 8) hx hb hw0 inA_wsX10 hown hK.1 hP 0 rfl rfl 7 (by decide) (hw0 _ m_314) (fun _ h9 => h9) rfl dX1_copy_117 ?_
  refine lv_iconst (v := 0) hx hb dX1_copy_120 (by decide) ?_
  refine lv_aload_n hx hb dX1_copy_121 rfl (lv_at hl 0 rfl) ?_
  refine va_get (D := G) (ci := 1) (v := .ref ob_kinds) (C := RX1) (T := TX1) (N := 8) hx hb hw0 inA_wsX10 hown hK.1 hP 0 rfl rfl 7 (by decide) (hw0 _ m_314) (fun _ h9 => h9) rfl dX1_copy_122 ?_
  refine va_alen (v := 256) hx hb hK.1 hP 7 1 rfl rfl rfl dX1_copy_125 ?_
  refine va_copyi (own := RX1) hx hb (by rw [hml]; exact hl.1.symm) hown (hw0 _ m_320) (hw0 _ m_272) (hw0 _ m_273) (hw0 _ m_274) hK.1 hP hD hS 15 7 1 1 rfl rfl rfl rfl rfl (by decide) (by decide) (by decide) (by decide) (by decide) (fun i hi => rfl) (Nat.le_of_ble_eq_true rfl) (by decide) dX1_copy_126 (fun H locs hP hD hS => ?_)
  generalize hf_1007 : (va_cpy fo1_kinds fob_kinds (0 : Int32).toNatClampNeg (0 : Int32).toNatClampNeg (256 : Int32).toNatClampNeg) = f_1007 at hP hD
  obtain ⟨hP, hD⟩ : vPD G A H [(ce_X1 ob o1_size ob_debtor ob_creditor ob_kind ob_due ob_came ob_open ob_kinds), (ce_i600 y ob_debtor f_1001), (ce_i600 y ob_creditor f_1002), (ce_i600 y ob_kind f_1003), (ce_i600 y ob_due f_1004), (ce_i600 y ob_came f_1005), (ce_i16 y ob_open f_1006), (ce_i256 y ob_kinds f_1007), (ce_X1 o1 o1_size o1_debtor o1_creditor o1_kind o1_due o1_came o1_open o1_kinds), (ce_i600 y o1_debtor fo1_debtor), (ce_i600 y o1_creditor fo1_creditor), (ce_i600 y o1_kind fo1_kind), (ce_i600 y o1_due fo1_due), (ce_i600 y o1_came fo1_came), (ce_i16 y o1_open fo1_open), (ce_i256 y o1_kinds fo1_kinds)] := ⟨hP, hD⟩
  exact W.vret hx hb hr (fun t ht hW => ⟨⟨_, rfl, ⟨f_1001, f_1002, f_1003, f_1004, f_1005, f_1006, f_1007, bf_1002, rfl⟩, by rw [ht]; exact hP, hD⟩, hS.F ht⟩) hS.2.2 dX1_copy_129

set_option maxHeartbeats 4000000 in
set_option maxRecDepth 100000 in
theorem sX1_settle (l : Launch) (G : va_G) (y : Nat → ClassId) (sz : Nat) (ob : Nat) (a1 : Int32) (a2 : Int32) (a3 : Int32) (ob_size : Int32) (ob_debtor : Nat) (ob_creditor : Nat) (ob_kind : Nat) (ob_due : Nat) (ob_came : Nat) (ob_open : Nat) (ob_kinds : Nat) (fob_debtor : Nat → Int32) (fob_creditor : Nat → Int32) (fob_kind : Nat → Int32) (fob_due : Nat → Int32) (fob_came : Nat → Int32) (fob_open : Nat → Int32) (fob_kinds : Nat → Int32) (p_ob_size : (0 : Int) ≤ ob_size.toInt ∧ ob_size.toInt ≤ 600) (p_fob_creditor : ∀ i, (0 : Int) ≤ (fob_creditor i).toInt ∧ (fob_creditor i).toInt ≤ 15) (p_a1 : (0 : Int) ≤ a1.toInt ∧ a1.toInt ≤ 15) (p_a2 : (0 : Int) ≤ a2.toInt ∧ a2.toInt ≤ 15) : Met l yX1_settle (Cond.code yX1_settle cX1_settle 7 (some .int) :: wAll) ({ frames := 1, cells := 0, slots := 0, locals := 22 }) (va_Pc [.ref ob, .int a1, .int a2, .int a3] (kp G y sz [(ce_X1 ob ob_size ob_debtor ob_creditor ob_kind ob_due ob_came ob_open ob_kinds), (ce_i600 y ob_debtor fob_debtor), (ce_i600 y ob_creditor fob_creditor), (ce_i600 y ob_kind fob_kind), (ce_i600 y ob_due fob_due), (ce_i600 y ob_came fob_came), (ce_i16 y ob_open fob_open), (ce_i256 y ob_kinds fob_kinds)])) (va_Qi (fun (r : Int32) (w : va_W) => (∃ (v_1451 : Int32) (v_1452 : Int32) (f_1453 : Nat → Int32) (f_1454 : Nat → Int32) (f_1455 : Nat → Int32) (f_1456 : Nat → Int32) (f_1457 : Nat → Int32) (f_1458 : Nat → Int32) (f_1459 : Nat → Int32), ((-600 : Int) ≤ v_1451.toInt ∧ v_1451.toInt ≤ 600) ∧ ((0 : Int) ≤ v_1452.toInt ∧ v_1452.toInt ≤ 600) ∧ (∀ i, (0 : Int) ≤ (f_1454 i).toInt ∧ (f_1454 i).toInt ≤ 15) ∧ r = v_1451 ∧ w = [(ce_X1 ob v_1452 ob_debtor ob_creditor ob_kind ob_due ob_came ob_open ob_kinds), (ce_i600 y ob_debtor f_1453), (ce_i600 y ob_creditor f_1454), (ce_i600 y ob_kind f_1455), (ce_i600 y ob_due f_1456), (ce_i600 y ob_came f_1457), (ce_i16 y ob_open f_1458), (ce_i256 y ob_kinds f_1459)])) (kq G (va_A [(ce_X1 ob ob_size ob_debtor ob_creditor ob_kind ob_due ob_came ob_open ob_kinds), (ce_i600 y ob_debtor fob_debtor), (ce_i600 y ob_creditor fob_creditor), (ce_i600 y ob_kind fob_kind), (ce_i600 y ob_due fob_due), (ce_i600 y ob_came fob_came), (ce_i16 y ob_open fob_open), (ce_i256 y ob_kinds fob_kinds)] sz)) (va_A [(ce_X1 ob ob_size ob_debtor ob_creditor ob_kind ob_due ob_came ob_open ob_kinds), (ce_i600 y ob_debtor fob_debtor), (ce_i600 y ob_creditor fob_creditor), (ce_i600 y ob_kind fob_kind), (ce_i600 y ob_due fob_due), (ce_i600 y ob_came fob_came), (ce_i16 y ob_open fob_open), (ce_i256 y ob_kinds fob_kinds)] sz)) 0 0 (va_A [(ce_X1 ob ob_size ob_debtor ob_creditor ob_kind ob_due ob_came ob_open ob_kinds), (ce_i600 y ob_debtor fob_debtor), (ce_i600 y ob_creditor fob_creditor), (ce_i600 y ob_kind fob_kind), (ce_i600 y ob_due fob_due), (ce_i600 y ob_came fob_came), (ce_i16 y ob_open fob_open), (ce_i256 y ob_kinds fob_kinds)] sz) := by
  refine Met.ofW (cc := cX1_settle) (maxL := 7) (ret := (some .int)) (by decide) rfl ?_
  intro p e s m args below meth c s₁ B hml hv
  obtain ⟨rfl, hsz, hP, hK, hD0⟩ := hv
  have hx := B.exec
  have hb := B.bytes
  have hr := B.returns
  have hw0 : ∀ w ∈ wAll, w.before _ s = true := fun w h => atoms_spec (ws := Cond.code yX1_settle cX1_settle 7 (some .int) :: wAll) B.pre w (List.mem_cons_of_mem _ h)
  have hown : s.vm.findClass RX1 = some m.cls := findClass_of_methodNamed B.named
  subst hsz
  have hD := hD0.self (sz := s.heap.size)
  generalize hAe : va_A [(ce_X1 ob ob_size ob_debtor ob_creditor ob_kind ob_due ob_came ob_open ob_kinds), (ce_i600 y ob_debtor fob_debtor), (ce_i600 y ob_creditor fob_creditor), (ce_i600 y ob_kind fob_kind), (ce_i600 y ob_due fob_due), (ce_i600 y ob_came fob_came), (ce_i16 y ob_open fob_open), (ce_i256 y ob_kinds fob_kinds)] s.heap.size = A at hD ⊢
  have hA : ∀ q : Nat, s.heap.size ≤ q → A q := fun q h => by rw [← hAe]; exact Or.inr h
  have hS : va_S A s.heap s.heap [] := va_S.rf
  have hP : va_P G vwCl [(ce_X1 ob ob_size ob_debtor ob_creditor ob_kind ob_due ob_came ob_open ob_kinds), (ce_i600 y ob_debtor fob_debtor), (ce_i600 y ob_creditor fob_creditor), (ce_i600 y ob_kind fob_kind), (ce_i600 y ob_due fob_due), (ce_i600 y ob_came fob_came), (ce_i16 y ob_open fob_open), (ce_i256 y ob_kinds fob_kinds)] s.heap := hP
  have hl := lv_entry ([.ref ob, .int a1, .int a2, .int a3]) (n := 7) (Nat.le_of_ble_eq_true rfl)
  rw [lg_entry_eq]
  generalize (lg_sl ([.ref ob, .int a1, .int a2, .int a3]) ++ List.replicate (7 - (lg_sl ([.ref ob, .int a1, .int a2, .int a3])).length) Slot.unset).toArray = ls at hl ⊢
  have hl : lv_has ls 7 [(0, .ref ob), (1, .int a1), (2, .int a2), (3, .int a3)] := hl
  refine lv_aload_n hx hb dX1_settle_0 rfl (lv_at hl 0 rfl) ?_
  refine lv_iload_n hx hb dX1_settle_1 rfl (lv_at hl 1 rfl) ?_
  refine lv_iload_n hx hb dX1_settle_2 rfl (lv_at hl 2 rfl) ?_
  refine cVim (As := [.int a1, .int a2]) (rest := []) ⟨hx, hb, hml, hown, hw0⟩ hA hK hP hD hS [true, false, false, false, false, false, false, true] (sX1_kindsOf l G y _ ob a1 a2 ob_size ob_debtor ob_creditor ob_kind ob_due ob_came ob_open ob_kinds fob_kinds p_ob_size p_a1 p_a2) rfl ⟨(callB_of 2 hw0 (gA m_323) rfl rfl rfl (hw0 _ m_330) (hw0 _ m_329) cb_X1_kindsOf ⟨Nat.le_of_ble_eq_true rfl, Nat.le_of_ble_eq_true rfl⟩), (hw0 _ m_331), (hw0 _ m_332)⟩ (ci := 1) (q := (RX1, TX1, 8)) rfl rfl rfl hl.1 (Nat.le_of_ble_eq_true rfl) dX1_settle_3 ⟨Nat.le_of_ble_eq_true rfl, Nat.le_of_ble_eq_true rfl⟩ (fun r_1001 w_1001 H locs hw_1001 hP hD hS => ?_)
  obtain ⟨v_1002, er_1001, rfl⟩ := hw_1001
  subst r_1001
  obtain ⟨hP, hD⟩ : vPD G A H [(ce_X1 ob ob_size ob_debtor ob_creditor ob_kind ob_due ob_came ob_open ob_kinds), (ce_i600 y ob_debtor fob_debtor), (ce_i600 y ob_creditor fob_creditor), (ce_i600 y ob_kind fob_kind), (ce_i600 y ob_due fob_due), (ce_i600 y ob_came fob_came), (ce_i16 y ob_open fob_open), (ce_i256 y ob_kinds fob_kinds)] := ⟨hP, hD⟩
  refine lv_iconst (v := 2) hx hb dX1_settle_6 (by decide) ?_
  refine lv_iload_n hx hb dX1_settle_7 rfl (lv_at hl 3 rfl) ?_
  refine lv_ishl hx hb dX1_settle_8 ?_
  refine lv_topi (fun v_1003 ev_1003 => ?_)
  refine lv_iconst (v := 1) hx hb dX1_settle_9 (by decide) ?_
  refine lv_isub hx hb dX1_settle_10 ?_
  refine lv_topi (fun v_1004 ev_1004 => ?_)
  refine lv_iand hx hb dX1_settle_11 ?_
  refine lv_topi (fun v_1005 ev_1005 => ?_)
  refine lv_istore (lv' := [(4, .int v_1005), (0, .ref ob), (1, .int a1), (2, .int a2), (3, .int a3)]) hx hb dX1_settle_12 hl (by decide) rfl (fun ls hl => ?_)
  refine lv_iload hx hb dX1_settle_14 (lv_at hl 0 rfl) ?_
  refine lv_if_ne (tgt := 21) hx hb dX1_settle_16 (by decide) (fun c_1006 => ?_) (fun c_1006 => ?_)
  · skip
    have nc_1006 := nb_ne (-2147483648) (2147483647) c_1006 (btop v_1005) (k := 0) (by decide) (by decide)
    refine lv_iconst (v := 0) hx hb dX1_settle_21 (by decide) ?_
    refine lv_istore (lv' := [(5, .int 0), (4, .int v_1005), (0, .ref ob), (1, .int a1), (2, .int a2), (3, .int a3)]) hx hb dX1_settle_22 hl (by decide) rfl (fun ls hl => ?_)
    refine lv_iconst (v := 0) hx hb dX1_settle_24 (by decide) ?_
    refine lv_istore (lv' := [(6, .int 0), (5, .int 0), (4, .int v_1005), (0, .ref ob), (1, .int a1), (2, .int a2), (3, .int a3)]) hx hb dX1_settle_25 hl (by decide) rfl (fun ls hl => ?_)
    refine loopX (fun n H locs ls st => ∃ (v_1619 : Int32) (v_1620 : Int32) (f_1621 : Nat → Int32) (f_1622 : Nat → Int32) (f_1623 : Nat → Int32) (f_1624 : Nat → Int32) (f_1625 : Nat → Int32), (600 - v_1619.toInt).toNat = n ∧ ((0 : Int) ≤ v_1619.toInt ∧ v_1619.toInt ≤ 600) ∧ ((0 : Int) ≤ v_1620.toInt ∧ v_1620.toInt ≤ 600) ∧ (∀ i, (0 : Int) ≤ (f_1622 i).toInt ∧ (f_1622 i).toInt ≤ 15) ∧ (v_1620.toInt ≤ v_1619.toInt) ∧ st = [] ∧ vPD G A H [(ce_X1 ob ob_size ob_debtor ob_creditor ob_kind ob_due ob_came ob_open ob_kinds), (ce_i600 y ob_debtor f_1621), (ce_i600 y ob_creditor f_1622), (ce_i600 y ob_kind f_1623), (ce_i600 y ob_due f_1624), (ce_i600 y ob_came f_1625), (ce_i16 y ob_open fob_open), (ce_i256 y ob_kinds fob_kinds)] ∧ va_S A s.heap H locs ∧ lv_has ls 7 [(6, .int v_1619), (5, .int v_1620), (4, .int v_1005), (0, .ref ob), (1, .int a1), (2, .int a2), (3, .int a3)]) ?_ (n := (600 - (0 : Int32).toInt).toNat) ⟨0, 0, fob_debtor, fob_creditor, fob_kind, fob_due, fob_came, rfl, (bw (0) (600) (bkc (x := 0) (c := 0) (by decide)) (by decide)), (bw (0) (600) (bkc (x := 0) (c := 0) (by decide)) (by decide)), p_fob_creditor, (by have h90 : Int32.toInt 0 = 0 := (by decide); omega), rfl, ⟨hP, hD⟩, hS, lv_sub hl [0, 1, 2, 3, 4, 5, 6] rfl⟩
    rintro n ih_1670 H locs ls st ⟨v_1619, v_1620, f_1621, f_1622, f_1623, f_1624, f_1625, hn_1670, bv_1619, bv_1620, bf_1622, rl1625_0, rfl, ⟨hP, hD⟩, hS, hl⟩
    refine lv_iload hx hb dX1_settle_27 (lv_at hl 0 rfl) ?_
    refine lv_aload_n hx hb dX1_settle_29 rfl (lv_at hl 3 rfl) ?_
    refine va_get (D := G) (ci := 1) (v := .int ob_size) (C := RX1) (T := TX1) (N := 8) hx hb hw0 inA_wsX10 hown hK.1 hP 0 rfl rfl 0 (by decide) (hw0 _ m_307) (fun _ h9 => h9) rfl dX1_settle_30 ?_
    refine lv_icmp_ge (tgt := 86) hx hb dX1_settle_33 (by decide) (fun c_1671 => ?_) (fun c_1671 => ?_)
    · skip
      have nc_1671 := nb_le (600) (0) c_1671 p_ob_size bv_1619 (by decide)
      refine lv_aload_n hx hb dX1_settle_86 rfl (lv_at hl 3 rfl) ?_
      refine va_get (D := G) (ci := 1) (v := .int ob_size) (C := RX1) (T := TX1) (N := 8) hx hb hw0 inA_wsX10 hown hK.1 hP 0 rfl rfl 0 (by decide) (hw0 _ m_307) (fun _ h9 => h9) rfl dX1_settle_87 ?_
      refine lv_iload hx hb dX1_settle_90 (lv_at hl 1 rfl) ?_
      refine lv_isub hx hb dX1_settle_92 ?_
      refine lv_topi (fun v_1672 ev_1672 => ?_)
      have qv_1672 := ba_sub ev_1672 nc_1671.1 bv_1620 (by decide)
      have bv_1672 : (-600 : Int) ≤ v_1672.toInt ∧ v_1672.toInt ≤ 600 := bq_sub qv_1672 nc_1671.1 bv_1620 _ _ (by decide)
      refine lv_istore (lv' := [(6, .int v_1672), (5, .int v_1620), (4, .int v_1005), (0, .ref ob), (1, .int a1), (2, .int a2), (3, .int a3)]) hx hb dX1_settle_93 hl (by decide) rfl (fun ls hl => ?_)
      refine lv_aload_n hx hb dX1_settle_95 rfl (lv_at hl 3 rfl) ?_
      refine lv_iload hx hb dX1_settle_96 (lv_at hl 1 rfl) ?_
      refine va_put (D := G) (ci := 1) (v := .int v_1620) (ty := .int) (C := RX1) (T := TX1) (N := 8) hx hb hw0 inA_wsX10 tyX1 tyX1_ok nmX1 hown hK.1 hP hD hS 0 rfl rfl 0 (by decide) (hw0 _ m_307) (fun _ h9 => h9) rfl fd_X1_0 rfl rfl (Nat.le_of_ble_eq_true rfl) dX1_settle_98 (fun H locs hP hD hS => ?_)
      obtain ⟨hP, hD⟩ : vPD G A H [(ce_X1 ob v_1620 ob_debtor ob_creditor ob_kind ob_due ob_came ob_open ob_kinds), (ce_i600 y ob_debtor f_1621), (ce_i600 y ob_creditor f_1622), (ce_i600 y ob_kind f_1623), (ce_i600 y ob_due f_1624), (ce_i600 y ob_came f_1625), (ce_i16 y ob_open fob_open), (ce_i256 y ob_kinds fob_kinds)] := ⟨hP, hD⟩
      refine lv_aload_n hx hb dX1_settle_101 rfl (lv_at hl 3 rfl) ?_
      refine va_get (D := G) (ci := 1) (v := .ref ob_open) (C := RX1) (T := TX1) (N := 8) hx hb hw0 inA_wsX10 hown hK.1 hP 0 rfl rfl 6 (by decide) (hw0 _ m_313) (fun _ h9 => h9) rfl dX1_settle_102 ?_
      refine lv_iload_n hx hb dX1_settle_105 rfl (lv_at hl 4 rfl) ?_
      refine lv_dup2_11 hx hb dX1_settle_106 rfl rfl ?_
      refine va_iald hx hb hK.1 hP 6 1 rfl rfl (vi p_a1 (by decide)) dX1_settle_107 ?_
      refine lv_topi (fun v_1673 ev_1673 => ?_)
      refine lv_iload hx hb dX1_settle_108 (lv_at hl 0 rfl) ?_
      refine lv_isub hx hb dX1_settle_110 ?_
      refine lv_topi (fun v_1674 ev_1674 => ?_)
      refine va_iast hx hb hK.1 hP hD hS 6 1 rfl rfl (vi p_a1 (by decide)) dX1_settle_111 (fun H locs hP hD hS => ?_)
      generalize hf_1675 : (upd fob_open (a1 : Int32).toNatClampNeg v_1674) = f_1675 at hP hD
      obtain ⟨hP, hD⟩ : vPD G A H [(ce_X1 ob v_1620 ob_debtor ob_creditor ob_kind ob_due ob_came ob_open ob_kinds), (ce_i600 y ob_debtor f_1621), (ce_i600 y ob_creditor f_1622), (ce_i600 y ob_kind f_1623), (ce_i600 y ob_due f_1624), (ce_i600 y ob_came f_1625), (ce_i16 y ob_open f_1675), (ce_i256 y ob_kinds fob_kinds)] := ⟨hP, hD⟩
      refine lv_aload_n hx hb dX1_settle_112 rfl (lv_at hl 3 rfl) ?_
      refine va_get (D := G) (ci := 1) (v := .ref ob_kinds) (C := RX1) (T := TX1) (N := 8) hx hb hw0 inA_wsX10 hown hK.1 hP 0 rfl rfl 7 (by decide) (hw0 _ m_314) (fun _ h9 => h9) rfl dX1_settle_113 ?_
      refine lv_iload_n hx hb dX1_settle_116 rfl (lv_at hl 4 rfl) ?_
      refine lv_bipush (v := 16) hx hb dX1_settle_117 (by decide) ?_
      refine lv_imul hx hb dX1_settle_119 ?_
      refine lv_topi (fun v_1676 ev_1676 => ?_)
      have qv_1676 := ba_mul 16 ev_1676 p_a1 (by decide) (by decide) (by decide)
      have bv_1676 : (0 : Int) ≤ v_1676.toInt ∧ v_1676.toInt ≤ 240 := qv_1676.2
      refine lv_iload_n hx hb dX1_settle_120 rfl (lv_at hl 5 rfl) ?_
      refine lv_iadd hx hb dX1_settle_121 ?_
      refine lv_topi (fun v_1677 ev_1677 => ?_)
      have qv_1677 := ba_add ev_1677 bv_1676 p_a2 (by decide)
      have bv_1677 : (0 : Int) ≤ v_1677.toInt ∧ v_1677.toInt ≤ 255 := bq_add qv_1677 bv_1676 p_a2 _ _ (by decide)
      refine lv_dup2_11 hx hb dX1_settle_122 rfl rfl ?_
      refine va_iald hx hb hK.1 hP 7 1 rfl rfl (vi bv_1677 (by decide)) dX1_settle_123 ?_
      refine lv_topi (fun v_1678 ev_1678 => ?_)
      refine lv_iload hx hb dX1_settle_124 (lv_at hl 2 rfl) ?_
      refine lv_iconst (v := (-1)) hx hb dX1_settle_126 (by decide) ?_
      refine lv_ixor hx hb dX1_settle_127 ?_
      refine lv_topi (fun v_1679 ev_1679 => ?_)
      refine lv_iand hx hb dX1_settle_128 ?_
      refine lv_topi (fun v_1680 ev_1680 => ?_)
      refine va_iast hx hb hK.1 hP hD hS 7 1 rfl rfl (vi bv_1677 (by decide)) dX1_settle_129 (fun H locs hP hD hS => ?_)
      generalize hf_1681 : (upd fob_kinds (v_1677 : Int32).toNatClampNeg v_1680) = f_1681 at hP hD
      obtain ⟨hP, hD⟩ : vPD G A H [(ce_X1 ob v_1620 ob_debtor ob_creditor ob_kind ob_due ob_came ob_open ob_kinds), (ce_i600 y ob_debtor f_1621), (ce_i600 y ob_creditor f_1622), (ce_i600 y ob_kind f_1623), (ce_i600 y ob_due f_1624), (ce_i600 y ob_came f_1625), (ce_i16 y ob_open f_1675), (ce_i256 y ob_kinds f_1681)] := ⟨hP, hD⟩
      refine lv_iload hx hb dX1_settle_130 (lv_at hl 0 rfl) ?_
      exact W.iret (v := v_1672) hx hb hr (fun t ht hW => ⟨⟨v_1672, _, rfl, ⟨v_1672, v_1620, f_1621, f_1622, f_1623, f_1624, f_1625, f_1675, f_1681, bv_1672, bv_1620, bf_1622, rfl, rfl⟩, by rw [ht]; exact hP, hD⟩, hS.F ht⟩) hS.2.2 dX1_settle_132
    · skip
      have nc_1671 := nb_nle (599) (1) c_1671 bv_1619 p_ob_size (by decide)
      refine lv_aload_n hx hb dX1_settle_36 rfl (lv_at hl 3 rfl) ?_
      refine va_get (D := G) (ci := 1) (v := .ref ob_debtor) (C := RX1) (T := TX1) (N := 8) hx hb hw0 inA_wsX10 hown hK.1 hP 0 rfl rfl 1 (by decide) (hw0 _ m_308) (fun _ h9 => h9) rfl dX1_settle_37 ?_
      refine lv_iload hx hb dX1_settle_40 (lv_at hl 0 rfl) ?_
      refine va_iald hx hb hK.1 hP 1 1 rfl rfl (vi nc_1671.1 (by decide)) dX1_settle_42 ?_
      refine lv_topi (fun v_1682 ev_1682 => ?_)
      refine lv_iload_n hx hb dX1_settle_43 rfl (lv_at hl 4 rfl) ?_
      refine cutW 80 (fun H locs ls st => ∃ (v_1701 : Int32) (f_1702 : Nat → Int32) (f_1703 : Nat → Int32) (f_1704 : Nat → Int32) (f_1705 : Nat → Int32) (f_1706 : Nat → Int32), ((0 : Int) ≤ v_1701.toInt ∧ v_1701.toInt ≤ 600) ∧ (∀ i, (0 : Int) ≤ (f_1703 i).toInt ∧ (f_1703 i).toInt ≤ 15) ∧ (v_1701.toInt ≤ v_1619.toInt + 1) ∧ st = [] ∧ vPD G A H [(ce_X1 ob ob_size ob_debtor ob_creditor ob_kind ob_due ob_came ob_open ob_kinds), (ce_i600 y ob_debtor f_1702), (ce_i600 y ob_creditor f_1703), (ce_i600 y ob_kind f_1704), (ce_i600 y ob_due f_1705), (ce_i600 y ob_came f_1706), (ce_i16 y ob_open fob_open), (ce_i256 y ob_kinds fob_kinds)] ∧ va_S A s.heap H locs ∧ lv_has ls 7 [(6, .int v_1619), (5, .int v_1701), (4, .int v_1005), (0, .ref ob), (1, .int a1), (2, .int a2), (3, .int a3)]) ?_ (fun J_80_1706 => ?_)
      · rintro H locs ls st ⟨v_1701, f_1702, f_1703, f_1704, f_1705, f_1706, bv_1701, bf_1703, rl1706_0, rfl, ⟨hP, hD⟩, hS, hl⟩
        obtain ⟨v_1707, ev_1707⟩ : ∃ z : Int32, z = v_1619 + 1 := ⟨_, rfl⟩
        have qv_1707 := ba_add ev_1707 nc_1671.1 (bkc (x := 1) (c := 1) (by decide)) (by decide)
        have bv_1707 : (1 : Int) ≤ v_1707.toInt ∧ v_1707.toInt ≤ 600 := bq_add qv_1707 nc_1671.1 (bkc (x := 1) (c := 1) (by decide)) _ _ (by decide)
        have qv_1707 : v_1707.toInt = v_1619.toInt + (1) := qv_1707
        refine lv_iinc (v := v_1707) (lv' := [(6, .int v_1707), (5, .int v_1701), (4, .int v_1005), (0, .ref ob), (1, .int a1), (2, .int a2), (3, .int a3)]) hx hb dX1_settle_80 hl (k := 0) rfl (ev_1707.symm) (by decide) rfl (fun ls hl => ?_)
        refine lv_goto (tgt := 27) hx hb dX1_settle_83 (by decide) ?_
        exact ih_1670 _ (ml_inc (hi := 600) hn_1670 qv_1707 (by decide) ((bw (0) (600) bv_1707 (by decide))).2) _ _ _ _ ⟨v_1707, v_1701, f_1702, f_1703, f_1704, f_1705, f_1706, rfl, (bw (0) (600) bv_1707 (by decide)), bv_1701, bf_1703, (by omega), rfl, ⟨hP, hD⟩, hS, lv_sub hl [0, 1, 2, 3, 4, 5, 6] rfl⟩
      · skip
        refine cutW 69 (fun H locs ls st => (v_1620.toInt ≤ v_1619.toInt) ∧ st = [] ∧ vPD G A H [(ce_X1 ob ob_size ob_debtor ob_creditor ob_kind ob_due ob_came ob_open ob_kinds), (ce_i600 y ob_debtor f_1621), (ce_i600 y ob_creditor f_1622), (ce_i600 y ob_kind f_1623), (ce_i600 y ob_due f_1624), (ce_i600 y ob_came f_1625), (ce_i16 y ob_open fob_open), (ce_i256 y ob_kinds fob_kinds)] ∧ va_S A s.heap H locs ∧ lv_has ls 7 [(6, .int v_1619), (5, .int v_1620), (4, .int v_1005), (0, .ref ob), (1, .int a1), (2, .int a2), (3, .int a3)]) ?_ (fun J_69_1712 => ?_)
        · rintro H locs ls st ⟨rl1712_0, rfl, ⟨hP, hD⟩, hS, hl⟩
          have h_1713 : (0 : Int) ≤ v_1620.toInt ∧ v_1620.toInt ≤ 599 := by omega
          refine lv_aload_n hx hb dX1_settle_69 rfl (lv_at hl 3 rfl) ?_
          refine lv_iload hx hb dX1_settle_70 (lv_at hl 0 rfl) ?_
          refine lv_iload hx hb dX1_settle_72 (lv_at hl 1 rfl) ?_
          refine cVvm (As := [.int v_1619, .int v_1620]) (rest := []) ⟨hx, hb, hml, hown, hw0⟩ hA hK hP hD hS [true, true, true, true, true, true] (sX1_move l G y _ ob v_1619 v_1620 ob_size ob_debtor ob_creditor ob_kind ob_due ob_came ob_open ob_kinds f_1621 f_1622 f_1623 f_1624 f_1625 (bw (0) (600) nc_1671.2.1 (by decide)) bf_1622 nc_1671.1 h_1713) rfl ⟨(callB_of 2 hw0 (gA m_324) rfl rfl rfl (hw0 _ m_330) (hw0 _ m_333) cb_X1_move ⟨Nat.le_of_ble_eq_true rfl, Nat.le_of_ble_eq_true rfl⟩), (hw0 _ m_334), (hw0 _ m_335)⟩ (ci := 1) (q := (RX1, TX1, 8)) rfl rfl rfl hl.1 (Nat.le_of_ble_eq_true rfl) dX1_settle_74 ⟨Nat.le_of_ble_eq_true rfl, Nat.le_of_ble_eq_true rfl⟩ (fun w_1714 H locs hw_1714 hP hD hS => ?_)
          obtain ⟨f_1715, f_1716, f_1717, f_1718, f_1719, bf_1716, rfl⟩ := hw_1714
          obtain ⟨hP, hD⟩ : vPD G A H [(ce_X1 ob ob_size ob_debtor ob_creditor ob_kind ob_due ob_came ob_open ob_kinds), (ce_i600 y ob_debtor f_1715), (ce_i600 y ob_creditor f_1716), (ce_i600 y ob_kind f_1717), (ce_i600 y ob_due f_1718), (ce_i600 y ob_came f_1719), (ce_i16 y ob_open fob_open), (ce_i256 y ob_kinds fob_kinds)] := ⟨hP, hD⟩
          obtain ⟨v_1720, ev_1720⟩ : ∃ z : Int32, z = v_1620 + 1 := ⟨_, rfl⟩
          have qv_1720 := ba_add ev_1720 h_1713 (bkc (x := 1) (c := 1) (by decide)) (by decide)
          have bv_1720 : (1 : Int) ≤ v_1720.toInt ∧ v_1720.toInt ≤ 600 := bq_add qv_1720 h_1713 (bkc (x := 1) (c := 1) (by decide)) _ _ (by decide)
          have qv_1720 : v_1720.toInt = v_1620.toInt + (1) := qv_1720
          refine lv_iinc (v := v_1720) (lv' := [(5, .int v_1720), (6, .int v_1619), (4, .int v_1005), (0, .ref ob), (1, .int a1), (2, .int a2), (3, .int a3)]) hx hb dX1_settle_77 hl (k := 1) rfl (ev_1720.symm) (by decide) rfl (fun ls hl => ?_)
          exact J_80_1706 _ _ _ _ ⟨v_1720, f_1715, f_1716, f_1717, f_1718, f_1719, (bw (0) (600) bv_1720 (by decide)), bf_1716, (by omega), rfl, ⟨hP, hD⟩, hS, lv_sub hl [1, 0, 2, 3, 4, 5, 6] rfl⟩
        · skip
          refine lv_icmp_ne (tgt := 69) hx hb dX1_settle_44 (by decide) (fun c_1721 => ?_) (fun c_1721 => ?_)
          · skip
            exact J_69_1712 _ _ _ _ ⟨(by omega), rfl, ⟨hP, hD⟩, hS, lv_sub hl [0, 1, 2, 3, 4, 5, 6] rfl⟩
          · skip
            have nc_1721 := nb_eq (0) (15) c_1721 (btop v_1682) p_a1 (by decide)
            refine lv_aload_n hx hb dX1_settle_47 rfl (lv_at hl 3 rfl) ?_
            refine va_get (D := G) (ci := 1) (v := .ref ob_creditor) (C := RX1) (T := TX1) (N := 8) hx hb hw0 inA_wsX10 hown hK.1 hP 0 rfl rfl 2 (by decide) (hw0 _ m_309) (fun _ h9 => h9) rfl dX1_settle_48 ?_
            refine lv_iload hx hb dX1_settle_51 (lv_at hl 0 rfl) ?_
            refine va_iald hx hb hK.1 hP 2 1 rfl rfl (vi nc_1671.1 (by decide)) dX1_settle_53 ?_
            refine lv_topi (fun v_1722 ev_1722 => ?_)
            have bv_1722 : (0 : Int) ≤ v_1722.toInt ∧ v_1722.toInt ≤ 15 := rd_b ev_1722 bf_1622
            refine lv_iload_n hx hb dX1_settle_54 rfl (lv_at hl 5 rfl) ?_
            refine lv_icmp_ne (tgt := 69) hx hb dX1_settle_55 (by decide) (fun c_1723 => ?_) (fun c_1723 => ?_)
            · skip
              exact J_69_1712 _ _ _ _ ⟨(by omega), rfl, ⟨hP, hD⟩, hS, lv_sub hl [0, 1, 2, 3, 4, 5, 6] rfl⟩
            · skip
              have nc_1723 := nb_eq (0) (15) c_1723 bv_1722 p_a2 (by decide)
              refine lv_aload_n hx hb dX1_settle_58 rfl (lv_at hl 3 rfl) ?_
              refine va_get (D := G) (ci := 1) (v := .ref ob_kind) (C := RX1) (T := TX1) (N := 8) hx hb hw0 inA_wsX10 hown hK.1 hP 0 rfl rfl 3 (by decide) (hw0 _ m_310) (fun _ h9 => h9) rfl dX1_settle_59 ?_
              refine lv_iload hx hb dX1_settle_62 (lv_at hl 0 rfl) ?_
              refine va_iald hx hb hK.1 hP 3 1 rfl rfl (vi nc_1671.1 (by decide)) dX1_settle_64 ?_
              refine lv_topi (fun v_1724 ev_1724 => ?_)
              refine lv_iload_n hx hb dX1_settle_65 rfl (lv_at hl 6 rfl) ?_
              refine lv_icmp_le (tgt := 80) hx hb dX1_settle_66 (by decide) (fun c_1725 => ?_) (fun c_1725 => ?_)
              · skip
                have nc_1725 := nb_le (2147483647) (-2147483648) c_1725 (btop v_1724) (btop a3) (by decide)
                exact J_80_1706 _ _ _ _ ⟨v_1620, f_1621, f_1622, f_1623, f_1624, f_1625, bv_1620, bf_1622, (by omega), rfl, ⟨hP, hD⟩, hS, lv_sub hl [0, 1, 2, 3, 4, 5, 6] rfl⟩
              · skip
                have nc_1725 := nb_nle (2147483646) (-2147483647) c_1725 (btop a3) (btop v_1724) (by decide)
                exact J_69_1712 _ _ _ _ ⟨(by omega), rfl, ⟨hP, hD⟩, hS, lv_sub hl [0, 1, 2, 3, 4, 5, 6] rfl⟩
  · skip
    have nc_1006 := nb_eq (0) (0) c_1006 (btop v_1005) (bkc (x := 0) (c := 0) (by decide)) (by decide)
    refine lv_iconst (v := 0) hx hb dX1_settle_19 (by decide) ?_
    exact W.iret (v := 0) hx hb hr (fun t ht hW => ⟨⟨0, _, rfl, ⟨0, ob_size, fob_debtor, fob_creditor, fob_kind, fob_due, fob_came, fob_open, fob_kinds, (bw (-600) (600) (bkc (x := 0) (c := 0) (by decide)) (by decide)), p_ob_size, p_fob_creditor, rfl, rfl⟩, by rw [ht]; exact hP, hD⟩, hS.F ht⟩) hS.2.2 dX1_settle_20

set_option maxHeartbeats 4000000 in
set_option maxRecDepth 100000 in
theorem sX2_copy (l : Launch) (G : va_G) (y : Nat → ClassId) (sz : Nat) (ob : Nat) (o1 : Nat) (ob_size : Int32) (ob_who : Nat) (ob_whom : Nat) (ob_what : Nat) (ob_day : Nat) (fob_who : Nat → Int32) (fob_whom : Nat → Int32) (fob_what : Nat → Int32) (fob_day : Nat → Int32) (o1_size : Int32) (o1_who : Nat) (o1_whom : Nat) (o1_what : Nat) (o1_day : Nat) (fo1_who : Nat → Int32) (fo1_whom : Nat → Int32) (fo1_what : Nat → Int32) (fo1_day : Nat → Int32) (p_ob_size : (0 : Int) ≤ ob_size.toInt ∧ ob_size.toInt ≤ 600) (p_fob_who : ∀ i, (0 : Int) ≤ (fob_who i).toInt ∧ (fob_who i).toInt ≤ 15) (p_fob_whom : ∀ i, (0 : Int) ≤ (fob_whom i).toInt ∧ (fob_whom i).toInt ≤ 15) (p_o1_size : (0 : Int) ≤ o1_size.toInt ∧ o1_size.toInt ≤ 600) (p_fo1_who : ∀ i, (0 : Int) ≤ (fo1_who i).toInt ∧ (fo1_who i).toInt ≤ 15) (p_fo1_whom : ∀ i, (0 : Int) ≤ (fo1_whom i).toInt ∧ (fo1_whom i).toInt ≤ 15) : Met l yX2_copy (Cond.code yX2_copy cX2_copy 2 none :: wAll) ({ frames := 1, cells := 0, slots := 0, locals := 72 }) (va_Pc [.ref ob, .ref o1] (kp G y sz [(ce_X2 ob ob_size ob_who ob_whom ob_what ob_day), (ce_i600 y ob_who fob_who), (ce_i600 y ob_whom fob_whom), (ce_i600 y ob_what fob_what), (ce_i600 y ob_day fob_day), (ce_X2 o1 o1_size o1_who o1_whom o1_what o1_day), (ce_i600 y o1_who fo1_who), (ce_i600 y o1_whom fo1_whom), (ce_i600 y o1_what fo1_what), (ce_i600 y o1_day fo1_day)])) (va_Qv (fun (w : va_W) => (∃ (f_9 : Nat → Int32) (f_10 : Nat → Int32) (f_11 : Nat → Int32) (f_12 : Nat → Int32), (∀ i, (0 : Int) ≤ (f_9 i).toInt ∧ (f_9 i).toInt ≤ 15) ∧ (∀ i, (0 : Int) ≤ (f_10 i).toInt ∧ (f_10 i).toInt ≤ 15) ∧ w = [(ce_X2 ob o1_size ob_who ob_whom ob_what ob_day), (ce_i600 y ob_who f_9), (ce_i600 y ob_whom f_10), (ce_i600 y ob_what f_11), (ce_i600 y ob_day f_12), (ce_X2 o1 o1_size o1_who o1_whom o1_what o1_day), (ce_i600 y o1_who fo1_who), (ce_i600 y o1_whom fo1_whom), (ce_i600 y o1_what fo1_what), (ce_i600 y o1_day fo1_day)])) (kq G (va_A [(ce_X2 ob ob_size ob_who ob_whom ob_what ob_day), (ce_i600 y ob_who fob_who), (ce_i600 y ob_whom fob_whom), (ce_i600 y ob_what fob_what), (ce_i600 y ob_day fob_day), (ce_X2 o1 o1_size o1_who o1_whom o1_what o1_day), (ce_i600 y o1_who fo1_who), (ce_i600 y o1_whom fo1_whom), (ce_i600 y o1_what fo1_what), (ce_i600 y o1_day fo1_day)] sz)) (va_A [(ce_X2 ob ob_size ob_who ob_whom ob_what ob_day), (ce_i600 y ob_who fob_who), (ce_i600 y ob_whom fob_whom), (ce_i600 y ob_what fob_what), (ce_i600 y ob_day fob_day), (ce_X2 o1 o1_size o1_who o1_whom o1_what o1_day), (ce_i600 y o1_who fo1_who), (ce_i600 y o1_whom fo1_whom), (ce_i600 y o1_what fo1_what), (ce_i600 y o1_day fo1_day)] sz)) 0 0 (va_A [(ce_X2 ob ob_size ob_who ob_whom ob_what ob_day), (ce_i600 y ob_who fob_who), (ce_i600 y ob_whom fob_whom), (ce_i600 y ob_what fob_what), (ce_i600 y ob_day fob_day), (ce_X2 o1 o1_size o1_who o1_whom o1_what o1_day), (ce_i600 y o1_who fo1_who), (ce_i600 y o1_whom fo1_whom), (ce_i600 y o1_what fo1_what), (ce_i600 y o1_day fo1_day)] sz) := by
  refine Met.ofW (cc := cX2_copy) (maxL := 2) (ret := none) (by decide) rfl ?_
  intro p e s m args below meth c s₁ B hml hv
  obtain ⟨rfl, hsz, hP, hK, hD0⟩ := hv
  have hx := B.exec
  have hb := B.bytes
  have hr := B.returns
  have hw0 : ∀ w ∈ wAll, w.before _ s = true := fun w h => atoms_spec (ws := Cond.code yX2_copy cX2_copy 2 none :: wAll) B.pre w (List.mem_cons_of_mem _ h)
  have hown : s.vm.findClass RX2 = some m.cls := findClass_of_methodNamed B.named
  subst hsz
  have hD := hD0.self (sz := s.heap.size)
  generalize hAe : va_A [(ce_X2 ob ob_size ob_who ob_whom ob_what ob_day), (ce_i600 y ob_who fob_who), (ce_i600 y ob_whom fob_whom), (ce_i600 y ob_what fob_what), (ce_i600 y ob_day fob_day), (ce_X2 o1 o1_size o1_who o1_whom o1_what o1_day), (ce_i600 y o1_who fo1_who), (ce_i600 y o1_whom fo1_whom), (ce_i600 y o1_what fo1_what), (ce_i600 y o1_day fo1_day)] s.heap.size = A at hD ⊢
  have hA : ∀ q : Nat, s.heap.size ≤ q → A q := fun q h => by rw [← hAe]; exact Or.inr h
  have hS : va_S A s.heap s.heap [] := va_S.rf
  have hP : va_P G vwCl [(ce_X2 ob ob_size ob_who ob_whom ob_what ob_day), (ce_i600 y ob_who fob_who), (ce_i600 y ob_whom fob_whom), (ce_i600 y ob_what fob_what), (ce_i600 y ob_day fob_day), (ce_X2 o1 o1_size o1_who o1_whom o1_what o1_day), (ce_i600 y o1_who fo1_who), (ce_i600 y o1_whom fo1_whom), (ce_i600 y o1_what fo1_what), (ce_i600 y o1_day fo1_day)] s.heap := hP
  have hl := lv_entry ([.ref ob, .ref o1]) (n := 2) (Nat.le_of_ble_eq_true rfl)
  rw [lg_entry_eq]
  generalize (lg_sl ([.ref ob, .ref o1]) ++ List.replicate (2 - (lg_sl ([.ref ob, .ref o1])).length) Slot.unset).toArray = ls at hl ⊢
  have hl : lv_has ls 2 [(0, .ref ob), (1, .ref o1)] := hl
  refine lv_aload_n hx hb dX2_copy_0 rfl (lv_at hl 0 rfl) ?_
  refine lv_aload_n hx hb dX2_copy_1 rfl (lv_at hl 1 rfl) ?_
  refine va_get (D := G) (ci := 2) (v := .int o1_size) (C := RX2) (T := TX2) (N := 5) hx hb hw0 inA_wsX20 hown hK.1 hP 5 rfl rfl 0 (by decide) (hw0 _ m_702) (fun _ h9 => h9) rfl dX2_copy_2 ?_
  refine va_put (D := G) (ci := 2) (v := .int o1_size) (ty := .int) (C := RX2) (T := TX2) (N := 5) hx hb hw0 inA_wsX20 tyX2 tyX2_ok nmX2 hown hK.1 hP hD hS 0 rfl rfl 0 (by decide) (hw0 _ m_702) (fun _ h9 => h9) rfl fd_X2_0 rfl rfl (Nat.le_of_ble_eq_true rfl) dX2_copy_5 (fun H locs hP hD hS => ?_)
  obtain ⟨hP, hD⟩ : vPD G A H [(ce_X2 ob o1_size ob_who ob_whom ob_what ob_day), (ce_i600 y ob_who fob_who), (ce_i600 y ob_whom fob_whom), (ce_i600 y ob_what fob_what), (ce_i600 y ob_day fob_day), (ce_X2 o1 o1_size o1_who o1_whom o1_what o1_day), (ce_i600 y o1_who fo1_who), (ce_i600 y o1_whom fo1_whom), (ce_i600 y o1_what fo1_what), (ce_i600 y o1_day fo1_day)] := ⟨hP, hD⟩
  refine lv_aload_n hx hb dX2_copy_8 rfl (lv_at hl 1 rfl) ?_
  refine va_get (D := G) (ci := 2) (v := .ref o1_who) (C := RX2) (T := TX2) (N := 5) hx hb hw0 inA_wsX20 hown hK.1 hP 5 rfl rfl 1 (by decide) (hw0 _ m_703) (fun _ h9 => h9) rfl dX2_copy_9 ?_
  refine lv_iconst (v := 0) hx hb dX2_copy_12 (by decide) ?_
  refine lv_aload_n hx hb dX2_copy_13 rfl (lv_at hl 0 rfl) ?_
  refine va_get (D := G) (ci := 2) (v := .ref ob_who) (C := RX2) (T := TX2) (N := 5) hx hb hw0 inA_wsX20 hown hK.1 hP 0 rfl rfl 1 (by decide) (hw0 _ m_703) (fun _ h9 => h9) rfl dX2_copy_14 ?_
  refine lv_iconst (v := 0) hx hb dX2_copy_17 (by decide) ?_
  refine lv_aload_n hx hb dX2_copy_18 rfl (lv_at hl 0 rfl) ?_
  refine va_get (D := G) (ci := 2) (v := .int o1_size) (C := RX2) (T := TX2) (N := 5) hx hb hw0 inA_wsX20 hown hK.1 hP 0 rfl rfl 0 (by decide) (hw0 _ m_702) (fun _ h9 => h9) rfl dX2_copy_19 ?_
  refine va_copyi (own := RX2) hx hb (by rw [hml]; exact hl.1.symm) hown (hw0 _ m_710) (hw0 _ m_272) (hw0 _ m_273) (hw0 _ m_274) hK.1 hP hD hS 6 1 1 1 rfl rfl rfl rfl rfl (by decide) (by decide) (cy_n p_o1_size (by decide)) (cy_l p_o1_size (by decide)) (cy_l p_o1_size (by decide)) (fun i hi => rfl) (Nat.le_of_ble_eq_true rfl) (by decide) dX2_copy_22 (fun H locs hP hD hS => ?_)
  generalize hf_1001 : (va_cpy fo1_who fob_who (0 : Int32).toNatClampNeg (0 : Int32).toNatClampNeg (o1_size : Int32).toNatClampNeg) = f_1001 at hP hD
  have bf_1001 : ∀ i, (0 : Int) ≤ (f_1001 i).toInt ∧ (f_1001 i).toInt ≤ 15 := hf_1001 ▸ cp_b p_fo1_who p_fob_who
  obtain ⟨hP, hD⟩ : vPD G A H [(ce_X2 ob o1_size ob_who ob_whom ob_what ob_day), (ce_i600 y ob_who f_1001), (ce_i600 y ob_whom fob_whom), (ce_i600 y ob_what fob_what), (ce_i600 y ob_day fob_day), (ce_X2 o1 o1_size o1_who o1_whom o1_what o1_day), (ce_i600 y o1_who fo1_who), (ce_i600 y o1_whom fo1_whom), (ce_i600 y o1_what fo1_what), (ce_i600 y o1_day fo1_day)] := ⟨hP, hD⟩
  refine lv_aload_n hx hb dX2_copy_25 rfl (lv_at hl 1 rfl) ?_
  refine va_get (D := G) (ci := 2) (v := .ref o1_whom) (C := RX2) (T := TX2) (N := 5) hx hb hw0 inA_wsX20 hown hK.1 hP 5 rfl rfl 2 (by decide) (hw0 _ m_704) (fun _ h9 => h9) rfl dX2_copy_26 ?_
  refine lv_iconst (v := 0) hx hb dX2_copy_29 (by decide) ?_
  refine lv_aload_n hx hb dX2_copy_30 rfl (lv_at hl 0 rfl) ?_
  refine va_get (D := G) (ci := 2) (v := .ref ob_whom) (C := RX2) (T := TX2) (N := 5) hx hb hw0 inA_wsX20 hown hK.1 hP 0 rfl rfl 2 (by decide) (hw0 _ m_704) (fun _ h9 => h9) rfl dX2_copy_31 ?_
  refine lv_iconst (v := 0) hx hb dX2_copy_34 (by decide) ?_
  refine lv_aload_n hx hb dX2_copy_35 rfl (lv_at hl 0 rfl) ?_
  refine va_get (D := G) (ci := 2) (v := .int o1_size) (C := RX2) (T := TX2) (N := 5) hx hb hw0 inA_wsX20 hown hK.1 hP 0 rfl rfl 0 (by decide) (hw0 _ m_702) (fun _ h9 => h9) rfl dX2_copy_36 ?_
  refine va_copyi (own := RX2) hx hb (by rw [hml]; exact hl.1.symm) hown (hw0 _ m_710) (hw0 _ m_272) (hw0 _ m_273) (hw0 _ m_274) hK.1 hP hD hS 7 2 1 1 rfl rfl rfl rfl rfl (by decide) (by decide) (cy_n p_o1_size (by decide)) (cy_l p_o1_size (by decide)) (cy_l p_o1_size (by decide)) (fun i hi => rfl) (Nat.le_of_ble_eq_true rfl) (by decide) dX2_copy_39 (fun H locs hP hD hS => ?_)
  generalize hf_1002 : (va_cpy fo1_whom fob_whom (0 : Int32).toNatClampNeg (0 : Int32).toNatClampNeg (o1_size : Int32).toNatClampNeg) = f_1002 at hP hD
  have bf_1002 : ∀ i, (0 : Int) ≤ (f_1002 i).toInt ∧ (f_1002 i).toInt ≤ 15 := hf_1002 ▸ cp_b p_fo1_whom p_fob_whom
  obtain ⟨hP, hD⟩ : vPD G A H [(ce_X2 ob o1_size ob_who ob_whom ob_what ob_day), (ce_i600 y ob_who f_1001), (ce_i600 y ob_whom f_1002), (ce_i600 y ob_what fob_what), (ce_i600 y ob_day fob_day), (ce_X2 o1 o1_size o1_who o1_whom o1_what o1_day), (ce_i600 y o1_who fo1_who), (ce_i600 y o1_whom fo1_whom), (ce_i600 y o1_what fo1_what), (ce_i600 y o1_day fo1_day)] := ⟨hP, hD⟩
  refine lv_aload_n hx hb dX2_copy_42 rfl (lv_at hl 1 rfl) ?_
  refine va_get (D := G) (ci := 2) (v := .ref o1_what) (C := RX2) (T := TX2) (N := 5) hx hb hw0 inA_wsX20 hown hK.1 hP 5 rfl rfl 3 (by decide) (hw0 _ m_705) (fun _ h9 => h9) rfl dX2_copy_43 ?_
  refine lv_iconst (v := 0) hx hb dX2_copy_46 (by decide) ?_
  refine lv_aload_n hx hb dX2_copy_47 rfl (lv_at hl 0 rfl) ?_
  refine va_get (D := G) (ci := 2) (v := .ref ob_what) (C := RX2) (T := TX2) (N := 5) hx hb hw0 inA_wsX20 hown hK.1 hP 0 rfl rfl 3 (by decide) (hw0 _ m_705) (fun _ h9 => h9) rfl dX2_copy_48 ?_
  refine lv_iconst (v := 0) hx hb dX2_copy_51 (by decide) ?_
  refine lv_aload_n hx hb dX2_copy_52 rfl (lv_at hl 0 rfl) ?_
  refine va_get (D := G) (ci := 2) (v := .int o1_size) (C := RX2) (T := TX2) (N := 5) hx hb hw0 inA_wsX20 hown hK.1 hP 0 rfl rfl 0 (by decide) (hw0 _ m_702) (fun _ h9 => h9) rfl dX2_copy_53 ?_
  refine va_copyi (own := RX2) hx hb (by rw [hml]; exact hl.1.symm) hown (hw0 _ m_710) (hw0 _ m_272) (hw0 _ m_273) (hw0 _ m_274) hK.1 hP hD hS 8 3 1 1 rfl rfl rfl rfl rfl (by decide) (by decide) (cy_n p_o1_size (by decide)) (cy_l p_o1_size (by decide)) (cy_l p_o1_size (by decide)) (fun i hi => rfl) (Nat.le_of_ble_eq_true rfl) (by decide) dX2_copy_56 (fun H locs hP hD hS => ?_)
  generalize hf_1003 : (va_cpy fo1_what fob_what (0 : Int32).toNatClampNeg (0 : Int32).toNatClampNeg (o1_size : Int32).toNatClampNeg) = f_1003 at hP hD
  obtain ⟨hP, hD⟩ : vPD G A H [(ce_X2 ob o1_size ob_who ob_whom ob_what ob_day), (ce_i600 y ob_who f_1001), (ce_i600 y ob_whom f_1002), (ce_i600 y ob_what f_1003), (ce_i600 y ob_day fob_day), (ce_X2 o1 o1_size o1_who o1_whom o1_what o1_day), (ce_i600 y o1_who fo1_who), (ce_i600 y o1_whom fo1_whom), (ce_i600 y o1_what fo1_what), (ce_i600 y o1_day fo1_day)] := ⟨hP, hD⟩
  refine lv_aload_n hx hb dX2_copy_59 rfl (lv_at hl 1 rfl) ?_
  refine va_get (D := G) (ci := 2) (v := .ref o1_day) (C := RX2) (T := TX2) (N := 5) hx hb hw0 inA_wsX20 hown hK.1 hP 5 rfl rfl 4 (by decide) (hw0 _ m_706) (fun _ h9 => h9) rfl dX2_copy_60 ?_
  refine lv_iconst (v := 0) hx hb dX2_copy_63 (by decide) ?_
  refine lv_aload_n hx hb dX2_copy_64 rfl (lv_at hl 0 rfl) ?_
  refine va_get (D := G) (ci := 2) (v := .ref ob_day) (C := RX2) (T := TX2) (N := 5) hx hb hw0 inA_wsX20 hown hK.1 hP 0 rfl rfl 4 (by decide) (hw0 _ m_706) (fun _ h9 => h9) rfl dX2_copy_65 ?_
  refine lv_iconst (v := 0) hx hb dX2_copy_68 (by decide) ?_
  refine lv_aload_n hx hb dX2_copy_69 rfl (lv_at hl 0 rfl) ?_
  refine va_get (D := G) (ci := 2) (v := .int o1_size) (C := RX2) (T := TX2) (N := 5) hx hb hw0 inA_wsX20 hown hK.1 hP 0 rfl rfl 0 (by decide) (hw0 _ m_702) (fun _ h9 => h9) rfl dX2_copy_70 ?_
  refine va_copyi (own := RX2) hx hb (by rw [hml]; exact hl.1.symm) hown (hw0 _ m_710) (hw0 _ m_272) (hw0 _ m_273) (hw0 _ m_274) hK.1 hP hD hS 9 4 1 1 rfl rfl rfl rfl rfl (by decide) (by decide) (cy_n p_o1_size (by decide)) (cy_l p_o1_size (by decide)) (cy_l p_o1_size (by decide)) (fun i hi => rfl) (Nat.le_of_ble_eq_true rfl) (by decide) dX2_copy_73 (fun H locs hP hD hS => ?_)
  generalize hf_1004 : (va_cpy fo1_day fob_day (0 : Int32).toNatClampNeg (0 : Int32).toNatClampNeg (o1_size : Int32).toNatClampNeg) = f_1004 at hP hD
  obtain ⟨hP, hD⟩ : vPD G A H [(ce_X2 ob o1_size ob_who ob_whom ob_what ob_day), (ce_i600 y ob_who f_1001), (ce_i600 y ob_whom f_1002), (ce_i600 y ob_what f_1003), (ce_i600 y ob_day f_1004), (ce_X2 o1 o1_size o1_who o1_whom o1_what o1_day), (ce_i600 y o1_who fo1_who), (ce_i600 y o1_whom fo1_whom), (ce_i600 y o1_what fo1_what), (ce_i600 y o1_day fo1_day)] := ⟨hP, hD⟩
  exact W.vret hx hb hr (fun t ht hW => ⟨⟨_, rfl, ⟨f_1001, f_1002, f_1003, f_1004, bf_1001, bf_1002, rfl⟩, by rw [ht]; exact hP, hD⟩, hS.F ht⟩) hS.2.2 dX2_copy_76
