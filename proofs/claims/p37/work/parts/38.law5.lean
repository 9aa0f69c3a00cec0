set_option maxHeartbeats 4000000 in
set_option maxRecDepth 100000 in
theorem law_30 {p : Program} {e : Env} {s : State} {m : MethodId} {below : List Frame} {meth : Method} {c : Code} {l : Launch} {b L : Nat} {xs : Nat → Int32} {A : Nat → Prop} {G : va_G} {y : Nat → ClassId} {aK aV : Nat → Nat} {H : Heap} {locs : List Loc} {cells slots : Nat} {ls : Array Slot} {Q : State → Prop} (C0 : lawC p s m meth c b L xs A G y aK aV) {x q : Nat} {i : Int32} (hi : 0 ≤ i.toInt ∧ i.toInt + 6 ≤ (L : Int)) (I : LI s b A G y x q i H locs ls cells slots) (K : ∀ H1 locs1 cells1 slots1, LI s b A G y x q i H1 locs1 ls cells1 slots1 → W p l e room_1 s m #[Value.ref b] below meth c H1 locs1 cells1 slots1 Q (F0 m 1350 ls [])) : W p l e room_1 s m #[Value.ref b] below meth c H locs cells slots Q (F0 m 1102 ls []) := by
  have C1 := C0
  obtain ⟨hx, hb, hr, hml, hown, hw0, hX, hbl, hbA, hA, hAf, hlocks, hK, hE, hL⟩ := C0
  obtain ⟨w, wm, tl, ts, fl0, wi0, sz0, fl1, wi1, sz1, fl2, wi2, sz2, fl3, wi3, sz3, f, ta, fm, fw, fh, hB, hM, hI, hR, hP, hD, hS, hl, hc1, hc2⟩ := I
  obtain ⟨r0, r1, r2, r3, r4, i0, i1, i2⟩ := hR
  refine lv_aload_n hx hb dL_law_1102 rfl (lv_at hl 2 rfl) ?_
  refine lv_aload_n hx hb dL_law_1103 rfl (lv_at hl 3 rfl) ?_
  refine lv_iload_n hx hb dL_law_1104 rfl (lv_at hl 0 rfl) ?_
  refine lv_iconst (v := 1) hx hb dL_law_1105 (by decide) ?_
  refine lv_iadd hx hb dL_law_1106 ?_
  refine lv_topi (fun jv1 ejv1 => ?_)
  refine va_sld hx hb hX hbl hbA hS (sl_in (c := 1) ejv1 (by decide) (by decide) hi hL) dL_law_1107 ?_
  refine lv_topi (fun av2 eav2 => ?_)
  refine cx_sX9_count (ob := x) (a1 := av2) (rest := []) C1  hB hP hD hS hl.1 (Nat.le_of_ble_eq_true rfl) ⟨by omega, by omega⟩ dL_law_1108 (fun an3 w4  H locs hq hB hP hD hS => ?_)
  have hP := P_perm (List.perm_append_comm_assoc w4 wm tl) hP
  have hD := D_perm (List.perm_append_comm_assoc w4 wm tl) hD
  refine lv_pop hx hb dL_law_1111 rfl ?_
  refine lv_aload_n hx hb dL_law_1112 rfl (lv_at hl 1 rfl) ?_
  refine lv_aload_n hx hb dL_law_1113 rfl (lv_at hl 3 rfl) ?_
  refine lv_iload_n hx hb dL_law_1114 rfl (lv_at hl 0 rfl) ?_
  refine lv_iconst (v := 1) hx hb dL_law_1115 (by decide) ?_
  refine lv_iadd hx hb dL_law_1116 ?_
  refine lv_topi (fun jv5 ejv5 => ?_)
  obtain rfl : jv1 = jv5 := ejv1.trans ejv5.symm
  refine va_sld hx hb hX hbl hbA hS (sl_in (c := 1) ejv1 (by decide) (by decide) hi hL) dL_law_1117 ?_
  refine lv_topi (fun av6 eav6 => ?_)
  obtain rfl : av2 = av6 := eav2.trans eav6.symm
  refine cx_sX10_count (ob := q) (a1 := av2) (rest := []) C1  hM hP hD hS hl.1 (Nat.le_of_ble_eq_true rfl) ⟨by omega, by omega⟩ dL_law_1118 (fun an7 w8  H locs hq2 hM hP hD hS => ?_)
  have hP := P_perm (List.perm_append_comm_assoc w8 w4 tl) hP
  have hD := D_perm (List.perm_append_comm_assoc w8 w4 tl) hD
  refine lv_pop hx hb dL_law_1121 rfl ?_
  refine lv_goto (tgt := 1350) hx hb dL_law_1122 (by decide) ?_
  exact K _ _ _ _ ⟨w4, w8, tl, ts, fl0, wi0, sz0, fl1, wi1, sz1, fl2, wi2, sz2, fl3, wi3, sz3, f, ta, fm, fw, fh, hB, hM, hI, ⟨r0, r1, r2, r3, r4, i0, i1, i2⟩, hP, hD, hS, hl, by omega, by omega⟩

set_option maxHeartbeats 4000000 in
set_option maxRecDepth 100000 in
theorem law_31 {p : Program} {e : Env} {s : State} {m : MethodId} {below : List Frame} {meth : Method} {c : Code} {l : Launch} {b L : Nat} {xs : Nat → Int32} {A : Nat → Prop} {G : va_G} {y : Nat → ClassId} {aK aV : Nat → Nat} {H : Heap} {locs : List Loc} {cells slots : Nat} {ls : Array Slot} {Q : State → Prop} (C0 : lawC p s m meth c b L xs A G y aK aV) {x q : Nat} {i : Int32} (hi : 0 ≤ i.toInt ∧ i.toInt + 6 ≤ (L : Int)) (I : LI s b A G y x q i H locs ls cells slots) (K : ∀ H1 locs1 cells1 slots1, LI s b A G y x q i H1 locs1 ls cells1 slots1 → W p l e room_1 s m #[Value.ref b] below meth c H1 locs1 cells1 slots1 Q (F0 m 1350 ls [])) : W p l e room_1 s m #[Value.ref b] below meth c H locs cells slots Q (F0 m 1125 ls []) := by
  have C1 := C0
  obtain ⟨hx, hb, hr, hml, hown, hw0, hX, hbl, hbA, hA, hAf, hlocks, hK, hE, hL⟩ := C0
  obtain ⟨w, wm, tl, ts, fl0, wi0, sz0, fl1, wi1, sz1, fl2, wi2, sz2, fl3, wi3, sz3, f, ta, fm, fw, fh, hB, hM, hI, hR, hP, hD, hS, hl, hc1, hc2⟩ := I
  obtain ⟨r0, r1, r2, r3, r4, i0, i1, i2⟩ := hR
  refine lv_aload_n hx hb dL_law_1125 rfl (lv_at hl 2 rfl) ?_
  refine lv_aload_n hx hb dL_law_1126 rfl (lv_at hl 3 rfl) ?_
  refine lv_iload_n hx hb dL_law_1127 rfl (lv_at hl 0 rfl) ?_
  refine lv_iconst (v := 1) hx hb dL_law_1128 (by decide) ?_
  refine lv_iadd hx hb dL_law_1129 ?_
  refine lv_topi (fun jv1 ejv1 => ?_)
  refine va_sld hx hb hX hbl hbA hS (sl_in (c := 1) ejv1 (by decide) (by decide) hi hL) dL_law_1130 ?_
  refine lv_topi (fun av2 eav2 => ?_)
  rcases im_c5 av2 with h9 | h9 | h9 | h9 | h9
  · obtain rfl : 0 = av2 := h9.symm
    obtain ⟨t0, t1, t2, rfl, j0, j1, j2⟩ := hI
    rcases j0 with ⟨ze, zt⟩ | ⟨z, ze, zt⟩
    · skip
      have hB : BC y x ts fl0 wi0 sz0 fl1 wi1 sz1 fl2 wi2 sz2 fl3 wi3 sz3 (va_up f 0 none) w := by rw [upE ze]; exact hB
      subst zt
      have hn9 : nn f = nn (va_up f 0 (some 0)) + 1 := by simp [nn, n1, va_up, ze] <;> omega
      have hc3 : 1 ≤ nn f := by omega
      refine cx_skeep0n (ob := x) (fim := f) (rest := []) C1 hB hP hD hS hl.1 (Nat.le_of_ble_eq_true rfl) ⟨by omega, by omega⟩ dL_law_1131 (fun an3 w4 f2 tk im2 H locs hq hB hT hP hD hS => ?_)
      obtain ⟨hq0, hf2, -⟩ := hq
      have hq : an3 = 0 ∧ True := ⟨hq0, trivial⟩
      rw [up2] at hf2
      have hP := P_perm ((List.Perm.append_left (w4 ++ tk) (List.Perm.append_left wm (p_0 [] t1 t2))).trans (pk_to (p_0 tk t1 t2)).symm) hP
      have hD := D_perm ((List.Perm.append_left (w4 ++ tk) (List.Perm.append_left wm (p_0 [] t1 t2))).trans (pk_to (p_0 tk t1 t2)).symm) hD
      have gf0 : f2 0 = some im2 := by rw [hf2]; exact va_up_self _ _ _
      have gf2 : f2 1 = f 1 := by rw [hf2]; exact va_up_ne _ _ (by decide)
      have gf3 : f2 2 = f 2 := by rw [hf2]; exact va_up_ne _ _ (by decide)
      have hI : IM y f2 (tk ++ (t1 ++ t2)) := ⟨tk, t1, t2, rfl, Or.inr ⟨im2, gf0, hT⟩, (by rw [gf2]; exact j1), (by rw [gf3]; exact j2)⟩
      have hn8 : nn f = nn f2 + 1 := by simp only [nn, n1, gf0, ze, gf2, gf3]; omega
      have hP := P_perm (List.perm_append_comm_assoc w4 wm (tk ++ (t1 ++ t2))) hP
      have hD := D_perm (List.perm_append_comm_assoc w4 wm (tk ++ (t1 ++ t2))) hD
      refine lv_pop hx hb dL_law_1134 rfl ?_
      refine lv_aload_n hx hb dL_law_1135 rfl (lv_at hl 1 rfl) ?_
      refine lv_aload_n hx hb dL_law_1136 rfl (lv_at hl 3 rfl) ?_
      refine lv_iload_n hx hb dL_law_1137 rfl (lv_at hl 0 rfl) ?_
      refine lv_iconst (v := 1) hx hb dL_law_1138 (by decide) ?_
      refine lv_iadd hx hb dL_law_1139 ?_
      refine lv_topi (fun jv5 ejv5 => ?_)
      obtain rfl : jv1 = jv5 := ejv1.trans ejv5.symm
      refine va_sld hx hb hX hbl hbA hS (sl_in (c := 1) ejv1 (by decide) (by decide) hi hL) dL_law_1140 ?_
      refine lv_topi (fun av6 eav6 => ?_)
      obtain rfl : 0 = av6 := eav2.trans eav6.symm
      refine cx_fkeepM0 (ob := q)  (rest := []) C1  hM hP hD hS hl.1 (Nat.le_of_ble_eq_true rfl) ⟨by omega, by omega⟩ dL_law_1141 (fun an7 w8 fh_9 H locs hq2 hM hP hD hS => ?_)
      have hP := P_perm (List.perm_append_comm_assoc w8 w4 (tk ++ (t1 ++ t2))) hP
      have hD := D_perm (List.perm_append_comm_assoc w8 w4 (tk ++ (t1 ++ t2))) hD
      refine lv_pop hx hb dL_law_1144 rfl ?_
      refine lv_goto (tgt := 1350) hx hb dL_law_1145 (by decide) ?_
      obtain ⟨-, y0, y1, y2, -⟩ := hq2
      have ix0 : iR (f2 0) (fh_9 0).toInt := Or.inr ⟨by rw [gf0]; simp, by omega⟩
      have ix1 : iR (f2 1) (fh_9 1).toInt := by rw [y1, gf2]; exact i1
      have ix2 : iR (f2 2) (fh_9 2).toInt := by rw [y2, gf3]; exact i2
      exact K _ _ _ _ ⟨w4, w8, (tk ++ (t1 ++ t2)), ts, fl0, wi0, sz0, fl1, wi1, sz1, fl2, wi2, sz2, fl3, wi3, sz3, f2, ta, fm, fw, fh_9, hB, hM, hI, ⟨r0, r1, r2, r3, r4, ix0, ix1, ix2⟩, hP, hD, hS, hl, by omega, by omega⟩
    · skip
      have hB : BC y x ts fl0 wi0 sz0 fl1 wi1 sz1 fl2 wi2 sz2 fl3 wi3 sz3 (va_up f 0 (some z)) w := by rw [upE ze]; exact hB
      have hP := P_perm (pk_to (p_0 t0 t1 t2)) hP
      have hD := D_perm (pk_to (p_0 t0 t1 t2)) hD
      refine cx_skeep0s (ob := x) (fim := f) (im := z) (rest := []) C1 hB zt hP hD hS hl.1 (Nat.le_of_ble_eq_true rfl) ⟨by omega, by omega⟩ dL_law_1131 (fun an10 w11 tk H locs hq hB hT hP hD hS => ?_)
      rw [upE ze] at hB
      have hP := P_perm (pk_to (p_0 tk t1 t2)).symm hP
      have hD := D_perm (pk_to (p_0 tk t1 t2)).symm hD
      have hI : IM y f (tk ++ (t1 ++ t2)) := ⟨tk, t1, t2, rfl, Or.inr ⟨z, ze, hT⟩, j1, j2⟩
      have hP := P_perm (List.perm_append_comm_assoc w11 wm (tk ++ (t1 ++ t2))) hP
      have hD := D_perm (List.perm_append_comm_assoc w11 wm (tk ++ (t1 ++ t2))) hD
      refine lv_pop hx hb dL_law_1134 rfl ?_
      refine lv_aload_n hx hb dL_law_1135 rfl (lv_at hl 1 rfl) ?_
      refine lv_aload_n hx hb dL_law_1136 rfl (lv_at hl 3 rfl) ?_
      refine lv_iload_n hx hb dL_law_1137 rfl (lv_at hl 0 rfl) ?_
      refine lv_iconst (v := 1) hx hb dL_law_1138 (by decide) ?_
      refine lv_iadd hx hb dL_law_1139 ?_
      refine lv_topi (fun jv12 ejv12 => ?_)
      obtain rfl : jv1 = jv12 := ejv1.trans ejv12.symm
      refine va_sld hx hb hX hbl hbA hS (sl_in (c := 1) ejv1 (by decide) (by decide) hi hL) dL_law_1140 ?_
      refine lv_topi (fun av13 eav13 => ?_)
      obtain rfl : 0 = av13 := eav2.trans eav13.symm
      refine cx_fkeepM0 (ob := q)  (rest := []) C1  hM hP hD hS hl.1 (Nat.le_of_ble_eq_true rfl) ⟨by omega, by omega⟩ dL_law_1141 (fun an14 w15 fh_16 H locs hq2 hM hP hD hS => ?_)
      have hP := P_perm (List.perm_append_comm_assoc w15 w11 (tk ++ (t1 ++ t2))) hP
      have hD := D_perm (List.perm_append_comm_assoc w15 w11 (tk ++ (t1 ++ t2))) hD
      refine lv_pop hx hb dL_law_1144 rfl ?_
      refine lv_goto (tgt := 1350) hx hb dL_law_1145 (by decide) ?_
      obtain ⟨-, y0, y1, y2, -⟩ := hq2
      have ix0 : iR (f 0) (fh_16 0).toInt := Or.inr ⟨by rw [ze]; simp, by omega⟩
      have ix1 : iR (f 1) (fh_16 1).toInt := by rw [y1]; exact i1
      have ix2 : iR (f 2) (fh_16 2).toInt := by rw [y2]; exact i2
      exact K _ _ _ _ ⟨w11, w15, (tk ++ (t1 ++ t2)), ts, fl0, wi0, sz0, fl1, wi1, sz1, fl2, wi2, sz2, fl3, wi3, sz3, f, ta, fm, fw, fh_16, hB, hM, hI, ⟨r0, r1, r2, r3, r4, ix0, ix1, ix2⟩, hP, hD, hS, hl, by omega, by omega⟩
  · obtain rfl : 1 = av2 := h9.symm
    obtain ⟨t0, t1, t2, rfl, j0, j1, j2⟩ := hI
    rcases j1 with ⟨ze, zt⟩ | ⟨z, ze, zt⟩
    · skip
      have hB : BC y x ts fl0 wi0 sz0 fl1 wi1 sz1 fl2 wi2 sz2 fl3 wi3 sz3 (va_up f 1 none) w := by rw [upE ze]; exact hB
      subst zt
      have hn9 : nn f = nn (va_up f 1 (some 0)) + 1 := by simp [nn, n1, va_up, ze] <;> omega
      have hc3 : 1 ≤ nn f := by omega
      refine cx_skeep1n (ob := x) (fim := f) (rest := []) C1 hB hP hD hS hl.1 (Nat.le_of_ble_eq_true rfl) ⟨by omega, by omega⟩ dL_law_1131 (fun an17 w18 f2 tk im2 H locs hq hB hT hP hD hS => ?_)
      obtain ⟨hq0, hf2, -⟩ := hq
      have hq : an17 = 0 ∧ True := ⟨hq0, trivial⟩
      rw [up2] at hf2
      have hP := P_perm ((List.Perm.append_left (w18 ++ tk) (List.Perm.append_left wm (p_1 t0 [] t2))).trans (pk_to (p_1 t0 tk t2)).symm) hP
      have hD := D_perm ((List.Perm.append_left (w18 ++ tk) (List.Perm.append_left wm (p_1 t0 [] t2))).trans (pk_to (p_1 t0 tk t2)).symm) hD
      have gf0 : f2 1 = some im2 := by rw [hf2]; exact va_up_self _ _ _
      have gf1 : f2 0 = f 0 := by rw [hf2]; exact va_up_ne _ _ (by decide)
      have gf3 : f2 2 = f 2 := by rw [hf2]; exact va_up_ne _ _ (by decide)
      have hI : IM y f2 (t0 ++ (tk ++ t2)) := ⟨t0, tk, t2, rfl, (by rw [gf1]; exact j0), Or.inr ⟨im2, gf0, hT⟩, (by rw [gf3]; exact j2)⟩
      have hn8 : nn f = nn f2 + 1 := by simp only [nn, n1, gf0, ze, gf1, gf3]; omega
      have hP := P_perm (List.perm_append_comm_assoc w18 wm (t0 ++ (tk ++ t2))) hP
      have hD := D_perm (List.perm_append_comm_assoc w18 wm (t0 ++ (tk ++ t2))) hD
      refine lv_pop hx hb dL_law_1134 rfl ?_
      refine lv_aload_n hx hb dL_law_1135 rfl (lv_at hl 1 rfl) ?_
      refine lv_aload_n hx hb dL_law_1136 rfl (lv_at hl 3 rfl) ?_
      refine lv_iload_n hx hb dL_law_1137 rfl (lv_at hl 0 rfl) ?_
      refine lv_iconst (v := 1) hx hb dL_law_1138 (by decide) ?_
      refine lv_iadd hx hb dL_law_1139 ?_
      refine lv_topi (fun jv19 ejv19 => ?_)
      obtain rfl : jv1 = jv19 := ejv1.trans ejv19.symm
      refine va_sld hx hb hX hbl hbA hS (sl_in (c := 1) ejv1 (by decide) (by decide) hi hL) dL_law_1140 ?_
      refine lv_topi (fun av20 eav20 => ?_)
      obtain rfl : 1 = av20 := eav2.trans eav20.symm
      refine cx_fkeepM1 (ob := q)  (rest := []) C1  hM hP hD hS hl.1 (Nat.le_of_ble_eq_true rfl) ⟨by omega, by omega⟩ dL_law_1141 (fun an21 w22 fh_23 H locs hq2 hM hP hD hS => ?_)
      have hP := P_perm (List.perm_append_comm_assoc w22 w18 (t0 ++ (tk ++ t2))) hP
      have hD := D_perm (List.perm_append_comm_assoc w22 w18 (t0 ++ (tk ++ t2))) hD
      refine lv_pop hx hb dL_law_1144 rfl ?_
      refine lv_goto (tgt := 1350) hx hb dL_law_1145 (by decide) ?_
      obtain ⟨-, y0, y1, y2, -⟩ := hq2
      have ix0 : iR (f2 0) (fh_23 0).toInt := by rw [y0, gf1]; exact i0
      have ix1 : iR (f2 1) (fh_23 1).toInt := Or.inr ⟨by rw [gf0]; simp, by omega⟩
      have ix2 : iR (f2 2) (fh_23 2).toInt := by rw [y2, gf3]; exact i2
      exact K _ _ _ _ ⟨w18, w22, (t0 ++ (tk ++ t2)), ts, fl0, wi0, sz0, fl1, wi1, sz1, fl2, wi2, sz2, fl3, wi3, sz3, f2, ta, fm, fw, fh_23, hB, hM, hI, ⟨r0, r1, r2, r3, r4, ix0, ix1, ix2⟩, hP, hD, hS, hl, by omega, by omega⟩
    · skip
      have hB : BC y x ts fl0 wi0 sz0 fl1 wi1 sz1 fl2 wi2 sz2 fl3 wi3 sz3 (va_up f 1 (some z)) w := by rw [upE ze]; exact hB
      have hP := P_perm (pk_to (p_1 t0 t1 t2)) hP
      have hD := D_perm (pk_to (p_1 t0 t1 t2)) hD
      refine cx_skeep1s (ob := x) (fim := f) (im := z) (rest := []) C1 hB zt hP hD hS hl.1 (Nat.le_of_ble_eq_true rfl) ⟨by omega, by omega⟩ dL_law_1131 (fun an24 w25 tk H locs hq hB hT hP hD hS => ?_)
      rw [upE ze] at hB
      have hP := P_perm (pk_to (p_1 t0 tk t2)).symm hP
      have hD := D_perm (pk_to (p_1 t0 tk t2)).symm hD
      have hI : IM y f (t0 ++ (tk ++ t2)) := ⟨t0, tk, t2, rfl, j0, Or.inr ⟨z, ze, hT⟩, j2⟩
      have hP := P_perm (List.perm_append_comm_assoc w25 wm (t0 ++ (tk ++ t2))) hP
      have hD := D_perm (List.perm_append_comm_assoc w25 wm (t0 ++ (tk ++ t2))) hD
      refine lv_pop hx hb dL_law_1134 rfl ?_
      refine lv_aload_n hx hb dL_law_1135 rfl (lv_at hl 1 rfl) ?_
      refine lv_aload_n hx hb dL_law_1136 rfl (lv_at hl 3 rfl) ?_
      refine lv_iload_n hx hb dL_law_1137 rfl (lv_at hl 0 rfl) ?_
      refine lv_iconst (v := 1) hx hb dL_law_1138 (by decide) ?_
      refine lv_iadd hx hb dL_law_1139 ?_
      refine lv_topi (fun jv26 ejv26 => ?_)
      obtain rfl : jv1 = jv26 := ejv1.trans ejv26.symm
      refine va_sld hx hb hX hbl hbA hS (sl_in (c := 1) ejv1 (by decide) (by decide) hi hL) dL_law_1140 ?_
      refine lv_topi (fun av27 eav27 => ?_)
      obtain rfl : 1 = av27 := eav2.trans eav27.symm
      refine cx_fkeepM1 (ob := q)  (rest := []) C1  hM hP hD hS hl.1 (Nat.le_of_ble_eq_true rfl) ⟨by omega, by omega⟩ dL_law_1141 (fun an28 w29 fh_30 H locs hq2 hM hP hD hS => ?_)
      have hP := P_perm (List.perm_append_comm_assoc w29 w25 (t0 ++ (tk ++ t2))) hP
      have hD := D_perm (List.perm_append_comm_assoc w29 w25 (t0 ++ (tk ++ t2))) hD
      refine lv_pop hx hb dL_law_1144 rfl ?_
      refine lv_goto (tgt := 1350) hx hb dL_law_1145 (by decide) ?_
      obtain ⟨-, y0, y1, y2, -⟩ := hq2
      have ix0 : iR (f 0) (fh_30 0).toInt := by rw [y0]; exact i0
      have ix1 : iR (f 1) (fh_30 1).toInt := Or.inr ⟨by rw [ze]; simp, by omega⟩
      have ix2 : iR (f 2) (fh_30 2).toInt := by rw [y2]; exact i2
      exact K _ _ _ _ ⟨w25, w29, (t0 ++ (tk ++ t2)), ts, fl0, wi0, sz0, fl1, wi1, sz1, fl2, wi2, sz2, fl3, wi3, sz3, f, ta, fm, fw, fh_30, hB, hM, hI, ⟨r0, r1, r2, r3, r4, ix0, ix1, ix2⟩, hP, hD, hS, hl, by omega, by omega⟩
  · obtain rfl : 2 = av2 := h9.symm
    obtain ⟨t0, t1, t2, rfl, j0, j1, j2⟩ := hI
    rcases j2 with ⟨ze, zt⟩ | ⟨z, ze, zt⟩
    · skip
      have hB : BC y x ts fl0 wi0 sz0 fl1 wi1 sz1 fl2 wi2 sz2 fl3 wi3 sz3 (va_up f 2 none) w := by rw [upE ze]; exact hB
      subst zt
      have hn9 : nn f = nn (va_up f 2 (some 0)) + 1 := by simp [nn, n1, va_up, ze] <;> omega
      have hc3 : 1 ≤ nn f := by omega
      refine cx_skeep2n (ob := x) (fim := f) (rest := []) C1 hB hP hD hS hl.1 (Nat.le_of_ble_eq_true rfl) ⟨by omega, by omega⟩ dL_law_1131 (fun an31 w32 f2 tk im2 H locs hq hB hT hP hD hS => ?_)
      obtain ⟨hq0, hf2, -⟩ := hq
      have hq : an31 = 0 ∧ True := ⟨hq0, trivial⟩
      rw [up2] at hf2
      have hP := P_perm ((List.Perm.append_left (w32 ++ tk) (List.Perm.append_left wm (p_2 t0 t1 []))).trans (pk_to (p_2 t0 t1 tk)).symm) hP
      have hD := D_perm ((List.Perm.append_left (w32 ++ tk) (List.Perm.append_left wm (p_2 t0 t1 []))).trans (pk_to (p_2 t0 t1 tk)).symm) hD
      have gf0 : f2 2 = some im2 := by rw [hf2]; exact va_up_self _ _ _
      have gf1 : f2 0 = f 0 := by rw [hf2]; exact va_up_ne _ _ (by decide)
      have gf2 : f2 1 = f 1 := by rw [hf2]; exact va_up_ne _ _ (by decide)
      have hI : IM y f2 (t0 ++ (t1 ++ tk)) := ⟨t0, t1, tk, rfl, (by rw [gf1]; exact j0), (by rw [gf2]; exact j1), Or.inr ⟨im2, gf0, hT⟩⟩
      have hn8 : nn f = nn f2 + 1 := by simp only [nn, n1, gf0, ze, gf1, gf2]; omega
      have hP := P_perm (List.perm_append_comm_assoc w32 wm (t0 ++ (t1 ++ tk))) hP
      have hD := D_perm (List.perm_append_comm_assoc w32 wm (t0 ++ (t1 ++ tk))) hD
      refine lv_pop hx hb dL_law_1134 rfl ?_
      refine lv_aload_n hx hb dL_law_1135 rfl (lv_at hl 1 rfl) ?_
      refine lv_aload_n hx hb dL_law_1136 rfl (lv_at hl 3 rfl) ?_
      refine lv_iload_n hx hb dL_law_1137 rfl (lv_at hl 0 rfl) ?_
      refine lv_iconst (v := 1) hx hb dL_law_1138 (by decide) ?_
      refine lv_iadd hx hb dL_law_1139 ?_
      refine lv_topi (fun jv33 ejv33 => ?_)
      obtain rfl : jv1 = jv33 := ejv1.trans ejv33.symm
      refine va_sld hx hb hX hbl hbA hS (sl_in (c := 1) ejv1 (by decide) (by decide) hi hL) dL_law_1140 ?_
      refine lv_topi (fun av34 eav34 => ?_)
      obtain rfl : 2 = av34 := eav2.trans eav34.symm
      refine cx_fkeepM2 (ob := q)  (rest := []) C1  hM hP hD hS hl.1 (Nat.le_of_ble_eq_true rfl) ⟨by omega, by omega⟩ dL_law_1141 (fun an35 w36 fh_37 H locs hq2 hM hP hD hS => ?_)
      have hP := P_perm (List.perm_append_comm_assoc w36 w32 (t0 ++ (t1 ++ tk))) hP
      have hD := D_perm (List.perm_append_comm_assoc w36 w32 (t0 ++ (t1 ++ tk))) hD
      refine lv_pop hx hb dL_law_1144 rfl ?_
      refine lv_goto (tgt := 1350) hx hb dL_law_1145 (by decide) ?_
      obtain ⟨-, y0, y1, y2, -⟩ := hq2
      have ix0 : iR (f2 0) (fh_37 0).toInt := by rw [y0, gf1]; exact i0
      have ix1 : iR (f2 1) (fh_37 1).toInt := by rw [y1, gf2]; exact i1
      have ix2 : iR (f2 2) (fh_37 2).toInt := Or.inr ⟨by rw [gf0]; simp, by omega⟩
      exact K _ _ _ _ ⟨w32, w36, (t0 ++ (t1 ++ tk)), ts, fl0, wi0, sz0, fl1, wi1, sz1, fl2, wi2, sz2, fl3, wi3, sz3, f2, ta, fm, fw, fh_37, hB, hM, hI, ⟨r0, r1, r2, r3, r4, ix0, ix1, ix2⟩, hP, hD, hS, hl, by omega, by omega⟩
    · skip
      have hB : BC y x ts fl0 wi0 sz0 fl1 wi1 sz1 fl2 wi2 sz2 fl3 wi3 sz3 (va_up f 2 (some z)) w := by rw [upE ze]; exact hB
      have hP := P_perm (pk_to (p_2 t0 t1 t2)) hP
      have hD := D_perm (pk_to (p_2 t0 t1 t2)) hD
      refine cx_skeep2s (ob := x) (fim := f) (im := z) (rest := []) C1 hB zt hP hD hS hl.1 (Nat.le_of_ble_eq_true rfl) ⟨by omega, by omega⟩ dL_law_1131 (fun an38 w39 tk H locs hq hB hT hP hD hS => ?_)
      rw [upE ze] at hB
      have hP := P_perm (pk_to (p_2 t0 t1 tk)).symm hP
      have hD := D_perm (pk_to (p_2 t0 t1 tk)).symm hD
      have hI : IM y f (t0 ++ (t1 ++ tk)) := ⟨t0, t1, tk, rfl, j0, j1, Or.inr ⟨z, ze, hT⟩⟩
      have hP := P_perm (List.perm_append_comm_assoc w39 wm (t0 ++ (t1 ++ tk))) hP
      have hD := D_perm (List.perm_append_comm_assoc w39 wm (t0 ++ (t1 ++ tk))) hD
      refine lv_pop hx hb dL_law_1134 rfl ?_
      refine lv_aload_n hx hb dL_law_1135 rfl (lv_at hl 1 rfl) ?_
      refine lv_aload_n hx hb dL_law_1136 rfl (lv_at hl 3 rfl) ?_
      refine lv_iload_n hx hb dL_law_1137 rfl (lv_at hl 0 rfl) ?_
      refine lv_iconst (v := 1) hx hb dL_law_1138 (by decide) ?_
      refine lv_iadd hx hb dL_law_1139 ?_
      refine lv_topi (fun jv40 ejv40 => ?_)
      obtain rfl : jv1 = jv40 := ejv1.trans ejv40.symm
      refine va_sld hx hb hX hbl hbA hS (sl_in (c := 1) ejv1 (by decide) (by decide) hi hL) dL_law_1140 ?_
      refine lv_topi (fun av41 eav41 => ?_)
      obtain rfl : 2 = av41 := eav2.trans eav41.symm
      refine cx_fkeepM2 (ob := q)  (rest := []) C1  hM hP hD hS hl.1 (Nat.le_of_ble_eq_true rfl) ⟨by omega, by omega⟩ dL_law_1141 (fun an42 w43 fh_44 H locs hq2 hM hP hD hS => ?_)
      have hP := P_perm (List.perm_append_comm_assoc w43 w39 (t0 ++ (t1 ++ tk))) hP
      have hD := D_perm (List.perm_append_comm_assoc w43 w39 (t0 ++ (t1 ++ tk))) hD
      refine lv_pop hx hb dL_law_1144 rfl ?_
      refine lv_goto (tgt := 1350) hx hb dL_law_1145 (by decide) ?_
      obtain ⟨-, y0, y1, y2, -⟩ := hq2
      have ix0 : iR (f 0) (fh_44 0).toInt := by rw [y0]; exact i0
      have ix1 : iR (f 1) (fh_44 1).toInt := by rw [y1]; exact i1
      have ix2 : iR (f 2) (fh_44 2).toInt := Or.inr ⟨by rw [ze]; simp, by omega⟩
      exact K _ _ _ _ ⟨w39, w43, (t0 ++ (t1 ++ tk)), ts, fl0, wi0, sz0, fl1, wi1, sz1, fl2, wi2, sz2, fl3, wi3, sz3, f, ta, fm, fw, fh_44, hB, hM, hI, ⟨r0, r1, r2, r3, r4, ix0, ix1, ix2⟩, hP, hD, hS, hl, by omega, by omega⟩
  · have hav2 := h9
    refine cx_skeeplo (ob := x) (a1 := av2) (rest := []) C1 hav2 hB hP hD hS hl.1 (Nat.le_of_ble_eq_true rfl) ⟨by omega, by omega⟩ dL_law_1131 (fun an45 w46  H locs hq hB hP hD hS => ?_)
    have hP := P_perm (List.perm_append_comm_assoc w46 wm tl) hP
    have hD := D_perm (List.perm_append_comm_assoc w46 wm tl) hD
    refine lv_pop hx hb dL_law_1134 rfl ?_
    refine lv_aload_n hx hb dL_law_1135 rfl (lv_at hl 1 rfl) ?_
    refine lv_aload_n hx hb dL_law_1136 rfl (lv_at hl 3 rfl) ?_
    refine lv_iload_n hx hb dL_law_1137 rfl (lv_at hl 0 rfl) ?_
    refine lv_iconst (v := 1) hx hb dL_law_1138 (by decide) ?_
    refine lv_iadd hx hb dL_law_1139 ?_
    refine lv_topi (fun jv47 ejv47 => ?_)
    obtain rfl : jv1 = jv47 := ejv1.trans ejv47.symm
    refine va_sld hx hb hX hbl hbA hS (sl_in (c := 1) ejv1 (by decide) (by decide) hi hL) dL_law_1140 ?_
    refine lv_topi (fun av48 eav48 => ?_)
    obtain rfl : av2 = av48 := eav2.trans eav48.symm
    refine cx_skeepMlo (ob := q) (a1 := av2) (rest := []) C1 hav2 hM hP hD hS hl.1 (Nat.le_of_ble_eq_true rfl) ⟨by omega, by omega⟩ dL_law_1141 (fun an49 w50  H locs hq2 hM hP hD hS => ?_)
    have hP := P_perm (List.perm_append_comm_assoc w50 w46 tl) hP
    have hD := D_perm (List.perm_append_comm_assoc w50 w46 tl) hD
    refine lv_pop hx hb dL_law_1144 rfl ?_
    refine lv_goto (tgt := 1350) hx hb dL_law_1145 (by decide) ?_
    exact K _ _ _ _ ⟨w46, w50, tl, ts, fl0, wi0, sz0, fl1, wi1, sz1, fl2, wi2, sz2, fl3, wi3, sz3, f, ta, fm, fw, fh, hB, hM, hI, ⟨r0, r1, r2, r3, r4, i0, i1, i2⟩, hP, hD, hS, hl, by omega, by omega⟩
  · have hav2 := h9
    refine cx_skeephi (ob := x) (a1 := av2) (rest := []) C1 hav2 hB hP hD hS hl.1 (Nat.le_of_ble_eq_true rfl) ⟨by omega, by omega⟩ dL_law_1131 (fun an51 w52  H locs hq hB hP hD hS => ?_)
    have hP := P_perm (List.perm_append_comm_assoc w52 wm tl) hP
    have hD := D_perm (List.perm_append_comm_assoc w52 wm tl) hD
    refine lv_pop hx hb dL_law_1134 rfl ?_
    refine lv_aload_n hx hb dL_law_1135 rfl (lv_at hl 1 rfl) ?_
    refine lv_aload_n hx hb dL_law_1136 rfl (lv_at hl 3 rfl) ?_
    refine lv_iload_n hx hb dL_law_1137 rfl (lv_at hl 0 rfl) ?_
    refine lv_iconst (v := 1) hx hb dL_law_1138 (by decide) ?_
    refine lv_iadd hx hb dL_law_1139 ?_
    refine lv_topi (fun jv53 ejv53 => ?_)
    obtain rfl : jv1 = jv53 := ejv1.trans ejv53.symm
    refine va_sld hx hb hX hbl hbA hS (sl_in (c := 1) ejv1 (by decide) (by decide) hi hL) dL_law_1140 ?_
    refine lv_topi (fun av54 eav54 => ?_)
    obtain rfl : av2 = av54 := eav2.trans eav54.symm
    refine cx_skeepMhi (ob := q) (a1 := av2) (rest := []) C1 hav2 hM hP hD hS hl.1 (Nat.le_of_ble_eq_true rfl) ⟨by omega, by omega⟩ dL_law_1141 (fun an55 w56  H locs hq2 hM hP hD hS => ?_)
    have hP := P_perm (List.perm_append_comm_assoc w56 w52 tl) hP
    have hD := D_perm (List.perm_append_comm_assoc w56 w52 tl) hD
    refine lv_pop hx hb dL_law_1144 rfl ?_
    refine lv_goto (tgt := 1350) hx hb dL_law_1145 (by decide) ?_
    exact K _ _ _ _ ⟨w52, w56, tl, ts, fl0, wi0, sz0, fl1, wi1, sz1, fl2, wi2, sz2, fl3, wi3, sz3, f, ta, fm, fw, fh, hB, hM, hI, ⟨r0, r1, r2, r3, r4, i0, i1, i2⟩, hP, hD, hS, hl, by omega, by omega⟩

set_option maxHeartbeats 4000000 in
set_option maxRecDepth 100000 in
theorem law_32 {p : Program} {e : Env} {s : State} {m : MethodId} {below : List Frame} {meth : Method} {c : Code} {l : Launch} {b L : Nat} {xs : Nat → Int32} {A : Nat → Prop} {G : va_G} {y : Nat → ClassId} {aK aV : Nat → Nat} {H : Heap} {locs : List Loc} {cells slots : Nat} {ls : Array Slot} {Q : State → Prop} (C0 : lawC p s m meth c b L xs A G y aK aV) {x q : Nat} {i : Int32} (hi : 0 ≤ i.toInt ∧ i.toInt + 6 ≤ (L : Int)) (I : LI s b A G y x q i H locs ls cells slots) (K : ∀ H1 locs1 cells1 slots1, LI s b A G y x q i H1 locs1 ls cells1 slots1 → W p l e room_1 s m #[Value.ref b] below meth c H1 locs1 cells1 slots1 Q (F0 m 1350 ls [])) : W p l e room_1 s m #[Value.ref b] below meth c H locs cells slots Q (F0 m 1148 ls []) := by
  have C1 := C0
  obtain ⟨hx, hb, hr, hml, hown, hw0, hX, hbl, hbA, hA, hAf, hlocks, hK, hE, hL⟩ := C0
  obtain ⟨w, wm, tl, ts, fl0, wi0, sz0, fl1, wi1, sz1, fl2, wi2, sz2, fl3, wi3, sz3, f, ta, fm, fw, fh, hB, hM, hI, hR, hP, hD, hS, hl, hc1, hc2⟩ := I
  obtain ⟨r0, r1, r2, r3, r4, i0, i1, i2⟩ := hR
  refine lv_aload_n hx hb dL_law_1148 rfl (lv_at hl 2 rfl) ?_
  refine lv_aload_n hx hb dL_law_1149 rfl (lv_at hl 3 rfl) ?_
  refine lv_iload_n hx hb dL_law_1150 rfl (lv_at hl 0 rfl) ?_
  refine lv_iconst (v := 1) hx hb dL_law_1151 (by decide) ?_
  refine lv_iadd hx hb dL_law_1152 ?_
  refine lv_topi (fun jv1 ejv1 => ?_)
  refine va_sld hx hb hX hbl hbA hS (sl_in (c := 1) ejv1 (by decide) (by decide) hi hL) dL_law_1153 ?_
  refine lv_topi (fun av2 eav2 => ?_)
  rcases im_c5 av2 with h9 | h9 | h9 | h9 | h9
  · obtain rfl : 0 = av2 := h9.symm
    obtain ⟨t0, t1, t2, rfl, j0, j1, j2⟩ := hI
    rcases j0 with ⟨ze, zt⟩ | ⟨z, ze, zt⟩
    · skip
      have hB : BC y x ts fl0 wi0 sz0 fl1 wi1 sz1 fl2 wi2 sz2 fl3 wi3 sz3 (va_up f 0 none) w := by rw [upE ze]; exact hB
      refine cx_sback0n (ob := x) (fim := f) (rest := []) C1 hB hP hD hS hl.1 (Nat.le_of_ble_eq_true rfl) ⟨by omega, by omega⟩ dL_law_1154 (fun an3 w4 H locs hq hB hP hD hS => ?_)
      rw [upE ze] at hB
      have hI : IM y f (t0 ++ (t1 ++ t2)) := ⟨t0, t1, t2, rfl, Or.inl ⟨ze, zt⟩, j1, j2⟩
      have hP := P_perm (List.perm_append_comm_assoc w4 wm (t0 ++ (t1 ++ t2))) hP
      have hD := D_perm (List.perm_append_comm_assoc w4 wm (t0 ++ (t1 ++ t2))) hD
      refine lv_pop hx hb dL_law_1157 rfl ?_
      refine lv_aload_n hx hb dL_law_1158 rfl (lv_at hl 1 rfl) ?_
      refine lv_aload_n hx hb dL_law_1159 rfl (lv_at hl 3 rfl) ?_
      refine lv_iload_n hx hb dL_law_1160 rfl (lv_at hl 0 rfl) ?_
      refine lv_iconst (v := 1) hx hb dL_law_1161 (by decide) ?_
      refine lv_iadd hx hb dL_law_1162 ?_
      refine lv_topi (fun jv5 ejv5 => ?_)
      obtain rfl : jv1 = jv5 := ejv1.trans ejv5.symm
      refine va_sld hx hb hX hbl hbA hS (sl_in (c := 1) ejv1 (by decide) (by decide) hi hL) dL_law_1163 ?_
      refine lv_topi (fun av6 eav6 => ?_)
      obtain rfl : 0 = av6 := eav2.trans eav6.symm
      refine cx_fbackM0 (ob := q)  (rest := []) C1  hM hP hD hS hl.1 (Nat.le_of_ble_eq_true rfl) ⟨by omega, by omega⟩ dL_law_1164 (fun an7 w8  H locs hq2 hM hP hD hS => ?_)
      have hP := P_perm (List.perm_append_comm_assoc w8 w4 (t0 ++ (t1 ++ t2))) hP
      have hD := D_perm (List.perm_append_comm_assoc w8 w4 (t0 ++ (t1 ++ t2))) hD
      refine lv_pop hx hb dL_law_1167 rfl ?_
      refine lv_goto (tgt := 1350) hx hb dL_law_1168 (by decide) ?_
      exact K _ _ _ _ ⟨w4, w8, (t0 ++ (t1 ++ t2)), ts, fl0, wi0, sz0, fl1, wi1, sz1, fl2, wi2, sz2, fl3, wi3, sz3, f, ta, fm, fw, fh, hB, hM, hI, ⟨r0, r1, r2, r3, r4, i0, i1, i2⟩, hP, hD, hS, hl, by omega, by omega⟩
    · skip
      have hB : BC y x ts fl0 wi0 sz0 fl1 wi1 sz1 fl2 wi2 sz2 fl3 wi3 sz3 (va_up f 0 (some z)) w := by rw [upE ze]; exact hB
      have hP := P_perm (pk_to (p_0 t0 t1 t2)) hP
      have hD := D_perm (pk_to (p_0 t0 t1 t2)) hD
      refine cx_sback0s (ob := x) (fim := f) (im := z) (rest := []) C1 hB zt hP hD hS hl.1 (Nat.le_of_ble_eq_true rfl) ⟨by omega, by omega⟩ dL_law_1154 (fun an9 w10 tk H locs hq hB hT hP hD hS => ?_)
      rw [upE ze] at hB
      have hP := P_perm (pk_to (p_0 tk t1 t2)).symm hP
      have hD := D_perm (pk_to (p_0 tk t1 t2)).symm hD
      have hI : IM y f (tk ++ (t1 ++ t2)) := ⟨tk, t1, t2, rfl, Or.inr ⟨z, ze, hT⟩, j1, j2⟩
      have hP := P_perm (List.perm_append_comm_assoc w10 wm (tk ++ (t1 ++ t2))) hP
      have hD := D_perm (List.perm_append_comm_assoc w10 wm (tk ++ (t1 ++ t2))) hD
      refine lv_pop hx hb dL_law_1157 rfl ?_
      refine lv_aload_n hx hb dL_law_1158 rfl (lv_at hl 1 rfl) ?_
      refine lv_aload_n hx hb dL_law_1159 rfl (lv_at hl 3 rfl) ?_
      refine lv_iload_n hx hb dL_law_1160 rfl (lv_at hl 0 rfl) ?_
      refine lv_iconst (v := 1) hx hb dL_law_1161 (by decide) ?_
      refine lv_iadd hx hb dL_law_1162 ?_
      refine lv_topi (fun jv11 ejv11 => ?_)
      obtain rfl : jv1 = jv11 := ejv1.trans ejv11.symm
      refine va_sld hx hb hX hbl hbA hS (sl_in (c := 1) ejv1 (by decide) (by decide) hi hL) dL_law_1163 ?_
      refine lv_topi (fun av12 eav12 => ?_)
      obtain rfl : 0 = av12 := eav2.trans eav12.symm
      refine cx_fbackM0 (ob := q)  (rest := []) C1  hM hP hD hS hl.1 (Nat.le_of_ble_eq_true rfl) ⟨by omega, by omega⟩ dL_law_1164 (fun an13 w14  H locs hq2 hM hP hD hS => ?_)
      have hP := P_perm (List.perm_append_comm_assoc w14 w10 (tk ++ (t1 ++ t2))) hP
      have hD := D_perm (List.perm_append_comm_assoc w14 w10 (tk ++ (t1 ++ t2))) hD
      refine lv_pop hx hb dL_law_1167 rfl ?_
      refine lv_goto (tgt := 1350) hx hb dL_law_1168 (by decide) ?_
      exact K _ _ _ _ ⟨w10, w14, (tk ++ (t1 ++ t2)), ts, fl0, wi0, sz0, fl1, wi1, sz1, fl2, wi2, sz2, fl3, wi3, sz3, f, ta, fm, fw, fh, hB, hM, hI, ⟨r0, r1, r2, r3, r4, i0, i1, i2⟩, hP, hD, hS, hl, by omega, by omega⟩
  · obtain rfl : 1 = av2 := h9.symm
    obtain ⟨t0, t1, t2, rfl, j0, j1, j2⟩ := hI
    rcases j1 with ⟨ze, zt⟩ | ⟨z, ze, zt⟩
    · skip
      have hB : BC y x ts fl0 wi0 sz0 fl1 wi1 sz1 fl2 wi2 sz2 fl3 wi3 sz3 (va_up f 1 none) w := by rw [upE ze]; exact hB
      refine cx_sback1n (ob := x) (fim := f) (rest := []) C1 hB hP hD hS hl.1 (Nat.le_of_ble_eq_true rfl) ⟨by omega, by omega⟩ dL_law_1154 (fun an15 w16 H locs hq hB hP hD hS => ?_)
      rw [upE ze] at hB
      have hI : IM y f (t0 ++ (t1 ++ t2)) := ⟨t0, t1, t2, rfl, j0, Or.inl ⟨ze, zt⟩, j2⟩
      have hP := P_perm (List.perm_append_comm_assoc w16 wm (t0 ++ (t1 ++ t2))) hP
      have hD := D_perm (List.perm_append_comm_assoc w16 wm (t0 ++ (t1 ++ t2))) hD
      refine lv_pop hx hb dL_law_1157 rfl ?_
      refine lv_aload_n hx hb dL_law_1158 rfl (lv_at hl 1 rfl) ?_
      refine lv_aload_n hx hb dL_law_1159 rfl (lv_at hl 3 rfl) ?_
      refine lv_iload_n hx hb dL_law_1160 rfl (lv_at hl 0 rfl) ?_
      refine lv_iconst (v := 1) hx hb dL_law_1161 (by decide) ?_
      refine lv_iadd hx hb dL_law_1162 ?_
      refine lv_topi (fun jv17 ejv17 => ?_)
      obtain rfl : jv1 = jv17 := ejv1.trans ejv17.symm
      refine va_sld hx hb hX hbl hbA hS (sl_in (c := 1) ejv1 (by decide) (by decide) hi hL) dL_law_1163 ?_
      refine lv_topi (fun av18 eav18 => ?_)
      obtain rfl : 1 = av18 := eav2.trans eav18.symm
      refine cx_fbackM1 (ob := q)  (rest := []) C1  hM hP hD hS hl.1 (Nat.le_of_ble_eq_true rfl) ⟨by omega, by omega⟩ dL_law_1164 (fun an19 w20  H locs hq2 hM hP hD hS => ?_)
      have hP := P_perm (List.perm_append_comm_assoc w20 w16 (t0 ++ (t1 ++ t2))) hP
      have hD := D_perm (List.perm_append_comm_assoc w20 w16 (t0 ++ (t1 ++ t2))) hD
      refine lv_pop hx hb dL_law_1167 rfl ?_
      refine lv_goto (tgt := 1350) hx hb dL_law_1168 (by decide) ?_
      exact K _ _ _ _ ⟨w16, w20, (t0 ++ (t1 ++ t2)), ts, fl0, wi0, sz0, fl1, wi1, sz1, fl2, wi2, sz2, fl3, wi3, sz3, f, ta, fm, fw, fh, hB, hM, hI, ⟨r0, r1, r2, r3, r4, i0, i1, i2⟩, hP, hD, hS, hl, by omega, by omega⟩
    · skip
      have hB : BC y x ts fl0 wi0 sz0 fl1 wi1 sz1 fl2 wi2 sz2 fl3 wi3 sz3 (va_up f 1 (some z)) w := by rw [upE ze]; exact hB
      have hP := P_perm (pk_to (p_1 t0 t1 t2)) hP
      have hD := D_perm (pk_to (p_1 t0 t1 t2)) hD
      refine cx_sback1s (ob := x) (fim := f) (im := z) (rest := []) C1 hB zt hP hD hS hl.1 (Nat.le_of_ble_eq_true rfl) ⟨by omega, by omega⟩ dL_law_1154 (fun an21 w22 tk H locs hq hB hT hP hD hS => ?_)
      rw [upE ze] at hB
      have hP := P_perm (pk_to (p_1 t0 tk t2)).symm hP
      have hD := D_perm (pk_to (p_1 t0 tk t2)).symm hD
      have hI : IM y f (t0 ++ (tk ++ t2)) := ⟨t0, tk, t2, rfl, j0, Or.inr ⟨z, ze, hT⟩, j2⟩
      have hP := P_perm (List.perm_append_comm_assoc w22 wm (t0 ++ (tk ++ t2))) hP
      have hD := D_perm (List.perm_append_comm_assoc w22 wm (t0 ++ (tk ++ t2))) hD
      refine lv_pop hx hb dL_law_1157 rfl ?_
      refine lv_aload_n hx hb dL_law_1158 rfl (lv_at hl 1 rfl) ?_
      refine lv_aload_n hx hb dL_law_1159 rfl (lv_at hl 3 rfl) ?_
      refine lv_iload_n hx hb dL_law_1160 rfl (lv_at hl 0 rfl) ?_
      refine lv_iconst (v := 1) hx hb dL_law_1161 (by decide) ?_
      refine lv_iadd hx hb dL_law_1162 ?_
      refine lv_topi (fun jv23 ejv23 => ?_)
      obtain rfl : jv1 = jv23 := ejv1.trans ejv23.symm
      refine va_sld hx hb hX hbl hbA hS (sl_in (c := 1) ejv1 (by decide) (by decide) hi hL) dL_law_1163 ?_
      refine lv_topi (fun av24 eav24 => ?_)
      obtain rfl : 1 = av24 := eav2.trans eav24.symm
      refine cx_fbackM1 (ob := q)  (rest := []) C1  hM hP hD hS hl.1 (Nat.le_of_ble_eq_true rfl) ⟨by omega, by omega⟩ dL_law_1164 (fun an25 w26  H locs hq2 hM hP hD hS => ?_)
      have hP := P_perm (List.perm_append_comm_assoc w26 w22 (t0 ++ (tk ++ t2))) hP
      have hD := D_perm (List.perm_append_comm_assoc w26 w22 (t0 ++ (tk ++ t2))) hD
      refine lv_pop hx hb dL_law_1167 rfl ?_
      refine lv_goto (tgt := 1350) hx hb dL_law_1168 (by decide) ?_
      exact K _ _ _ _ ⟨w22, w26, (t0 ++ (tk ++ t2)), ts, fl0, wi0, sz0, fl1, wi1, sz1, fl2, wi2, sz2, fl3, wi3, sz3, f, ta, fm, fw, fh, hB, hM, hI, ⟨r0, r1, r2, r3, r4, i0, i1, i2⟩, hP, hD, hS, hl, by omega, by omega⟩
  · obtain rfl : 2 = av2 := h9.symm
    obtain ⟨t0, t1, t2, rfl, j0, j1, j2⟩ := hI
    rcases j2 with ⟨ze, zt⟩ | ⟨z, ze, zt⟩
    · skip
      have hB : BC y x ts fl0 wi0 sz0 fl1 wi1 sz1 fl2 wi2 sz2 fl3 wi3 sz3 (va_up f 2 none) w := by rw [upE ze]; exact hB
      refine cx_sback2n (ob := x) (fim := f) (rest := []) C1 hB hP hD hS hl.1 (Nat.le_of_ble_eq_true rfl) ⟨by omega, by omega⟩ dL_law_1154 (fun an27 w28 H locs hq hB hP hD hS => ?_)
      rw [upE ze] at hB
      have hI : IM y f (t0 ++ (t1 ++ t2)) := ⟨t0, t1, t2, rfl, j0, j1, Or.inl ⟨ze, zt⟩⟩
      have hP := P_perm (List.perm_append_comm_assoc w28 wm (t0 ++ (t1 ++ t2))) hP
      have hD := D_perm (List.perm_append_comm_assoc w28 wm (t0 ++ (t1 ++ t2))) hD
      refine lv_pop hx hb dL_law_1157 rfl ?_
      refine lv_aload_n hx hb dL_law_1158 rfl (lv_at hl 1 rfl) ?_
      refine lv_aload_n hx hb dL_law_1159 rfl (lv_at hl 3 rfl) ?_
      refine lv_iload_n hx hb dL_law_1160 rfl (lv_at hl 0 rfl) ?_
      refine lv_iconst (v := 1) hx hb dL_law_1161 (by decide) ?_
      refine lv_iadd hx hb dL_law_1162 ?_
      refine lv_topi (fun jv29 ejv29 => ?_)
      obtain rfl : jv1 = jv29 := ejv1.trans ejv29.symm
      refine va_sld hx hb hX hbl hbA hS (sl_in (c := 1) ejv1 (by decide) (by decide) hi hL) dL_law_1163 ?_
      refine lv_topi (fun av30 eav30 => ?_)
      obtain rfl : 2 = av30 := eav2.trans eav30.symm
      refine cx_fbackM2 (ob := q)  (rest := []) C1  hM hP hD hS hl.1 (Nat.le_of_ble_eq_true rfl) ⟨by omega, by omega⟩ dL_law_1164 (fun an31 w32  H locs hq2 hM hP hD hS => ?_)
      have hP := P_perm (List.perm_append_comm_assoc w32 w28 (t0 ++ (t1 ++ t2))) hP
      have hD := D_perm (List.perm_append_comm_assoc w32 w28 (t0 ++ (t1 ++ t2))) hD
      refine lv_pop hx hb dL_law_1167 rfl ?_
      refine lv_goto (tgt := 1350) hx hb dL_law_1168 (by decide) ?_
      exact K _ _ _ _ ⟨w28, w32, (t0 ++ (t1 ++ t2)), ts, fl0, wi0, sz0, fl1, wi1, sz1, fl2, wi2, sz2, fl3, wi3, sz3, f, ta, fm, fw, fh, hB, hM, hI, ⟨r0, r1, r2, r3, r4, i0, i1, i2⟩, hP, hD, hS, hl, by omega, by omega⟩
    · skip
      have hB : BC y x ts fl0 wi0 sz0 fl1 wi1 sz1 fl2 wi2 sz2 fl3 wi3 sz3 (va_up f 2 (some z)) w := by rw [upE ze]; exact hB
      have hP := P_perm (pk_to (p_2 t0 t1 t2)) hP
      have hD := D_perm (pk_to (p_2 t0 t1 t2)) hD
      refine cx_sback2s (ob := x) (fim := f) (im := z) (rest := []) C1 hB zt hP hD hS hl.1 (Nat.le_of_ble_eq_true rfl) ⟨by omega, by omega⟩ dL_law_1154 (fun an33 w34 tk H locs hq hB hT hP hD hS => ?_)
      rw [upE ze] at hB
      have hP := P_perm (pk_to (p_2 t0 t1 tk)).symm hP
      have hD := D_perm (pk_to (p_2 t0 t1 tk)).symm hD
      have hI : IM y f (t0 ++ (t1 ++ tk)) := ⟨t0, t1, tk, rfl, j0, j1, Or.inr ⟨z, ze, hT⟩⟩
      have hP := P_perm (List.perm_append_comm_assoc w34 wm (t0 ++ (t1 ++ tk))) hP
      have hD := D_perm (List.perm_append_comm_assoc w34 wm (t0 ++ (t1 ++ tk))) hD
      refine lv_pop hx hb dL_law_1157 rfl ?_
      refine lv_aload_n hx hb dL_law_1158 rfl (lv_at hl 1 rfl) ?_
      refine lv_aload_n hx hb dL_law_1159 rfl (lv_at hl 3 rfl) ?_
      refine lv_iload_n hx hb dL_law_1160 rfl (lv_at hl 0 rfl) ?_
      refine lv_iconst (v := 1) hx hb dL_law_1161 (by decide) ?_
      refine lv_iadd hx hb dL_law_1162 ?_
      refine lv_topi (fun jv35 ejv35 => ?_)
      obtain rfl : jv1 = jv35 := ejv1.trans ejv35.symm
      refine va_sld hx hb hX hbl hbA hS (sl_in (c := 1) ejv1 (by decide) (by decide) hi hL) dL_law_1163 ?_
      refine lv_topi (fun av36 eav36 => ?_)
      obtain rfl : 2 = av36 := eav2.trans eav36.symm
      refine cx_fbackM2 (ob := q)  (rest := []) C1  hM hP hD hS hl.1 (Nat.le_of_ble_eq_true rfl) ⟨by omega, by omega⟩ dL_law_1164 (fun an37 w38  H locs hq2 hM hP hD hS => ?_)
      have hP := P_perm (List.perm_append_comm_assoc w38 w34 (t0 ++ (t1 ++ tk))) hP
      have hD := D_perm (List.perm_append_comm_assoc w38 w34 (t0 ++ (t1 ++ tk))) hD
      refine lv_pop hx hb dL_law_1167 rfl ?_
      refine lv_goto (tgt := 1350) hx hb dL_law_1168 (by decide) ?_
      exact K _ _ _ _ ⟨w34, w38, (t0 ++ (t1 ++ tk)), ts, fl0, wi0, sz0, fl1, wi1, sz1, fl2, wi2, sz2, fl3, wi3, sz3, f, ta, fm, fw, fh, hB, hM, hI, ⟨r0, r1, r2, r3, r4, i0, i1, i2⟩, hP, hD, hS, hl, by omega, by omega⟩
  · have hav2 := h9
    refine cx_sbacklo (ob := x) (a1 := av2) (rest := []) C1 hav2 hB hP hD hS hl.1 (Nat.le_of_ble_eq_true rfl) ⟨by omega, by omega⟩ dL_law_1154 (fun an39 w40  H locs hq hB hP hD hS => ?_)
    have hP := P_perm (List.perm_append_comm_assoc w40 wm tl) hP
    have hD := D_perm (List.perm_append_comm_assoc w40 wm tl) hD
    refine lv_pop hx hb dL_law_1157 rfl ?_
    refine lv_aload_n hx hb dL_law_1158 rfl (lv_at hl 1 rfl) ?_
    refine lv_aload_n hx hb dL_law_1159 rfl (lv_at hl 3 rfl) ?_
    refine lv_iload_n hx hb dL_law_1160 rfl (lv_at hl 0 rfl) ?_
    refine lv_iconst (v := 1) hx hb dL_law_1161 (by decide) ?_
    refine lv_iadd hx hb dL_law_1162 ?_
    refine lv_topi (fun jv41 ejv41 => ?_)
    obtain rfl : jv1 = jv41 := ejv1.trans ejv41.symm
    refine va_sld hx hb hX hbl hbA hS (sl_in (c := 1) ejv1 (by decide) (by decide) hi hL) dL_law_1163 ?_
    refine lv_topi (fun av42 eav42 => ?_)
    obtain rfl : av2 = av42 := eav2.trans eav42.symm
    refine cx_sbackMlo (ob := q) (a1 := av2) (rest := []) C1 hav2 hM hP hD hS hl.1 (Nat.le_of_ble_eq_true rfl) ⟨by omega, by omega⟩ dL_law_1164 (fun an43 w44  H locs hq2 hM hP hD hS => ?_)
    have hP := P_perm (List.perm_append_comm_assoc w44 w40 tl) hP
    have hD := D_perm (List.perm_append_comm_assoc w44 w40 tl) hD
    refine lv_pop hx hb dL_law_1167 rfl ?_
    refine lv_goto (tgt := 1350) hx hb dL_law_1168 (by decide) ?_
    exact K _ _ _ _ ⟨w40, w44, tl, ts, fl0, wi0, sz0, fl1, wi1, sz1, fl2, wi2, sz2, fl3, wi3, sz3, f, ta, fm, fw, fh, hB, hM, hI, ⟨r0, r1, r2, r3, r4, i0, i1, i2⟩, hP, hD, hS, hl, by omega, by omega⟩
  · have hav2 := h9
    refine cx_sbackhi (ob := x) (a1 := av2) (rest := []) C1 hav2 hB hP hD hS hl.1 (Nat.le_of_ble_eq_true rfl) ⟨by omega, by omega⟩ dL_law_1154 (fun an45 w46  H locs hq hB hP hD hS => ?_)
    have hP := P_perm (List.perm_append_comm_assoc w46 wm tl) hP
    have hD := D_perm (List.perm_append_comm_assoc w46 wm tl) hD
    refine lv_pop hx hb dL_law_1157 rfl ?_
    refine lv_aload_n hx hb dL_law_1158 rfl (lv_at hl 1 rfl) ?_
    refine lv_aload_n hx hb dL_law_1159 rfl (lv_at hl 3 rfl) ?_
    refine lv_iload_n hx hb dL_law_1160 rfl (lv_at hl 0 rfl) ?_
    refine lv_iconst (v := 1) hx hb dL_law_1161 (by decide) ?_
    refine lv_iadd hx hb dL_law_1162 ?_
    refine lv_topi (fun jv47 ejv47 => ?_)
    obtain rfl : jv1 = jv47 := ejv1.trans ejv47.symm
    refine va_sld hx hb hX hbl hbA hS (sl_in (c := 1) ejv1 (by decide) (by decide) hi hL) dL_law_1163 ?_
    refine lv_topi (fun av48 eav48 => ?_)
    obtain rfl : av2 = av48 := eav2.trans eav48.symm
    refine cx_sbackMhi (ob := q) (a1 := av2) (rest := []) C1 hav2 hM hP hD hS hl.1 (Nat.le_of_ble_eq_true rfl) ⟨by omega, by omega⟩ dL_law_1164 (fun an49 w50  H locs hq2 hM hP hD hS => ?_)
    have hP := P_perm (List.perm_append_comm_assoc w50 w46 tl) hP
    have hD := D_perm (List.perm_append_comm_assoc w50 w46 tl) hD
    refine lv_pop hx hb dL_law_1167 rfl ?_
    refine lv_goto (tgt := 1350) hx hb dL_law_1168 (by decide) ?_
    exact K _ _ _ _ ⟨w46, w50, tl, ts, fl0, wi0, sz0, fl1, wi1, sz1, fl2, wi2, sz2, fl3, wi3, sz3, f, ta, fm, fw, fh, hB, hM, hI, ⟨r0, r1, r2, r3, r4, i0, i1, i2⟩, hP, hD, hS, hl, by omega, by omega⟩

set_option maxHeartbeats 4000000 in
set_option maxRecDepth 100000 in
theorem law_33 {p : Program} {e : Env} {s : State} {m : MethodId} {below : List Frame} {meth : Method} {c : Code} {l : Launch} {b L : Nat} {xs : Nat → Int32} {A : Nat → Prop} {G : va_G} {y : Nat → ClassId} {aK aV : Nat → Nat} {H : Heap} {locs : List Loc} {cells slots : Nat} {ls : Array Slot} {Q : State → Prop} (C0 : lawC p s m meth c b L xs A G y aK aV) {x q : Nat} {i : Int32} (hi : 0 ≤ i.toInt ∧ i.toInt + 6 ≤ (L : Int)) (I : LI s b A G y x q i H locs ls cells slots) (K : ∀ H1 locs1 cells1 slots1, LI s b A G y x q i H1 locs1 ls cells1 slots1 → W p l e room_1 s m #[Value.ref b] below meth c H1 locs1 cells1 slots1 Q (F0 m 1350 ls [])) : W p l e room_1 s m #[Value.ref b] below meth c H locs cells slots Q (F0 m 1171 ls []) := by
  have C1 := C0
  obtain ⟨hx, hb, hr, hml, hown, hw0, hX, hbl, hbA, hA, hAf, hlocks, hK, hE, hL⟩ := C0
  obtain ⟨w, wm, tl, ts, fl0, wi0, sz0, fl1, wi1, sz1, fl2, wi2, sz2, fl3, wi3, sz3, f, ta, fm, fw, fh, hB, hM, hI, hR, hP, hD, hS, hl, hc1, hc2⟩ := I
  obtain ⟨r0, r1, r2, r3, r4, i0, i1, i2⟩ := hR
  refine lv_aload_n hx hb dL_law_1171 rfl (lv_at hl 2 rfl) ?_
  refine lv_aload_n hx hb dL_law_1172 rfl (lv_at hl 3 rfl) ?_
  refine lv_iload_n hx hb dL_law_1173 rfl (lv_at hl 0 rfl) ?_
  refine lv_iconst (v := 1) hx hb dL_law_1174 (by decide) ?_
  refine lv_iadd hx hb dL_law_1175 ?_
  refine lv_topi (fun jv1 ejv1 => ?_)
  refine va_sld hx hb hX hbl hbA hS (sl_in (c := 1) ejv1 (by decide) (by decide) hi hL) dL_law_1176 ?_
  refine lv_topi (fun av2 eav2 => ?_)
  refine lv_aload_n hx hb dL_law_1177 rfl (lv_at hl 3 rfl) ?_
  refine lv_iload_n hx hb dL_law_1178 rfl (lv_at hl 0 rfl) ?_
  refine lv_iconst (v := 2) hx hb dL_law_1179 (by decide) ?_
  refine lv_iadd hx hb dL_law_1180 ?_
  refine lv_topi (fun jv3 ejv3 => ?_)
  refine va_sld hx hb hX hbl hbA hS (sl_in (c := 2) ejv3 (by decide) (by decide) hi hL) dL_law_1181 ?_
  refine lv_topi (fun av4 eav4 => ?_)
  refine lv_aload_n hx hb dL_law_1182 rfl (lv_at hl 3 rfl) ?_
  refine lv_iload_n hx hb dL_law_1183 rfl (lv_at hl 0 rfl) ?_
  refine lv_iconst (v := 3) hx hb dL_law_1184 (by decide) ?_
  refine lv_iadd hx hb dL_law_1185 ?_
  refine lv_topi (fun jv5 ejv5 => ?_)
  refine va_sld hx hb hX hbl hbA hS (sl_in (c := 3) ejv5 (by decide) (by decide) hi hL) dL_law_1186 ?_
  refine lv_topi (fun av6 eav6 => ?_)
  rcases so_cases av2 with h9 | h9 | h9 | h9 | h9 | h9
  · obtain rfl : 0 = av2 := h9.symm
    refine cx_frow0 (ob := x) (a2 := av4) (a3 := av6) (rest := []) C1  hB hP hD hS hl.1 (Nat.le_of_ble_eq_true rfl) ⟨by omega, by omega⟩ dL_law_1187 (fun an7 w8 fl0_9 wi0_10 sz0_11 H locs hq hB hP hD hS => ?_)
    have hP := P_perm (List.perm_append_comm_assoc w8 wm tl) hP
    have hD := D_perm (List.perm_append_comm_assoc w8 wm tl) hD
    refine lv_pop hx hb dL_law_1190 rfl ?_
    refine lv_aload_n hx hb dL_law_1191 rfl (lv_at hl 1 rfl) ?_
    refine lv_aload_n hx hb dL_law_1192 rfl (lv_at hl 3 rfl) ?_
    refine lv_iload_n hx hb dL_law_1193 rfl (lv_at hl 0 rfl) ?_
    refine lv_iconst (v := 1) hx hb dL_law_1194 (by decide) ?_
    refine lv_iadd hx hb dL_law_1195 ?_
    refine lv_topi (fun jv12 ejv12 => ?_)
    obtain rfl : jv1 = jv12 := ejv1.trans ejv12.symm
    refine va_sld hx hb hX hbl hbA hS (sl_in (c := 1) ejv1 (by decide) (by decide) hi hL) dL_law_1196 ?_
    refine lv_topi (fun av13 eav13 => ?_)
    obtain rfl : 0 = av13 := eav2.trans eav13.symm
    refine lv_aload_n hx hb dL_law_1197 rfl (lv_at hl 3 rfl) ?_
    refine lv_iload_n hx hb dL_law_1198 rfl (lv_at hl 0 rfl) ?_
    refine lv_iconst (v := 2) hx hb dL_law_1199 (by decide) ?_
    refine lv_iadd hx hb dL_law_1200 ?_
    refine lv_topi (fun jv14 ejv14 => ?_)
    obtain rfl : jv3 = jv14 := ejv3.trans ejv14.symm
    refine va_sld hx hb hX hbl hbA hS (sl_in (c := 2) ejv3 (by decide) (by decide) hi hL) dL_law_1201 ?_
    refine lv_topi (fun av15 eav15 => ?_)
    obtain rfl : av4 = av15 := eav4.trans eav15.symm
    refine lv_aload_n hx hb dL_law_1202 rfl (lv_at hl 3 rfl) ?_
    refine lv_iload_n hx hb dL_law_1203 rfl (lv_at hl 0 rfl) ?_
    refine lv_iconst (v := 3) hx hb dL_law_1204 (by decide) ?_
    refine lv_iadd hx hb dL_law_1205 ?_
    refine lv_topi (fun jv16 ejv16 => ?_)
    obtain rfl : jv5 = jv16 := ejv5.trans ejv16.symm
    refine va_sld hx hb hX hbl hbA hS (sl_in (c := 3) ejv5 (by decide) (by decide) hi hL) dL_law_1206 ?_
    refine lv_topi (fun av17 eav17 => ?_)
    obtain rfl : av6 = av17 := eav6.trans eav17.symm
    refine cx_frowM0 (ob := q) (a2 := av4) (a3 := av6) (rest := []) C1  hM hP hD hS hl.1 (Nat.le_of_ble_eq_true rfl) ⟨by omega, by omega⟩ dL_law_1207 (fun an18 w19 fm_20 fw_21 H locs hq2 hM hP hD hS => ?_)
    have hP := P_perm (List.perm_append_comm_assoc w19 w8 tl) hP
    have hD := D_perm (List.perm_append_comm_assoc w19 w8 tl) hD
    refine lv_pop hx hb dL_law_1210 rfl ?_
    refine lv_goto (tgt := 1350) hx hb dL_law_1211 (by decide) ?_
    have u1 : Int32.toInt 1 = 1 := by decide
    unfold sR at r1 r2 r3 r4
    rcases hq with ⟨_, rfl, rfl, rfl, hz⟩ | ⟨_, rfl, rfl, rfl, hz⟩ | ⟨_, rfl, rfl, rfl, hz⟩ <;> rcases hq2 with ⟨_, rfl, rfl, hz⟩ | ⟨_, rfl, rfl, hz⟩ | ⟨_, hz⟩
    all_goals first | (exfalso; omega) | skip
    · exact K _ _ _ _ ⟨w8, w19, tl, _, _, _, _, _, _, _, _, _, _, _, _, _, _, _, _, _, _, (by assumption), (by assumption), hI, ⟨r0, (by unfold sR; omega), (by unfold sR; omega), (by unfold sR; omega), (by unfold sR; omega), i0, i1, i2⟩, hP, hD, hS, hl, by omega, by omega⟩
    · exact K _ _ _ _ ⟨w8, w19, tl, _, _, _, _, _, _, _, _, _, _, _, _, _, _, _, _, _, _, (by assumption), (by assumption), hI, ⟨r0, (by unfold sR; omega), (by unfold sR; omega), (by unfold sR; omega), (by unfold sR; omega), i0, i1, i2⟩, hP, hD, hS, hl, by omega, by omega⟩
    · exact K _ _ _ _ ⟨w8, w19, tl, _, _, _, _, _, _, _, _, _, _, _, _, _, _, _, _, _, _, (by assumption), (by assumption), hI, ⟨r0, (by unfold sR; omega), (by unfold sR; omega), (by unfold sR; omega), (by unfold sR; omega), i0, i1, i2⟩, hP, hD, hS, hl, by omega, by omega⟩
  · obtain rfl : 1 = av2 := h9.symm
    refine cx_frow1 (ob := x) (a2 := av4) (a3 := av6) (rest := []) C1  hB hP hD hS hl.1 (Nat.le_of_ble_eq_true rfl) ⟨by omega, by omega⟩ dL_law_1187 (fun an22 w23 fl1_24 wi1_25 sz1_26 H locs hq hB hP hD hS => ?_)
    have hP := P_perm (List.perm_append_comm_assoc w23 wm tl) hP
    have hD := D_perm (List.perm_append_comm_assoc w23 wm tl) hD
    refine lv_pop hx hb dL_law_1190 rfl ?_
    refine lv_aload_n hx hb dL_law_1191 rfl (lv_at hl 1 rfl) ?_
    refine lv_aload_n hx hb dL_law_1192 rfl (lv_at hl 3 rfl) ?_
    refine lv_iload_n hx hb dL_law_1193 rfl (lv_at hl 0 rfl) ?_
    refine lv_iconst (v := 1) hx hb dL_law_1194 (by decide) ?_
    refine lv_iadd hx hb dL_law_1195 ?_
    refine lv_topi (fun jv27 ejv27 => ?_)
    obtain rfl : jv1 = jv27 := ejv1.trans ejv27.symm
    refine va_sld hx hb hX hbl hbA hS (sl_in (c := 1) ejv1 (by decide) (by decide) hi hL) dL_law_1196 ?_
    refine lv_topi (fun av28 eav28 => ?_)
    obtain rfl : 1 = av28 := eav2.trans eav28.symm
    refine lv_aload_n hx hb dL_law_1197 rfl (lv_at hl 3 rfl) ?_
    refine lv_iload_n hx hb dL_law_1198 rfl (lv_at hl 0 rfl) ?_
    refine lv_iconst (v := 2) hx hb dL_law_1199 (by decide) ?_
    refine lv_iadd hx hb dL_law_1200 ?_
    refine lv_topi (fun jv29 ejv29 => ?_)
    obtain rfl : jv3 = jv29 := ejv3.trans ejv29.symm
    refine va_sld hx hb hX hbl hbA hS (sl_in (c := 2) ejv3 (by decide) (by decide) hi hL) dL_law_1201 ?_
    refine lv_topi (fun av30 eav30 => ?_)
    obtain rfl : av4 = av30 := eav4.trans eav30.symm
    refine lv_aload_n hx hb dL_law_1202 rfl (lv_at hl 3 rfl) ?_
    refine lv_iload_n hx hb dL_law_1203 rfl (lv_at hl 0 rfl) ?_
    refine lv_iconst (v := 3) hx hb dL_law_1204 (by decide) ?_
    refine lv_iadd hx hb dL_law_1205 ?_
    refine lv_topi (fun jv31 ejv31 => ?_)
    obtain rfl : jv5 = jv31 := ejv5.trans ejv31.symm
    refine va_sld hx hb hX hbl hbA hS (sl_in (c := 3) ejv5 (by decide) (by decide) hi hL) dL_law_1206 ?_
    refine lv_topi (fun av32 eav32 => ?_)
    obtain rfl : av6 = av32 := eav6.trans eav32.symm
    refine cx_frowM1 (ob := q) (a2 := av4) (a3 := av6) (rest := []) C1  hM hP hD hS hl.1 (Nat.le_of_ble_eq_true rfl) ⟨by omega, by omega⟩ dL_law_1207 (fun an33 w34 fm_35 fw_36 H locs hq2 hM hP hD hS => ?_)
    have hP := P_perm (List.perm_append_comm_assoc w34 w23 tl) hP
    have hD := D_perm (List.perm_append_comm_assoc w34 w23 tl) hD
    refine lv_pop hx hb dL_law_1210 rfl ?_
    refine lv_goto (tgt := 1350) hx hb dL_law_1211 (by decide) ?_
    have u1 : Int32.toInt 1 = 1 := by decide
    unfold sR at r1 r2 r3 r4
    rcases hq with ⟨_, rfl, rfl, rfl, hz⟩ | ⟨_, rfl, rfl, rfl, hz⟩ | ⟨_, rfl, rfl, rfl, hz⟩ <;> rcases hq2 with ⟨_, rfl, rfl, hz⟩ | ⟨_, rfl, rfl, hz⟩ | ⟨_, hz⟩
    all_goals first | (exfalso; omega) | skip
    · exact K _ _ _ _ ⟨w23, w34, tl, _, _, _, _, _, _, _, _, _, _, _, _, _, _, _, _, _, _, (by assumption), (by assumption), hI, ⟨r0, (by unfold sR; omega), (by unfold sR; omega), (by unfold sR; omega), (by unfold sR; omega), i0, i1, i2⟩, hP, hD, hS, hl, by omega, by omega⟩
    · exact K _ _ _ _ ⟨w23, w34, tl, _, _, _, _, _, _, _, _, _, _, _, _, _, _, _, _, _, _, (by assumption), (by assumption), hI, ⟨r0, (by unfold sR; omega), (by unfold sR; omega), (by unfold sR; omega), (by unfold sR; omega), i0, i1, i2⟩, hP, hD, hS, hl, by omega, by omega⟩
    · exact K _ _ _ _ ⟨w23, w34, tl, _, _, _, _, _, _, _, _, _, _, _, _, _, _, _, _, _, _, (by assumption), (by assumption), hI, ⟨r0, (by unfold sR; omega), (by unfold sR; omega), (by unfold sR; omega), (by unfold sR; omega), i0, i1, i2⟩, hP, hD, hS, hl, by omega, by omega⟩
  · obtain rfl : 2 = av2 := h9.symm
    refine cx_frow2 (ob := x) (a2 := av4) (a3 := av6) (rest := []) C1  hB hP hD hS hl.1 (Nat.le_of_ble_eq_true rfl) ⟨by omega, by omega⟩ dL_law_1187 (fun an37 w38 fl2_39 wi2_40 sz2_41 H locs hq hB hP hD hS => ?_)
    have hP := P_perm (List.perm_append_comm_assoc w38 wm tl) hP
    have hD := D_perm (List.perm_append_comm_assoc w38 wm tl) hD
    refine lv_pop hx hb dL_law_1190 rfl ?_
    refine lv_aload_n hx hb dL_law_1191 rfl (lv_at hl 1 rfl) ?_
    refine lv_aload_n hx hb dL_law_1192 rfl (lv_at hl 3 rfl) ?_
    refine lv_iload_n hx hb dL_law_1193 rfl (lv_at hl 0 rfl) ?_
    refine lv_iconst (v := 1) hx hb dL_law_1194 (by decide) ?_
    refine lv_iadd hx hb dL_law_1195 ?_
    refine lv_topi (fun jv42 ejv42 => ?_)
    obtain rfl : jv1 = jv42 := ejv1.trans ejv42.symm
    refine va_sld hx hb hX hbl hbA hS (sl_in (c := 1) ejv1 (by decide) (by decide) hi hL) dL_law_1196 ?_
    refine lv_topi (fun av43 eav43 => ?_)
    obtain rfl : 2 = av43 := eav2.trans eav43.symm
    refine lv_aload_n hx hb dL_law_1197 rfl (lv_at hl 3 rfl) ?_
    refine lv_iload_n hx hb dL_law_1198 rfl (lv_at hl 0 rfl) ?_
    refine lv_iconst (v := 2) hx hb dL_law_1199 (by decide) ?_
    refine lv_iadd hx hb dL_law_1200 ?_
    refine lv_topi (fun jv44 ejv44 => ?_)
    obtain rfl : jv3 = jv44 := ejv3.trans ejv44.symm
    refine va_sld hx hb hX hbl hbA hS (sl_in (c := 2) ejv3 (by decide) (by decide) hi hL) dL_law_1201 ?_
    refine lv_topi (fun av45 eav45 => ?_)
    obtain rfl : av4 = av45 := eav4.trans eav45.symm
    refine lv_aload_n hx hb dL_law_1202 rfl (lv_at hl 3 rfl) ?_
    refine lv_iload_n hx hb dL_law_1203 rfl (lv_at hl 0 rfl) ?_
    refine lv_iconst (v := 3) hx hb dL_law_1204 (by decide) ?_
    refine lv_iadd hx hb dL_law_1205 ?_
    refine lv_topi (fun jv46 ejv46 => ?_)
    obtain rfl : jv5 = jv46 := ejv5.trans ejv46.symm
    refine va_sld hx hb hX hbl hbA hS (sl_in (c := 3) ejv5 (by decide) (by decide) hi hL) dL_law_1206 ?_
    refine lv_topi (fun av47 eav47 => ?_)
    obtain rfl : av6 = av47 := eav6.trans eav47.symm
    refine cx_frowM2 (ob := q) (a2 := av4) (a3 := av6) (rest := []) C1  hM hP hD hS hl.1 (Nat.le_of_ble_eq_true rfl) ⟨by omega, by omega⟩ dL_law_1207 (fun an48 w49 fm_50 fw_51 H locs hq2 hM hP hD hS => ?_)
    have hP := P_perm (List.perm_append_comm_assoc w49 w38 tl) hP
    have hD := D_perm (List.perm_append_comm_assoc w49 w38 tl) hD
    refine lv_pop hx hb dL_law_1210 rfl ?_
    refine lv_goto (tgt := 1350) hx hb dL_law_1211 (by decide) ?_
    have u1 : Int32.toInt 1 = 1 := by decide
    unfold sR at r1 r2 r3 r4
    rcases hq with ⟨_, rfl, rfl, rfl, hz⟩ | ⟨_, rfl, rfl, rfl, hz⟩ | ⟨_, rfl, rfl, rfl, hz⟩ <;> rcases hq2 with ⟨_, rfl, rfl, hz⟩ | ⟨_, rfl, rfl, hz⟩ | ⟨_, hz⟩
    all_goals first | (exfalso; omega) | skip
    · exact K _ _ _ _ ⟨w38, w49, tl, _, _, _, _, _, _, _, _, _, _, _, _, _, _, _, _, _, _, (by assumption), (by assumption), hI, ⟨r0, (by unfold sR; omega), (by unfold sR; omega), (by unfold sR; omega), (by unfold sR; omega), i0, i1, i2⟩, hP, hD, hS, hl, by omega, by omega⟩
    · exact K _ _ _ _ ⟨w38, w49, tl, _, _, _, _, _, _, _, _, _, _, _, _, _, _, _, _, _, _, (by assumption), (by assumption), hI, ⟨r0, (by unfold sR; omega), (by unfold sR; omega), (by unfold sR; omega), (by unfold sR; omega), i0, i1, i2⟩, hP, hD, hS, hl, by omega, by omega⟩
    · exact K _ _ _ _ ⟨w38, w49, tl, _, _, _, _, _, _, _, _, _, _, _, _, _, _, _, _, _, _, (by assumption), (by assumption), hI, ⟨r0, (by unfold sR; omega), (by unfold sR; omega), (by unfold sR; omega), (by unfold sR; omega), i0, i1, i2⟩, hP, hD, hS, hl, by omega, by omega⟩
  · obtain rfl : 3 = av2 := h9.symm
    refine cx_frow3 (ob := x) (a2 := av4) (a3 := av6) (rest := []) C1  hB hP hD hS hl.1 (Nat.le_of_ble_eq_true rfl) ⟨by omega, by omega⟩ dL_law_1187 (fun an52 w53 fl3_54 wi3_55 sz3_56 H locs hq hB hP hD hS => ?_)
    have hP := P_perm (List.perm_append_comm_assoc w53 wm tl) hP
    have hD := D_perm (List.perm_append_comm_assoc w53 wm tl) hD
    refine lv_pop hx hb dL_law_1190 rfl ?_
    refine lv_aload_n hx hb dL_law_1191 rfl (lv_at hl 1 rfl) ?_
    refine lv_aload_n hx hb dL_law_1192 rfl (lv_at hl 3 rfl) ?_
    refine lv_iload_n hx hb dL_law_1193 rfl (lv_at hl 0 rfl) ?_
    refine lv_iconst (v := 1) hx hb dL_law_1194 (by decide) ?_
    refine lv_iadd hx hb dL_law_1195 ?_
    refine lv_topi (fun jv57 ejv57 => ?_)
    obtain rfl : jv1 = jv57 := ejv1.trans ejv57.symm
    refine va_sld hx hb hX hbl hbA hS (sl_in (c := 1) ejv1 (by decide) (by decide) hi hL) dL_law_1196 ?_
    refine lv_topi (fun av58 eav58 => ?_)
    obtain rfl : 3 = av58 := eav2.trans eav58.symm
    refine lv_aload_n hx hb dL_law_1197 rfl (lv_at hl 3 rfl) ?_
    refine lv_iload_n hx hb dL_law_1198 rfl (lv_at hl 0 rfl) ?_
    refine lv_iconst (v := 2) hx hb dL_law_1199 (by decide) ?_
    refine lv_iadd hx hb dL_law_1200 ?_
    refine lv_topi (fun jv59 ejv59 => ?_)
    obtain rfl : jv3 = jv59 := ejv3.trans ejv59.symm
    refine va_sld hx hb hX hbl hbA hS (sl_in (c := 2) ejv3 (by decide) (by decide) hi hL) dL_law_1201 ?_
    refine lv_topi (fun av60 eav60 => ?_)
    obtain rfl : av4 = av60 := eav4.trans eav60.symm
    refine lv_aload_n hx hb dL_law_1202 rfl (lv_at hl 3 rfl) ?_
    refine lv_iload_n hx hb dL_law_1203 rfl (lv_at hl 0 rfl) ?_
    refine lv_iconst (v := 3) hx hb dL_law_1204 (by decide) ?_
    refine lv_iadd hx hb dL_law_1205 ?_
    refine lv_topi (fun jv61 ejv61 => ?_)
    obtain rfl : jv5 = jv61 := ejv5.trans ejv61.symm
    refine va_sld hx hb hX hbl hbA hS (sl_in (c := 3) ejv5 (by decide) (by decide) hi hL) dL_law_1206 ?_
    refine lv_topi (fun av62 eav62 => ?_)
    obtain rfl : av6 = av62 := eav6.trans eav62.symm
    refine cx_frowM3 (ob := q) (a2 := av4) (a3 := av6) (rest := []) C1  hM hP hD hS hl.1 (Nat.le_of_ble_eq_true rfl) ⟨by omega, by omega⟩ dL_law_1207 (fun an63 w64 fm_65 fw_66 H locs hq2 hM hP hD hS => ?_)
    have hP := P_perm (List.perm_append_comm_assoc w64 w53 tl) hP
    have hD := D_perm (List.perm_append_comm_assoc w64 w53 tl) hD
    refine lv_pop hx hb dL_law_1210 rfl ?_
    refine lv_goto (tgt := 1350) hx hb dL_law_1211 (by decide) ?_
    have u1 : Int32.toInt 1 = 1 := by decide
    unfold sR at r1 r2 r3 r4
    rcases hq with ⟨_, rfl, rfl, rfl, hz⟩ | ⟨_, rfl, rfl, rfl, hz⟩ | ⟨_, rfl, rfl, rfl, hz⟩ <;> rcases hq2 with ⟨_, rfl, rfl, hz⟩ | ⟨_, rfl, rfl, hz⟩ | ⟨_, hz⟩
    all_goals first | (exfalso; omega) | skip
    · exact K _ _ _ _ ⟨w53, w64, tl, _, _, _, _, _, _, _, _, _, _, _, _, _, _, _, _, _, _, (by assumption), (by assumption), hI, ⟨r0, (by unfold sR; omega), (by unfold sR; omega), (by unfold sR; omega), (by unfold sR; omega), i0, i1, i2⟩, hP, hD, hS, hl, by omega, by omega⟩
    · exact K _ _ _ _ ⟨w53, w64, tl, _, _, _, _, _, _, _, _, _, _, _, _, _, _, _, _, _, _, (by assumption), (by assumption), hI, ⟨r0, (by unfold sR; omega), (by unfold sR; omega), (by unfold sR; omega), (by unfold sR; omega), i0, i1, i2⟩, hP, hD, hS, hl, by omega, by omega⟩
    · exact K _ _ _ _ ⟨w53, w64, tl, _, _, _, _, _, _, _, _, _, _, _, _, _, _, _, _, _, _, (by assumption), (by assumption), hI, ⟨r0, (by unfold sR; omega), (by unfold sR; omega), (by unfold sR; omega), (by unfold sR; omega), i0, i1, i2⟩, hP, hD, hS, hl, by omega, by omega⟩
  · have hav2 := h9
    refine cx_srowlo (ob := x) (a1 := av2) (a2 := av4) (a3 := av6) (rest := []) C1 hav2 hB hP hD hS hl.1 (Nat.le_of_ble_eq_true rfl) ⟨by omega, by omega⟩ dL_law_1187 (fun an67 w68  H locs hq hB hP hD hS => ?_)
    have hP := P_perm (List.perm_append_comm_assoc w68 wm tl) hP
    have hD := D_perm (List.perm_append_comm_assoc w68 wm tl) hD
    refine lv_pop hx hb dL_law_1190 rfl ?_
    refine lv_aload_n hx hb dL_law_1191 rfl (lv_at hl 1 rfl) ?_
    refine lv_aload_n hx hb dL_law_1192 rfl (lv_at hl 3 rfl) ?_
    refine lv_iload_n hx hb dL_law_1193 rfl (lv_at hl 0 rfl) ?_
    refine lv_iconst (v := 1) hx hb dL_law_1194 (by decide) ?_
    refine lv_iadd hx hb dL_law_1195 ?_
    refine lv_topi (fun jv69 ejv69 => ?_)
    obtain rfl : jv1 = jv69 := ejv1.trans ejv69.symm
    refine va_sld hx hb hX hbl hbA hS (sl_in (c := 1) ejv1 (by decide) (by decide) hi hL) dL_law_1196 ?_
    refine lv_topi (fun av70 eav70 => ?_)
    obtain rfl : av2 = av70 := eav2.trans eav70.symm
    refine lv_aload_n hx hb dL_law_1197 rfl (lv_at hl 3 rfl) ?_
    refine lv_iload_n hx hb dL_law_1198 rfl (lv_at hl 0 rfl) ?_
    refine lv_iconst (v := 2) hx hb dL_law_1199 (by decide) ?_
    refine lv_iadd hx hb dL_law_1200 ?_
    refine lv_topi (fun jv71 ejv71 => ?_)
    obtain rfl : jv3 = jv71 := ejv3.trans ejv71.symm
    refine va_sld hx hb hX hbl hbA hS (sl_in (c := 2) ejv3 (by decide) (by decide) hi hL) dL_law_1201 ?_
    refine lv_topi (fun av72 eav72 => ?_)
    obtain rfl : av4 = av72 := eav4.trans eav72.symm
    refine lv_aload_n hx hb dL_law_1202 rfl (lv_at hl 3 rfl) ?_
    refine lv_iload_n hx hb dL_law_1203 rfl (lv_at hl 0 rfl) ?_
    refine lv_iconst (v := 3) hx hb dL_law_1204 (by decide) ?_
    refine lv_iadd hx hb dL_law_1205 ?_
    refine lv_topi (fun jv73 ejv73 => ?_)
    obtain rfl : jv5 = jv73 := ejv5.trans ejv73.symm
    refine va_sld hx hb hX hbl hbA hS (sl_in (c := 3) ejv5 (by decide) (by decide) hi hL) dL_law_1206 ?_
    refine lv_topi (fun av74 eav74 => ?_)
    obtain rfl : av6 = av74 := eav6.trans eav74.symm
    refine cx_srowMlo (ob := q) (a1 := av2) (a2 := av4) (a3 := av6) (rest := []) C1 hav2 hM hP hD hS hl.1 (Nat.le_of_ble_eq_true rfl) ⟨by omega, by omega⟩ dL_law_1207 (fun an75 w76  H locs hq2 hM hP hD hS => ?_)
    have hP := P_perm (List.perm_append_comm_assoc w76 w68 tl) hP
    have hD := D_perm (List.perm_append_comm_assoc w76 w68 tl) hD
    refine lv_pop hx hb dL_law_1210 rfl ?_
    refine lv_goto (tgt := 1350) hx hb dL_law_1211 (by decide) ?_
    exact K _ _ _ _ ⟨w68, w76, tl, ts, fl0, wi0, sz0, fl1, wi1, sz1, fl2, wi2, sz2, fl3, wi3, sz3, f, ta, fm, fw, fh, hB, hM, hI, ⟨r0, r1, r2, r3, r4, i0, i1, i2⟩, hP, hD, hS, hl, by omega, by omega⟩
  · have hav2 := h9
    refine cx_srowhi (ob := x) (a1 := av2) (a2 := av4) (a3 := av6) (rest := []) C1 hav2 hB hP hD hS hl.1 (Nat.le_of_ble_eq_true rfl) ⟨by omega, by omega⟩ dL_law_1187 (fun an77 w78  H locs hq hB hP hD hS => ?_)
    have hP := P_perm (List.perm_append_comm_assoc w78 wm tl) hP
    have hD := D_perm (List.perm_append_comm_assoc w78 wm tl) hD
    refine lv_pop hx hb dL_law_1190 rfl ?_
    refine lv_aload_n hx hb dL_law_1191 rfl (lv_at hl 1 rfl) ?_
    refine lv_aload_n hx hb dL_law_1192 rfl (lv_at hl 3 rfl) ?_
    refine lv_iload_n hx hb dL_law_1193 rfl (lv_at hl 0 rfl) ?_
    refine lv_iconst (v := 1) hx hb dL_law_1194 (by decide) ?_
    refine lv_iadd hx hb dL_law_1195 ?_
    refine lv_topi (fun jv79 ejv79 => ?_)
    obtain rfl : jv1 = jv79 := ejv1.trans ejv79.symm
    refine va_sld hx hb hX hbl hbA hS (sl_in (c := 1) ejv1 (by decide) (by decide) hi hL) dL_law_1196 ?_
    refine lv_topi (fun av80 eav80 => ?_)
    obtain rfl : av2 = av80 := eav2.trans eav80.symm
    refine lv_aload_n hx hb dL_law_1197 rfl (lv_at hl 3 rfl) ?_
    refine lv_iload_n hx hb dL_law_1198 rfl (lv_at hl 0 rfl) ?_
    refine lv_iconst (v := 2) hx hb dL_law_1199 (by decide) ?_
    refine lv_iadd hx hb dL_law_1200 ?_
    refine lv_topi (fun jv81 ejv81 => ?_)
    obtain rfl : jv3 = jv81 := ejv3.trans ejv81.symm
    refine va_sld hx hb hX hbl hbA hS (sl_in (c := 2) ejv3 (by decide) (by decide) hi hL) dL_law_1201 ?_
    refine lv_topi (fun av82 eav82 => ?_)
    obtain rfl : av4 = av82 := eav4.trans eav82.symm
    refine lv_aload_n hx hb dL_law_1202 rfl (lv_at hl 3 rfl) ?_
    refine lv_iload_n hx hb dL_law_1203 rfl (lv_at hl 0 rfl) ?_
    refine lv_iconst (v := 3) hx hb dL_law_1204 (by decide) ?_
    refine lv_iadd hx hb dL_law_1205 ?_
    refine lv_topi (fun jv83 ejv83 => ?_)
    obtain rfl : jv5 = jv83 := ejv5.trans ejv83.symm
    refine va_sld hx hb hX hbl hbA hS (sl_in (c := 3) ejv5 (by decide) (by decide) hi hL) dL_law_1206 ?_
    refine lv_topi (fun av84 eav84 => ?_)
    obtain rfl : av6 = av84 := eav6.trans eav84.symm
    refine cx_srowMhi (ob := q) (a1 := av2) (a2 := av4) (a3 := av6) (rest := []) C1 hav2 hM hP hD hS hl.1 (Nat.le_of_ble_eq_true rfl) ⟨by omega, by omega⟩ dL_law_1207 (fun an85 w86  H locs hq2 hM hP hD hS => ?_)
    have hP := P_perm (List.perm_append_comm_assoc w86 w78 tl) hP
    have hD := D_perm (List.perm_append_comm_assoc w86 w78 tl) hD
    refine lv_pop hx hb dL_law_1210 rfl ?_
    refine lv_goto (tgt := 1350) hx hb dL_law_1211 (by decide) ?_
    exact K _ _ _ _ ⟨w78, w86, tl, ts, fl0, wi0, sz0, fl1, wi1, sz1, fl2, wi2, sz2, fl3, wi3, sz3, f, ta, fm, fw, fh, hB, hM, hI, ⟨r0, r1, r2, r3, r4, i0, i1, i2⟩, hP, hD, hS, hl, by omega, by omega⟩

set_option maxHeartbeats 4000000 in
set_option maxRecDepth 100000 in
theorem law_34 {p : Program} {e : Env} {s : State} {m : MethodId} {below : List Frame} {meth : Method} {c : Code} {l : Launch} {b L : Nat} {xs : Nat → Int32} {A : Nat → Prop} {G : va_G} {y : Nat → ClassId} {aK aV : Nat → Nat} {H : Heap} {locs : List Loc} {cells slots : Nat} {ls : Array Slot} {Q : State → Prop} (C0 : lawC p s m meth c b L xs A G y aK aV) {x q : Nat} {i : Int32} (hi : 0 ≤ i.toInt ∧ i.toInt + 6 ≤ (L : Int)) (I : LI s b A G y x q i H locs ls cells slots) (K : ∀ H1 locs1 cells1 slots1, LI s b A G y x q i H1 locs1 ls cells1 slots1 → W p l e room_1 s m #[Value.ref b] below meth c H1 locs1 cells1 slots1 Q (F0 m 1350 ls [])) : W p l e room_1 s m #[Value.ref b] below meth c H locs cells slots Q (F0 m 1214 ls []) := by
  have C1 := C0
  obtain ⟨hx, hb, hr, hml, hown, hw0, hX, hbl, hbA, hA, hAf, hlocks, hK, hE, hL⟩ := C0
  obtain ⟨w, wm, tl, ts, fl0, wi0, sz0, fl1, wi1, sz1, fl2, wi2, sz2, fl3, wi3, sz3, f, ta, fm, fw, fh, hB, hM, hI, hR, hP, hD, hS, hl, hc1, hc2⟩ := I
  obtain ⟨r0, r1, r2, r3, r4, i0, i1, i2⟩ := hR
  refine lv_aload_n hx hb dL_law_1214 rfl (lv_at hl 2 rfl) ?_
  refine lv_aload_n hx hb dL_law_1215 rfl (lv_at hl 3 rfl) ?_
  refine lv_iload_n hx hb dL_law_1216 rfl (lv_at hl 0 rfl) ?_
  refine lv_iconst (v := 1) hx hb dL_law_1217 (by decide) ?_
  refine lv_iadd hx hb dL_law_1218 ?_
  refine lv_topi (fun jv1 ejv1 => ?_)
  refine va_sld hx hb hX hbl hbA hS (sl_in (c := 1) ejv1 (by decide) (by decide) hi hL) dL_law_1219 ?_
  refine lv_topi (fun av2 eav2 => ?_)
  refine lv_aload_n hx hb dL_law_1220 rfl (lv_at hl 3 rfl) ?_
  refine lv_iload_n hx hb dL_law_1221 rfl (lv_at hl 0 rfl) ?_
  refine lv_iconst (v := 2) hx hb dL_law_1222 (by decide) ?_
  refine lv_iadd hx hb dL_law_1223 ?_
  refine lv_topi (fun jv3 ejv3 => ?_)
  refine va_sld hx hb hX hbl hbA hS (sl_in (c := 2) ejv3 (by decide) (by decide) hi hL) dL_law_1224 ?_
  refine lv_topi (fun av4 eav4 => ?_)
  refine lv_aload_n hx hb dL_law_1225 rfl (lv_at hl 3 rfl) ?_
  refine lv_iload_n hx hb dL_law_1226 rfl (lv_at hl 0 rfl) ?_
  refine lv_iconst (v := 3) hx hb dL_law_1227 (by decide) ?_
  refine lv_iadd hx hb dL_law_1228 ?_
  refine lv_topi (fun jv5 ejv5 => ?_)
  refine va_sld hx hb hX hbl hbA hS (sl_in (c := 3) ejv5 (by decide) (by decide) hi hL) dL_law_1229 ?_
  refine lv_topi (fun av6 eav6 => ?_)
  refine lv_i2l hx hb dL_law_1230 rfl ?_
  refine lv_bipush (v := 32) hx hb dL_law_1231 (by decide) ?_
  refine lv_lshl hx hb dL_law_1233 rfl ?_
  refine lv_topl (fun lv7 elv7 => ?_)
  refine lv_aload_n hx hb dL_law_1234 rfl (lv_at hl 3 rfl) ?_
  refine lv_iload_n hx hb dL_law_1235 rfl (lv_at hl 0 rfl) ?_
  refine lv_iconst (v := 4) hx hb dL_law_1236 (by decide) ?_
  refine lv_iadd hx hb dL_law_1237 ?_
  refine lv_topi (fun jv8 ejv8 => ?_)
  refine va_sld hx hb hX hbl hbA hS (sl_in (c := 4) ejv8 (by decide) (by decide) hi hL) dL_law_1238 ?_
  refine lv_topi (fun av9 eav9 => ?_)
  refine lv_i2l hx hb dL_law_1239 rfl ?_
  refine lv_ldc2 (own := RL) (v := 4294967295) hx hb hown (hw0 _ m_248) dL_law_1240 ?_
  refine lv_land hx hb dL_law_1243 ?_
  refine lv_topl (fun lv10 elv10 => ?_)
  refine lv_lor hx hb dL_law_1244 ?_
  refine lv_topl (fun lv11 elv11 => ?_)
  rcases so_cases av2 with h9 | h9 | h9 | h9 | h9 | h9
  · obtain rfl : 0 = av2 := h9.symm
    refine cx_fwrite0 (ob := x) (a2 := av4) (a3 := lv11) (rest := []) C1  hB hP hD hS hl.1 (Nat.le_of_ble_eq_true rfl) ⟨by omega, by omega⟩ dL_law_1245 (fun an12 w13 wi0_14 H locs hq hB hP hD hS => ?_)
    have hP := P_perm (List.perm_append_comm_assoc w13 wm tl) hP
    have hD := D_perm (List.perm_append_comm_assoc w13 wm tl) hD
    refine lv_pop hx hb dL_law_1248 rfl ?_
    refine lv_aload_n hx hb dL_law_1249 rfl (lv_at hl 1 rfl) ?_
    refine lv_aload_n hx hb dL_law_1250 rfl (lv_at hl 3 rfl) ?_
    refine lv_iload_n hx hb dL_law_1251 rfl (lv_at hl 0 rfl) ?_
    refine lv_iconst (v := 1) hx hb dL_law_1252 (by decide) ?_
    refine lv_iadd hx hb dL_law_1253 ?_
    refine lv_topi (fun jv15 ejv15 => ?_)
    obtain rfl : jv1 = jv15 := ejv1.trans ejv15.symm
    refine va_sld hx hb hX hbl hbA hS (sl_in (c := 1) ejv1 (by decide) (by decide) hi hL) dL_law_1254 ?_
    refine lv_topi (fun av16 eav16 => ?_)
    obtain rfl : 0 = av16 := eav2.trans eav16.symm
    refine lv_aload_n hx hb dL_law_1255 rfl (lv_at hl 3 rfl) ?_
    refine lv_iload_n hx hb dL_law_1256 rfl (lv_at hl 0 rfl) ?_
    refine lv_iconst (v := 2) hx hb dL_law_1257 (by decide) ?_
    refine lv_iadd hx hb dL_law_1258 ?_
    refine lv_topi (fun jv17 ejv17 => ?_)
    obtain rfl : jv3 = jv17 := ejv3.trans ejv17.symm
    refine va_sld hx hb hX hbl hbA hS (sl_in (c := 2) ejv3 (by decide) (by decide) hi hL) dL_law_1259 ?_
    refine lv_topi (fun av18 eav18 => ?_)
    obtain rfl : av4 = av18 := eav4.trans eav18.symm
    refine lv_aload_n hx hb dL_law_1260 rfl (lv_at hl 3 rfl) ?_
    refine lv_iload_n hx hb dL_law_1261 rfl (lv_at hl 0 rfl) ?_
    refine lv_iconst (v := 3) hx hb dL_law_1262 (by decide) ?_
    refine lv_iadd hx hb dL_law_1263 ?_
    refine lv_topi (fun jv19 ejv19 => ?_)
    obtain rfl : jv5 = jv19 := ejv5.trans ejv19.symm
    refine va_sld hx hb hX hbl hbA hS (sl_in (c := 3) ejv5 (by decide) (by decide) hi hL) dL_law_1264 ?_
    refine lv_topi (fun av20 eav20 => ?_)
    obtain rfl : av6 = av20 := eav6.trans eav20.symm
    refine lv_i2l hx hb dL_law_1265 rfl ?_
    refine lv_bipush (v := 32) hx hb dL_law_1266 (by decide) ?_
    refine lv_lshl hx hb dL_law_1268 rfl ?_
    refine lv_topl (fun lv21 elv21 => ?_)
    refine lv_aload_n hx hb dL_law_1269 rfl (lv_at hl 3 rfl) ?_
    refine lv_iload_n hx hb dL_law_1270 rfl (lv_at hl 0 rfl) ?_
    refine lv_iconst (v := 4) hx hb dL_law_1271 (by decide) ?_
    refine lv_iadd hx hb dL_law_1272 ?_
    refine lv_topi (fun jv22 ejv22 => ?_)
    obtain rfl : jv8 = jv22 := ejv8.trans ejv22.symm
    refine va_sld hx hb hX hbl hbA hS (sl_in (c := 4) ejv8 (by decide) (by decide) hi hL) dL_law_1273 ?_
    refine lv_topi (fun av23 eav23 => ?_)
    obtain rfl : av9 = av23 := eav9.trans eav23.symm
    refine lv_i2l hx hb dL_law_1274 rfl ?_
    refine lv_ldc2 (own := RL) (v := 4294967295) hx hb hown (hw0 _ m_248) dL_law_1275 ?_
    refine lv_land hx hb dL_law_1278 ?_
    refine lv_topl (fun lv24 elv24 => ?_)
    refine lv_lor hx hb dL_law_1279 ?_
    refine lv_topl (fun lv25 elv25 => ?_)
    refine cx_fwriteM0 (ob := q) (a2 := av4) (a3 := lv25) (rest := []) C1  hM hP hD hS hl.1 (Nat.le_of_ble_eq_true rfl) ⟨by omega, by omega⟩ dL_law_1280 (fun an26 w27  H locs hq2 hM hP hD hS => ?_)
    have hP := P_perm (List.perm_append_comm_assoc w27 w13 tl) hP
    have hD := D_perm (List.perm_append_comm_assoc w27 w13 tl) hD
    refine lv_pop hx hb dL_law_1283 rfl ?_
    refine lv_goto (tgt := 1350) hx hb dL_law_1284 (by decide) ?_
    have u1 : Int32.toInt 1 = 1 := by decide
    unfold sR at r1 r2 r3 r4
    rcases hq with ⟨_, rfl, hz⟩ | ⟨_, rfl, hz⟩ | ⟨_, hz⟩ <;> rcases hq2 with ⟨_, hz⟩ | ⟨_, hz⟩ | ⟨_, hz⟩
    all_goals first | (exfalso; omega) | skip
    · exact K _ _ _ _ ⟨w13, w27, tl, _, _, _, _, _, _, _, _, _, _, _, _, _, _, _, _, _, _, (by assumption), (by assumption), hI, ⟨r0, (by unfold sR; omega), r2, r3, r4, i0, i1, i2⟩, hP, hD, hS, hl, by omega, by omega⟩
    · exact K _ _ _ _ ⟨w13, w27, tl, _, _, _, _, _, _, _, _, _, _, _, _, _, _, _, _, _, _, (by assumption), (by assumption), hI, ⟨r0, (by unfold sR; omega), r2, r3, r4, i0, i1, i2⟩, hP, hD, hS, hl, by omega, by omega⟩
    · exact K _ _ _ _ ⟨w13, w27, tl, _, _, _, _, _, _, _, _, _, _, _, _, _, _, _, _, _, _, (by assumption), (by assumption), hI, ⟨r0, (by unfold sR; omega), r2, r3, r4, i0, i1, i2⟩, hP, hD, hS, hl, by omega, by omega⟩
  · obtain rfl : 1 = av2 := h9.symm
    refine cx_fwrite1 (ob := x) (a2 := av4) (a3 := lv11) (rest := []) C1  hB hP hD hS hl.1 (Nat.le_of_ble_eq_true rfl) ⟨by omega, by omega⟩ dL_law_1245 (fun an28 w29 wi1_30 H locs hq hB hP hD hS => ?_)
    have hP := P_perm (List.perm_append_comm_assoc w29 wm tl) hP
    have hD := D_perm (List.perm_append_comm_assoc w29 wm tl) hD
    refine lv_pop hx hb dL_law_1248 rfl ?_
    refine lv_aload_n hx hb dL_law_1249 rfl (lv_at hl 1 rfl) ?_
    refine lv_aload_n hx hb dL_law_1250 rfl (lv_at hl 3 rfl) ?_
    refine lv_iload_n hx hb dL_law_1251 rfl (lv_at hl 0 rfl) ?_
    refine lv_iconst (v := 1) hx hb dL_law_1252 (by decide) ?_
    refine lv_iadd hx hb dL_law_1253 ?_
    refine lv_topi (fun jv31 ejv31 => ?_)
    obtain rfl : jv1 = jv31 := ejv1.trans ejv31.symm
    refine va_sld hx hb hX hbl hbA hS (sl_in (c := 1) ejv1 (by decide) (by decide) hi hL) dL_law_1254 ?_
    refine lv_topi (fun av32 eav32 => ?_)
    obtain rfl : 1 = av32 := eav2.trans eav32.symm
    refine lv_aload_n hx hb dL_law_1255 rfl (lv_at hl 3 rfl) ?_
    refine lv_iload_n hx hb dL_law_1256 rfl (lv_at hl 0 rfl) ?_
    refine lv_iconst (v := 2) hx hb dL_law_1257 (by decide) ?_
    refine lv_iadd hx hb dL_law_1258 ?_
    refine lv_topi (fun jv33 ejv33 => ?_)
    obtain rfl : jv3 = jv33 := ejv3.trans ejv33.symm
    refine va_sld hx hb hX hbl hbA hS (sl_in (c := 2) ejv3 (by decide) (by decide) hi hL) dL_law_1259 ?_
    refine lv_topi (fun av34 eav34 => ?_)
    obtain rfl : av4 = av34 := eav4.trans eav34.symm
    refine lv_aload_n hx hb dL_law_1260 rfl (lv_at hl 3 rfl) ?_
    refine lv_iload_n hx hb dL_law_1261 rfl (lv_at hl 0 rfl) ?_
    refine lv_iconst (v := 3) hx hb dL_law_1262 (by decide) ?_
    refine lv_iadd hx hb dL_law_1263 ?_
    refine lv_topi (fun jv35 ejv35 => ?_)
    obtain rfl : jv5 = jv35 := ejv5.trans ejv35.symm
    refine va_sld hx hb hX hbl hbA hS (sl_in (c := 3) ejv5 (by decide) (by decide) hi hL) dL_law_1264 ?_
    refine lv_topi (fun av36 eav36 => ?_)
    obtain rfl : av6 = av36 := eav6.trans eav36.symm
    refine lv_i2l hx hb dL_law_1265 rfl ?_
    refine lv_bipush (v := 32) hx hb dL_law_1266 (by decide) ?_
    refine lv_lshl hx hb dL_law_1268 rfl ?_
    refine lv_topl (fun lv37 elv37 => ?_)
    refine lv_aload_n hx hb dL_law_1269 rfl (lv_at hl 3 rfl) ?_
    refine lv_iload_n hx hb dL_law_1270 rfl (lv_at hl 0 rfl) ?_
    refine lv_iconst (v := 4) hx hb dL_law_1271 (by decide) ?_
    refine lv_iadd hx hb dL_law_1272 ?_
    refine lv_topi (fun jv38 ejv38 => ?_)
    obtain rfl : jv8 = jv38 := ejv8.trans ejv38.symm
    refine va_sld hx hb hX hbl hbA hS (sl_in (c := 4) ejv8 (by decide) (by decide) hi hL) dL_law_1273 ?_
    refine lv_topi (fun av39 eav39 => ?_)
    obtain rfl : av9 = av39 := eav9.trans eav39.symm
    refine lv_i2l hx hb dL_law_1274 rfl ?_
    refine lv_ldc2 (own := RL) (v := 4294967295) hx hb hown (hw0 _ m_248) dL_law_1275 ?_
    refine lv_land hx hb dL_law_1278 ?_
    refine lv_topl (fun lv40 elv40 => ?_)
    refine lv_lor hx hb dL_law_1279 ?_
    refine lv_topl (fun lv41 elv41 => ?_)
    refine cx_fwriteM1 (ob := q) (a2 := av4) (a3 := lv41) (rest := []) C1  hM hP hD hS hl.1 (Nat.le_of_ble_eq_true rfl) ⟨by omega, by omega⟩ dL_law_1280 (fun an42 w43  H locs hq2 hM hP hD hS => ?_)
    have hP := P_perm (List.perm_append_comm_assoc w43 w29 tl) hP
    have hD := D_perm (List.perm_append_comm_assoc w43 w29 tl) hD
    refine lv_pop hx hb dL_law_1283 rfl ?_
    refine lv_goto (tgt := 1350) hx hb dL_law_1284 (by decide) ?_
    have u1 : Int32.toInt 1 = 1 := by decide
    unfold sR at r1 r2 r3 r4
    rcases hq with ⟨_, rfl, hz⟩ | ⟨_, rfl, hz⟩ | ⟨_, hz⟩ <;> rcases hq2 with ⟨_, hz⟩ | ⟨_, hz⟩ | ⟨_, hz⟩
    all_goals first | (exfalso; omega) | skip
    · exact K _ _ _ _ ⟨w29, w43, tl, _, _, _, _, _, _, _, _, _, _, _, _, _, _, _, _, _, _, (by assumption), (by assumption), hI, ⟨r0, r1, (by unfold sR; omega), r3, r4, i0, i1, i2⟩, hP, hD, hS, hl, by omega, by omega⟩
    · exact K _ _ _ _ ⟨w29, w43, tl, _, _, _, _, _, _, _, _, _, _, _, _, _, _, _, _, _, _, (by assumption), (by assumption), hI, ⟨r0, r1, (by unfold sR; omega), r3, r4, i0, i1, i2⟩, hP, hD, hS, hl, by omega, by omega⟩
    · exact K _ _ _ _ ⟨w29, w43, tl, _, _, _, _, _, _, _, _, _, _, _, _, _, _, _, _, _, _, (by assumption), (by assumption), hI, ⟨r0, r1, (by unfold sR; omega), r3, r4, i0, i1, i2⟩, hP, hD, hS, hl, by omega, by omega⟩
  · obtain rfl : 2 = av2 := h9.symm
    refine cx_fwrite2 (ob := x) (a2 := av4) (a3 := lv11) (rest := []) C1  hB hP hD hS hl.1 (Nat.le_of_ble_eq_true rfl) ⟨by omega, by omega⟩ dL_law_1245 (fun an44 w45 wi2_46 H locs hq hB hP hD hS => ?_)
    have hP := P_perm (List.perm_append_comm_assoc w45 wm tl) hP
    have hD := D_perm (List.perm_append_comm_assoc w45 wm tl) hD
    refine lv_pop hx hb dL_law_1248 rfl ?_
    refine lv_aload_n hx hb dL_law_1249 rfl (lv_at hl 1 rfl) ?_
    refine lv_aload_n hx hb dL_law_1250 rfl (lv_at hl 3 rfl) ?_
    refine lv_iload_n hx hb dL_law_1251 rfl (lv_at hl 0 rfl) ?_
    refine lv_iconst (v := 1) hx hb dL_law_1252 (by decide) ?_
    refine lv_iadd hx hb dL_law_1253 ?_
    refine lv_topi (fun jv47 ejv47 => ?_)
    obtain rfl : jv1 = jv47 := ejv1.trans ejv47.symm
    refine va_sld hx hb hX hbl hbA hS (sl_in (c := 1) ejv1 (by decide) (by decide) hi hL) dL_law_1254 ?_
    refine lv_topi (fun av48 eav48 => ?_)
    obtain rfl : 2 = av48 := eav2.trans eav48.symm
    refine lv_aload_n hx hb dL_law_1255 rfl (lv_at hl 3 rfl) ?_
    refine lv_iload_n hx hb dL_law_1256 rfl (lv_at hl 0 rfl) ?_
    refine lv_iconst (v := 2) hx hb dL_law_1257 (by decide) ?_
    refine lv_iadd hx hb dL_law_1258 ?_
    refine lv_topi (fun jv49 ejv49 => ?_)
    obtain rfl : jv3 = jv49 := ejv3.trans ejv49.symm
    refine va_sld hx hb hX hbl hbA hS (sl_in (c := 2) ejv3 (by decide) (by decide) hi hL) dL_law_1259 ?_
    refine lv_topi (fun av50 eav50 => ?_)
    obtain rfl : av4 = av50 := eav4.trans eav50.symm
    refine lv_aload_n hx hb dL_law_1260 rfl (lv_at hl 3 rfl) ?_
    refine lv_iload_n hx hb dL_law_1261 rfl (lv_at hl 0 rfl) ?_
    refine lv_iconst (v := 3) hx hb dL_law_1262 (by decide) ?_
    refine lv_iadd hx hb dL_law_1263 ?_
    refine lv_topi (fun jv51 ejv51 => ?_)
    obtain rfl : jv5 = jv51 := ejv5.trans ejv51.symm
    refine va_sld hx hb hX hbl hbA hS (sl_in (c := 3) ejv5 (by decide) (by decide) hi hL) dL_law_1264 ?_
    refine lv_topi (fun av52 eav52 => ?_)
    obtain rfl : av6 = av52 := eav6.trans eav52.symm
    refine lv_i2l hx hb dL_law_1265 rfl ?_
    refine lv_bipush (v := 32) hx hb dL_law_1266 (by decide) ?_
    refine lv_lshl hx hb dL_law_1268 rfl ?_
    refine lv_topl (fun lv53 elv53 => ?_)
    refine lv_aload_n hx hb dL_law_1269 rfl (lv_at hl 3 rfl) ?_
    refine lv_iload_n hx hb dL_law_1270 rfl (lv_at hl 0 rfl) ?_
    refine lv_iconst (v := 4) hx hb dL_law_1271 (by decide) ?_
    refine lv_iadd hx hb dL_law_1272 ?_
    refine lv_topi (fun jv54 ejv54 => ?_)
    obtain rfl : jv8 = jv54 := ejv8.trans ejv54.symm
    refine va_sld hx hb hX hbl hbA hS (sl_in (c := 4) ejv8 (by decide) (by decide) hi hL) dL_law_1273 ?_
    refine lv_topi (fun av55 eav55 => ?_)
    obtain rfl : av9 = av55 := eav9.trans eav55.symm
    refine lv_i2l hx hb dL_law_1274 rfl ?_
    refine lv_ldc2 (own := RL) (v := 4294967295) hx hb hown (hw0 _ m_248) dL_law_1275 ?_
    refine lv_land hx hb dL_law_1278 ?_
    refine lv_topl (fun lv56 elv56 => ?_)
    refine lv_lor hx hb dL_law_1279 ?_
    refine lv_topl (fun lv57 elv57 => ?_)
    refine cx_fwriteM2 (ob := q) (a2 := av4) (a3 := lv57) (rest := []) C1  hM hP hD hS hl.1 (Nat.le_of_ble_eq_true rfl) ⟨by omega, by omega⟩ dL_law_1280 (fun an58 w59  H locs hq2 hM hP hD hS => ?_)
    have hP := P_perm (List.perm_append_comm_assoc w59 w45 tl) hP
    have hD := D_perm (List.perm_append_comm_assoc w59 w45 tl) hD
    refine lv_pop hx hb dL_law_1283 rfl ?_
    refine lv_goto (tgt := 1350) hx hb dL_law_1284 (by decide) ?_
    have u1 : Int32.toInt 1 = 1 := by decide
    unfold sR at r1 r2 r3 r4
    rcases hq with ⟨_, rfl, hz⟩ | ⟨_, rfl, hz⟩ | ⟨_, hz⟩ <;> rcases hq2 with ⟨_, hz⟩ | ⟨_, hz⟩ | ⟨_, hz⟩
    all_goals first | (exfalso; omega) | skip
    · exact K _ _ _ _ ⟨w45, w59, tl, _, _, _, _, _, _, _, _, _, _, _, _, _, _, _, _, _, _, (by assumption), (by assumption), hI, ⟨r0, r1, r2, (by unfold sR; omega), r4, i0, i1, i2⟩, hP, hD, hS, hl, by omega, by omega⟩
    · exact K _ _ _ _ ⟨w45, w59, tl, _, _, _, _, _, _, _, _, _, _, _, _, _, _, _, _, _, _, (by assumption), (by assumption), hI, ⟨r0, r1, r2, (by unfold sR; omega), r4, i0, i1, i2⟩, hP, hD, hS, hl, by omega, by omega⟩
    · exact K _ _ _ _ ⟨w45, w59, tl, _, _, _, _, _, _, _, _, _, _, _, _, _, _, _, _, _, _, (by assumption), (by assumption), hI, ⟨r0, r1, r2, (by unfold sR; omega), r4, i0, i1, i2⟩, hP, hD, hS, hl, by omega, by omega⟩
  · obtain rfl : 3 = av2 := h9.symm
    refine cx_fwrite3 (ob := x) (a2 := av4) (a3 := lv11) (rest := []) C1  hB hP hD hS hl.1 (Nat.le_of_ble_eq_true rfl) ⟨by omega, by omega⟩ dL_law_1245 (fun an60 w61 wi3_62 H locs hq hB hP hD hS => ?_)
    have hP := P_perm (List.perm_append_comm_assoc w61 wm tl) hP
    have hD := D_perm (List.perm_append_comm_assoc w61 wm tl) hD
    refine lv_pop hx hb dL_law_1248 rfl ?_
    refine lv_aload_n hx hb dL_law_1249 rfl (lv_at hl 1 rfl) ?_
    refine lv_aload_n hx hb dL_law_1250 rfl (lv_at hl 3 rfl) ?_
    refine lv_iload_n hx hb dL_law_1251 rfl (lv_at hl 0 rfl) ?_
    refine lv_iconst (v := 1) hx hb dL_law_1252 (by decide) ?_
    refine lv_iadd hx hb dL_law_1253 ?_
    refine lv_topi (fun jv63 ejv63 => ?_)
    obtain rfl : jv1 = jv63 := ejv1.trans ejv63.symm
    refine va_sld hx hb hX hbl hbA hS (sl_in (c := 1) ejv1 (by decide) (by decide) hi hL) dL_law_1254 ?_
    refine lv_topi (fun av64 eav64 => ?_)
    obtain rfl : 3 = av64 := eav2.trans eav64.symm
    refine lv_aload_n hx hb dL_law_1255 rfl (lv_at hl 3 rfl) ?_
    refine lv_iload_n hx hb dL_law_1256 rfl (lv_at hl 0 rfl) ?_
    refine lv_iconst (v := 2) hx hb dL_law_1257 (by decide) ?_
    refine lv_iadd hx hb dL_law_1258 ?_
    refine lv_topi (fun jv65 ejv65 => ?_)
    obtain rfl : jv3 = jv65 := ejv3.trans ejv65.symm
    refine va_sld hx hb hX hbl hbA hS (sl_in (c := 2) ejv3 (by decide) (by decide) hi hL) dL_law_1259 ?_
    refine lv_topi (fun av66 eav66 => ?_)
    obtain rfl : av4 = av66 := eav4.trans eav66.symm
    refine lv_aload_n hx hb dL_law_1260 rfl (lv_at hl 3 rfl) ?_
    refine lv_iload_n hx hb dL_law_1261 rfl (lv_at hl 0 rfl) ?_
    refine lv_iconst (v := 3) hx hb dL_law_1262 (by decide) ?_
    refine lv_iadd hx hb dL_law_1263 ?_
    refine lv_topi (fun jv67 ejv67 => ?_)
    obtain rfl : jv5 = jv67 := ejv5.trans ejv67.symm
    refine va_sld hx hb hX hbl hbA hS (sl_in (c := 3) ejv5 (by decide) (by decide) hi hL) dL_law_1264 ?_
    refine lv_topi (fun av68 eav68 => ?_)
    obtain rfl : av6 = av68 := eav6.trans eav68.symm
    refine lv_i2l hx hb dL_law_1265 rfl ?_
    refine lv_bipush (v := 32) hx hb dL_law_1266 (by decide) ?_
    refine lv_lshl hx hb dL_law_1268 rfl ?_
    refine lv_topl (fun lv69 elv69 => ?_)
    refine lv_aload_n hx hb dL_law_1269 rfl (lv_at hl 3 rfl) ?_
    refine lv_iload_n hx hb dL_law_1270 rfl (lv_at hl 0 rfl) ?_
    refine lv_iconst (v := 4) hx hb dL_law_1271 (by decide) ?_
    refine lv_iadd hx hb dL_law_1272 ?_
    refine lv_topi (fun jv70 ejv70 => ?_)
    obtain rfl : jv8 = jv70 := ejv8.trans ejv70.symm
    refine va_sld hx hb hX hbl hbA hS (sl_in (c := 4) ejv8 (by decide) (by decide) hi hL) dL_law_1273 ?_
    refine lv_topi (fun av71 eav71 => ?_)
    obtain rfl : av9 = av71 := eav9.trans eav71.symm
    refine lv_i2l hx hb dL_law_1274 rfl ?_
    refine lv_ldc2 (own := RL) (v := 4294967295) hx hb hown (hw0 _ m_248) dL_law_1275 ?_
    refine lv_land hx hb dL_law_1278 ?_
    refine lv_topl (fun lv72 elv72 => ?_)
    refine lv_lor hx hb dL_law_1279 ?_
    refine lv_topl (fun lv73 elv73 => ?_)
    refine cx_fwriteM3 (ob := q) (a2 := av4) (a3 := lv73) (rest := []) C1  hM hP hD hS hl.1 (Nat.le_of_ble_eq_true rfl) ⟨by omega, by omega⟩ dL_law_1280 (fun an74 w75  H locs hq2 hM hP hD hS => ?_)
    have hP := P_perm (List.perm_append_comm_assoc w75 w61 tl) hP
    have hD := D_perm (List.perm_append_comm_assoc w75 w61 tl) hD
    refine lv_pop hx hb dL_law_1283 rfl ?_
    refine lv_goto (tgt := 1350) hx hb dL_law_1284 (by decide) ?_
    have u1 : Int32.toInt 1 = 1 := by decide
    unfold sR at r1 r2 r3 r4
    rcases hq with ⟨_, rfl, hz⟩ | ⟨_, rfl, hz⟩ | ⟨_, hz⟩ <;> rcases hq2 with ⟨_, hz⟩ | ⟨_, hz⟩ | ⟨_, hz⟩
    all_goals first | (exfalso; omega) | skip
    · exact K _ _ _ _ ⟨w61, w75, tl, _, _, _, _, _, _, _, _, _, _, _, _, _, _, _, _, _, _, (by assumption), (by assumption), hI, ⟨r0, r1, r2, r3, (by unfold sR; omega), i0, i1, i2⟩, hP, hD, hS, hl, by omega, by omega⟩
    · exact K _ _ _ _ ⟨w61, w75, tl, _, _, _, _, _, _, _, _, _, _, _, _, _, _, _, _, _, _, (by assumption), (by assumption), hI, ⟨r0, r1, r2, r3, (by unfold sR; omega), i0, i1, i2⟩, hP, hD, hS, hl, by omega, by omega⟩
    · exact K _ _ _ _ ⟨w61, w75, tl, _, _, _, _, _, _, _, _, _, _, _, _, _, _, _, _, _, _, (by assumption), (by assumption), hI, ⟨r0, r1, r2, r3, (by unfold sR; omega), i0, i1, i2⟩, hP, hD, hS, hl, by omega, by omega⟩
  · have hav2 := h9
    refine cx_swritelo (ob := x) (a1 := av2) (a2 := av4) (a3 := lv11) (rest := []) C1 hav2 hB hP hD hS hl.1 (Nat.le_of_ble_eq_true rfl) ⟨by omega, by omega⟩ dL_law_1245 (fun an76 w77  H locs hq hB hP hD hS => ?_)
    have hP := P_perm (List.perm_append_comm_assoc w77 wm tl) hP
    have hD := D_perm (List.perm_append_comm_assoc w77 wm tl) hD
    refine lv_pop hx hb dL_law_1248 rfl ?_
    refine lv_aload_n hx hb dL_law_1249 rfl (lv_at hl 1 rfl) ?_
    refine lv_aload_n hx hb dL_law_1250 rfl (lv_at hl 3 rfl) ?_
    refine lv_iload_n hx hb dL_law_1251 rfl (lv_at hl 0 rfl) ?_
    refine lv_iconst (v := 1) hx hb dL_law_1252 (by decide) ?_
    refine lv_iadd hx hb dL_law_1253 ?_
    refine lv_topi (fun jv78 ejv78 => ?_)
    obtain rfl : jv1 = jv78 := ejv1.trans ejv78.symm
    refine va_sld hx hb hX hbl hbA hS (sl_in (c := 1) ejv1 (by decide) (by decide) hi hL) dL_law_1254 ?_
    refine lv_topi (fun av79 eav79 => ?_)
    obtain rfl : av2 = av79 := eav2.trans eav79.symm
    refine lv_aload_n hx hb dL_law_1255 rfl (lv_at hl 3 rfl) ?_
    refine lv_iload_n hx hb dL_law_1256 rfl (lv_at hl 0 rfl) ?_
    refine lv_iconst (v := 2) hx hb dL_law_1257 (by decide) ?_
    refine lv_iadd hx hb dL_law_1258 ?_
    refine lv_topi (fun jv80 ejv80 => ?_)
    obtain rfl : jv3 = jv80 := ejv3.trans ejv80.symm
    refine va_sld hx hb hX hbl hbA hS (sl_in (c := 2) ejv3 (by decide) (by decide) hi hL) dL_law_1259 ?_
    refine lv_topi (fun av81 eav81 => ?_)
    obtain rfl : av4 = av81 := eav4.trans eav81.symm
    refine lv_aload_n hx hb dL_law_1260 rfl (lv_at hl 3 rfl) ?_
    refine lv_iload_n hx hb dL_law_1261 rfl (lv_at hl 0 rfl) ?_
    refine lv_iconst (v := 3) hx hb dL_law_1262 (by decide) ?_
    refine lv_iadd hx hb dL_law_1263 ?_
    refine lv_topi (fun jv82 ejv82 => ?_)
    obtain rfl : jv5 = jv82 := ejv5.trans ejv82.symm
    refine va_sld hx hb hX hbl hbA hS (sl_in (c := 3) ejv5 (by decide) (by decide) hi hL) dL_law_1264 ?_
    refine lv_topi (fun av83 eav83 => ?_)
    obtain rfl : av6 = av83 := eav6.trans eav83.symm
    refine lv_i2l hx hb dL_law_1265 rfl ?_
    refine lv_bipush (v := 32) hx hb dL_law_1266 (by decide) ?_
    refine lv_lshl hx hb dL_law_1268 rfl ?_
    refine lv_topl (fun lv84 elv84 => ?_)
    refine lv_aload_n hx hb dL_law_1269 rfl (lv_at hl 3 rfl) ?_
    refine lv_iload_n hx hb dL_law_1270 rfl (lv_at hl 0 rfl) ?_
    refine lv_iconst (v := 4) hx hb dL_law_1271 (by decide) ?_
    refine lv_iadd hx hb dL_law_1272 ?_
    refine lv_topi (fun jv85 ejv85 => ?_)
    obtain rfl : jv8 = jv85 := ejv8.trans ejv85.symm
    refine va_sld hx hb hX hbl hbA hS (sl_in (c := 4) ejv8 (by decide) (by decide) hi hL) dL_law_1273 ?_
    refine lv_topi (fun av86 eav86 => ?_)
    obtain rfl : av9 = av86 := eav9.trans eav86.symm
    refine lv_i2l hx hb dL_law_1274 rfl ?_
    refine lv_ldc2 (own := RL) (v := 4294967295) hx hb hown (hw0 _ m_248) dL_law_1275 ?_
    refine lv_land hx hb dL_law_1278 ?_
    refine lv_topl (fun lv87 elv87 => ?_)
    refine lv_lor hx hb dL_law_1279 ?_
    refine lv_topl (fun lv88 elv88 => ?_)
    refine cx_swriteMlo (ob := q) (a1 := av2) (a2 := av4) (a3 := lv88) (rest := []) C1 hav2 hM hP hD hS hl.1 (Nat.le_of_ble_eq_true rfl) ⟨by omega, by omega⟩ dL_law_1280 (fun an89 w90  H locs hq2 hM hP hD hS => ?_)
    have hP := P_perm (List.perm_append_comm_assoc w90 w77 tl) hP
    have hD := D_perm (List.perm_append_comm_assoc w90 w77 tl) hD
    refine lv_pop hx hb dL_law_1283 rfl ?_
    refine lv_goto (tgt := 1350) hx hb dL_law_1284 (by decide) ?_
    exact K _ _ _ _ ⟨w77, w90, tl, ts, fl0, wi0, sz0, fl1, wi1, sz1, fl2, wi2, sz2, fl3, wi3, sz3, f, ta, fm, fw, fh, hB, hM, hI, ⟨r0, r1, r2, r3, r4, i0, i1, i2⟩, hP, hD, hS, hl, by omega, by omega⟩
  · have hav2 := h9
    refine cx_swritehi (ob := x) (a1 := av2) (a2 := av4) (a3 := lv11) (rest := []) C1 hav2 hB hP hD hS hl.1 (Nat.le_of_ble_eq_true rfl) ⟨by omega, by omega⟩ dL_law_1245 (fun an91 w92  H locs hq hB hP hD hS => ?_)
    have hP := P_perm (List.perm_append_comm_assoc w92 wm tl) hP
    have hD := D_perm (List.perm_append_comm_assoc w92 wm tl) hD
    refine lv_pop hx hb dL_law_1248 rfl ?_
    refine lv_aload_n hx hb dL_law_1249 rfl (lv_at hl 1 rfl) ?_
    refine lv_aload_n hx hb dL_law_1250 rfl (lv_at hl 3 rfl) ?_
    refine lv_iload_n hx hb dL_law_1251 rfl (lv_at hl 0 rfl) ?_
    refine lv_iconst (v := 1) hx hb dL_law_1252 (by decide) ?_
    refine lv_iadd hx hb dL_law_1253 ?_
    refine lv_topi (fun jv93 ejv93 => ?_)
    obtain rfl : jv1 = jv93 := ejv1.trans ejv93.symm
    refine va_sld hx hb hX hbl hbA hS (sl_in (c := 1) ejv1 (by decide) (by decide) hi hL) dL_law_1254 ?_
    refine lv_topi (fun av94 eav94 => ?_)
    obtain rfl : av2 = av94 := eav2.trans eav94.symm
    refine lv_aload_n hx hb dL_law_1255 rfl (lv_at hl 3 rfl) ?_
    refine lv_iload_n hx hb dL_law_1256 rfl (lv_at hl 0 rfl) ?_
    refine lv_iconst (v := 2) hx hb dL_law_1257 (by decide) ?_
    refine lv_iadd hx hb dL_law_1258 ?_
    refine lv_topi (fun jv95 ejv95 => ?_)
    obtain rfl : jv3 = jv95 := ejv3.trans ejv95.symm
    refine va_sld hx hb hX hbl hbA hS (sl_in (c := 2) ejv3 (by decide) (by decide) hi hL) dL_law_1259 ?_
    refine lv_topi (fun av96 eav96 => ?_)
    obtain rfl : av4 = av96 := eav4.trans eav96.symm
    refine lv_aload_n hx hb dL_law_1260 rfl (lv_at hl 3 rfl) ?_
    refine lv_iload_n hx hb dL_law_1261 rfl (lv_at hl 0 rfl) ?_
    refine lv_iconst (v := 3) hx hb dL_law_1262 (by decide) ?_
    refine lv_iadd hx hb dL_law_1263 ?_
    refine lv_topi (fun jv97 ejv97 => ?_)
    obtain rfl : jv5 = jv97 := ejv5.trans ejv97.symm
    refine va_sld hx hb hX hbl hbA hS (sl_in (c := 3) ejv5 (by decide) (by decide) hi hL) dL_law_1264 ?_
    refine lv_topi (fun av98 eav98 => ?_)
    obtain rfl : av6 = av98 := eav6.trans eav98.symm
    refine lv_i2l hx hb dL_law_1265 rfl ?_
    refine lv_bipush (v := 32) hx hb dL_law_1266 (by decide) ?_
    refine lv_lshl hx hb dL_law_1268 rfl ?_
    refine lv_topl (fun lv99 elv99 => ?_)
    refine lv_aload_n hx hb dL_law_1269 rfl (lv_at hl 3 rfl) ?_
    refine lv_iload_n hx hb dL_law_1270 rfl (lv_at hl 0 rfl) ?_
    refine lv_iconst (v := 4) hx hb dL_law_1271 (by decide) ?_
    refine lv_iadd hx hb dL_law_1272 ?_
    refine lv_topi (fun jv100 ejv100 => ?_)
    obtain rfl : jv8 = jv100 := ejv8.trans ejv100.symm
    refine va_sld hx hb hX hbl hbA hS (sl_in (c := 4) ejv8 (by decide) (by decide) hi hL) dL_law_1273 ?_
    refine lv_topi (fun av101 eav101 => ?_)
    obtain rfl : av9 = av101 := eav9.trans eav101.symm
    refine lv_i2l hx hb dL_law_1274 rfl ?_
    refine lv_ldc2 (own := RL) (v := 4294967295) hx hb hown (hw0 _ m_248) dL_law_1275 ?_
    refine lv_land hx hb dL_law_1278 ?_
    refine lv_topl (fun lv102 elv102 => ?_)
    refine lv_lor hx hb dL_law_1279 ?_
    refine lv_topl (fun lv103 elv103 => ?_)
    refine cx_swriteMhi (ob := q) (a1 := av2) (a2 := av4) (a3 := lv103) (rest := []) C1 hav2 hM hP hD hS hl.1 (Nat.le_of_ble_eq_true rfl) ⟨by omega, by omega⟩ dL_law_1280 (fun an104 w105  H locs hq2 hM hP hD hS => ?_)
    have hP := P_perm (List.perm_append_comm_assoc w105 w92 tl) hP
    have hD := D_perm (List.perm_append_comm_assoc w105 w92 tl) hD
    refine lv_pop hx hb dL_law_1283 rfl ?_
    refine lv_goto (tgt := 1350) hx hb dL_law_1284 (by decide) ?_
    exact K _ _ _ _ ⟨w92, w105, tl, ts, fl0, wi0, sz0, fl1, wi1, sz1, fl2, wi2, sz2, fl3, wi3, sz3, f, ta, fm, fw, fh, hB, hM, hI, ⟨r0, r1, r2, r3, r4, i0, i1, i2⟩, hP, hD, hS, hl, by omega, by omega⟩

set_option maxHeartbeats 4000000 in
set_option maxRecDepth 100000 in
theorem law_35 {p : Program} {e : Env} {s : State} {m : MethodId} {below : List Frame} {meth : Method} {c : Code} {l : Launch} {b L : Nat} {xs : Nat → Int32} {A : Nat → Prop} {G : va_G} {y : Nat → ClassId} {aK aV : Nat → Nat} {H : Heap} {locs : List Loc} {cells slots : Nat} {ls : Array Slot} {Q : State → Prop} (C0 : lawC p s m meth c b L xs A G y aK aV) {x q : Nat} {i : Int32} (hi : 0 ≤ i.toInt ∧ i.toInt + 6 ≤ (L : Int)) (I : LI s b A G y x q i H locs ls cells slots) (K : ∀ H1 locs1 cells1 slots1, LI s b A G y x q i H1 locs1 ls cells1 slots1 → W p l e room_1 s m #[Value.ref b] below meth c H1 locs1 cells1 slots1 Q (F0 m 1350 ls [])) : W p l e room_1 s m #[Value.ref b] below meth c H locs cells slots Q (F0 m 1287 ls []) := by
  have C1 := C0
  obtain ⟨hx, hb, hr, hml, hown, hw0, hX, hbl, hbA, hA, hAf, hlocks, hK, hE, hL⟩ := C0
  obtain ⟨w, wm, tl, ts, fl0, wi0, sz0, fl1, wi1, sz1, fl2, wi2, sz2, fl3, wi3, sz3, f, ta, fm, fw, fh, hB, hM, hI, hR, hP, hD, hS, hl, hc1, hc2⟩ := I
  obtain ⟨r0, r1, r2, r3, r4, i0, i1, i2⟩ := hR
  refine lv_aload_n hx hb dL_law_1287 rfl (lv_at hl 2 rfl) ?_
  refine lv_aload_n hx hb dL_law_1288 rfl (lv_at hl 3 rfl) ?_
  refine lv_iload_n hx hb dL_law_1289 rfl (lv_at hl 0 rfl) ?_
  refine lv_iconst (v := 1) hx hb dL_law_1290 (by decide) ?_
  refine lv_iadd hx hb dL_law_1291 ?_
  refine lv_topi (fun jv1 ejv1 => ?_)
  refine va_sld hx hb hX hbl hbA hS (sl_in (c := 1) ejv1 (by decide) (by decide) hi hL) dL_law_1292 ?_
  refine lv_topi (fun av2 eav2 => ?_)
  refine lv_aload_n hx hb dL_law_1293 rfl (lv_at hl 3 rfl) ?_
  refine lv_iload_n hx hb dL_law_1294 rfl (lv_at hl 0 rfl) ?_
  refine lv_iconst (v := 2) hx hb dL_law_1295 (by decide) ?_
  refine lv_iadd hx hb dL_law_1296 ?_
  refine lv_topi (fun jv3 ejv3 => ?_)
  refine va_sld hx hb hX hbl hbA hS (sl_in (c := 2) ejv3 (by decide) (by decide) hi hL) dL_law_1297 ?_
  refine lv_topi (fun av4 eav4 => ?_)
  refine lv_aload_n hx hb dL_law_1298 rfl (lv_at hl 3 rfl) ?_
  refine lv_iload_n hx hb dL_law_1299 rfl (lv_at hl 0 rfl) ?_
  refine lv_iconst (v := 3) hx hb dL_law_1300 (by decide) ?_
  refine lv_iadd hx hb dL_law_1301 ?_
  refine lv_topi (fun jv5 ejv5 => ?_)
  refine va_sld hx hb hX hbl hbA hS (sl_in (c := 3) ejv5 (by decide) (by decide) hi hL) dL_law_1302 ?_
  refine lv_topi (fun av6 eav6 => ?_)
  refine lv_aload_n hx hb dL_law_1303 rfl (lv_at hl 3 rfl) ?_
  refine lv_iload_n hx hb dL_law_1304 rfl (lv_at hl 0 rfl) ?_
  refine lv_iconst (v := 4) hx hb dL_law_1305 (by decide) ?_
  refine lv_iadd hx hb dL_law_1306 ?_
  refine lv_topi (fun jv7 ejv7 => ?_)
  refine va_sld hx hb hX hbl hbA hS (sl_in (c := 4) ejv7 (by decide) (by decide) hi hL) dL_law_1307 ?_
  refine lv_topi (fun av8 eav8 => ?_)
  refine lv_aload_n hx hb dL_law_1308 rfl (lv_at hl 3 rfl) ?_
  refine lv_iload_n hx hb dL_law_1309 rfl (lv_at hl 0 rfl) ?_
  refine lv_iconst (v := 5) hx hb dL_law_1310 (by decide) ?_
  refine lv_iadd hx hb dL_law_1311 ?_
  refine lv_topi (fun jv9 ejv9 => ?_)
  refine va_sld hx hb hX hbl hbA hS (sl_in (c := 5) ejv9 (by decide) (by decide) hi hL) dL_law_1312 ?_
  refine lv_topi (fun av10 eav10 => ?_)
  rcases so_cases av2 with h9 | h9 | h9 | h9 | h9 | h9
  · obtain rfl : 0 = av2 := h9.symm
    rcases so_cases av6 with h9 | h9 | h9 | h9 | h9 | h9
    · obtain rfl : 0 = av6 := h9.symm
      refine cx_fpaste00 (ob := x) (a2 := av4) (a4 := av8) (a5 := av10) (rest := []) C1  hB hP hD hS hl.1 (Nat.le_of_ble_eq_true rfl) ⟨by omega, by omega⟩ dL_law_1313 (fun an11 w12  H locs hq hB hP hD hS => ?_)
      have hP := P_perm (List.perm_append_comm_assoc w12 wm tl) hP
      have hD := D_perm (List.perm_append_comm_assoc w12 wm tl) hD
      refine lv_aload_n hx hb dL_law_1316 rfl (lv_at hl 1 rfl) ?_
      refine lv_aload_n hx hb dL_law_1317 rfl (lv_at hl 3 rfl) ?_
      refine lv_iload_n hx hb dL_law_1318 rfl (lv_at hl 0 rfl) ?_
      refine lv_iconst (v := 1) hx hb dL_law_1319 (by decide) ?_
      refine lv_iadd hx hb dL_law_1320 ?_
      refine lv_topi (fun jv13 ejv13 => ?_)
      obtain rfl : jv1 = jv13 := ejv1.trans ejv13.symm
      refine va_sld hx hb hX hbl hbA hS (sl_in (c := 1) ejv1 (by decide) (by decide) hi hL) dL_law_1321 ?_
      refine lv_topi (fun av14 eav14 => ?_)
      obtain rfl : 0 = av14 := eav2.trans eav14.symm
      refine lv_aload_n hx hb dL_law_1322 rfl (lv_at hl 3 rfl) ?_
      refine lv_iload_n hx hb dL_law_1323 rfl (lv_at hl 0 rfl) ?_
      refine lv_iconst (v := 2) hx hb dL_law_1324 (by decide) ?_
      refine lv_iadd hx hb dL_law_1325 ?_
      refine lv_topi (fun jv15 ejv15 => ?_)
      obtain rfl : jv3 = jv15 := ejv3.trans ejv15.symm
      refine va_sld hx hb hX hbl hbA hS (sl_in (c := 2) ejv3 (by decide) (by decide) hi hL) dL_law_1326 ?_
      refine lv_topi (fun av16 eav16 => ?_)
      obtain rfl : av4 = av16 := eav4.trans eav16.symm
      refine lv_aload_n hx hb dL_law_1327 rfl (lv_at hl 3 rfl) ?_
      refine lv_iload_n hx hb dL_law_1328 rfl (lv_at hl 0 rfl) ?_
      refine lv_iconst (v := 3) hx hb dL_law_1329 (by decide) ?_
      refine lv_iadd hx hb dL_law_1330 ?_
      refine lv_topi (fun jv17 ejv17 => ?_)
      obtain rfl : jv5 = jv17 := ejv5.trans ejv17.symm
      refine va_sld hx hb hX hbl hbA hS (sl_in (c := 3) ejv5 (by decide) (by decide) hi hL) dL_law_1331 ?_
      refine lv_topi (fun av18 eav18 => ?_)
      obtain rfl : 0 = av18 := eav6.trans eav18.symm
      refine lv_aload_n hx hb dL_law_1332 rfl (lv_at hl 3 rfl) ?_
      refine lv_iload_n hx hb dL_law_1333 rfl (lv_at hl 0 rfl) ?_
      refine lv_iconst (v := 4) hx hb dL_law_1334 (by decide) ?_
      refine lv_iadd hx hb dL_law_1335 ?_
      refine lv_topi (fun jv19 ejv19 => ?_)
      obtain rfl : jv7 = jv19 := ejv7.trans ejv19.symm
      refine va_sld hx hb hX hbl hbA hS (sl_in (c := 4) ejv7 (by decide) (by decide) hi hL) dL_law_1336 ?_
      refine lv_topi (fun av20 eav20 => ?_)
      obtain rfl : av8 = av20 := eav8.trans eav20.symm
      refine lv_aload_n hx hb dL_law_1337 rfl (lv_at hl 3 rfl) ?_
      refine lv_iload_n hx hb dL_law_1338 rfl (lv_at hl 0 rfl) ?_
      refine lv_iconst (v := 5) hx hb dL_law_1339 (by decide) ?_
      refine lv_iadd hx hb dL_law_1340 ?_
      refine lv_topi (fun jv21 ejv21 => ?_)
      obtain rfl : jv9 = jv21 := ejv9.trans ejv21.symm
      refine va_sld hx hb hX hbl hbA hS (sl_in (c := 5) ejv9 (by decide) (by decide) hi hL) dL_law_1341 ?_
      refine lv_topi (fun av22 eav22 => ?_)
      obtain rfl : av10 = av22 := eav10.trans eav22.symm
      refine cx_fpasteM00 (ob := q) (a2 := av4) (a4 := av8) (a5 := av10) (rest := [.int an11]) C1  hM hP hD hS hl.1 (Nat.le_of_ble_eq_true rfl) ⟨by omega, by omega⟩ dL_law_1342 (fun an23 w24  H locs hq2 hM hP hD hS => ?_)
      have hP := P_perm (List.perm_append_comm_assoc w24 w12 tl) hP
      have hD := D_perm (List.perm_append_comm_assoc w24 w12 tl) hD
      have hEQ : an11 = an23 := by
        have u2 : Int32.toInt (-2) = -2 := by decide
        have u3 : Int32.toInt (-3) = -3 := by decide
        have u6 : Int32.toInt (-6) = -6 := by decide
        have u7 : Int32.toInt (-7) = -7 := by decide
        have u8 : Int32.toInt (-8) = -8 := by decide
        have u0 : Int32.toInt 0 = 0 := by decide
        apply Int32.toInt_inj.mp
        unfold sR at r1 r2 r3 r4
        rcases hq with ⟨rfl, hz⟩ | ⟨rfl, hz⟩ | ⟨rfl, hz⟩ <;> rcases hq2 with ⟨rfl, hz⟩ | ⟨rfl, hz⟩ | ⟨rfl, hz⟩ <;> first | rfl | omega
      subst hEQ
      refine lv_icmp_eq (tgt := 1350) hx hb dL_law_1345 (by decide) (fun _ => ?_) (fun c9 => absurd rfl c9)
      exact K _ _ _ _ ⟨w12, w24, tl, ts, fl0, wi0, sz0, fl1, wi1, sz1, fl2, wi2, sz2, fl3, wi3, sz3, f, ta, fm, fw, fh, hB, hM, hI, ⟨r0, r1, r2, r3, r4, i0, i1, i2⟩, hP, hD, hS, hl, by omega, by omega⟩
    · obtain rfl : 1 = av6 := h9.symm
      refine cx_fpaste01 (ob := x) (a2 := av4) (a4 := av8) (a5 := av10) (rest := []) C1  hB hP hD hS hl.1 (Nat.le_of_ble_eq_true rfl) ⟨by omega, by omega⟩ dL_law_1313 (fun an25 w26  H locs hq hB hP hD hS => ?_)
      have hP := P_perm (List.perm_append_comm_assoc w26 wm tl) hP
      have hD := D_perm (List.perm_append_comm_assoc w26 wm tl) hD
      refine lv_aload_n hx hb dL_law_1316 rfl (lv_at hl 1 rfl) ?_
      refine lv_aload_n hx hb dL_law_1317 rfl (lv_at hl 3 rfl) ?_
      refine lv_iload_n hx hb dL_law_1318 rfl (lv_at hl 0 rfl) ?_
      refine lv_iconst (v := 1) hx hb dL_law_1319 (by decide) ?_
      refine lv_iadd hx hb dL_law_1320 ?_
      refine lv_topi (fun jv27 ejv27 => ?_)
      obtain rfl : jv1 = jv27 := ejv1.trans ejv27.symm
      refine va_sld hx hb hX hbl hbA hS (sl_in (c := 1) ejv1 (by decide) (by decide) hi hL) dL_law_1321 ?_
      refine lv_topi (fun av28 eav28 => ?_)
      obtain rfl : 0 = av28 := eav2.trans eav28.symm
      refine lv_aload_n hx hb dL_law_1322 rfl (lv_at hl 3 rfl) ?_
      refine lv_iload_n hx hb dL_law_1323 rfl (lv_at hl 0 rfl) ?_
      refine lv_iconst (v := 2) hx hb dL_law_1324 (by decide) ?_
      refine lv_iadd hx hb dL_law_1325 ?_
      refine lv_topi (fun jv29 ejv29 => ?_)
      obtain rfl : jv3 = jv29 := ejv3.trans ejv29.symm
      refine va_sld hx hb hX hbl hbA hS (sl_in (c := 2) ejv3 (by decide) (by decide) hi hL) dL_law_1326 ?_
      refine lv_topi (fun av30 eav30 => ?_)
      obtain rfl : av4 = av30 := eav4.trans eav30.symm
      refine lv_aload_n hx hb dL_law_1327 rfl (lv_at hl 3 rfl) ?_
      refine lv_iload_n hx hb dL_law_1328 rfl (lv_at hl 0 rfl) ?_
      refine lv_iconst (v := 3) hx hb dL_law_1329 (by decide) ?_
      refine lv_iadd hx hb dL_law_1330 ?_
      refine lv_topi (fun jv31 ejv31 => ?_)
      obtain rfl : jv5 = jv31 := ejv5.trans ejv31.symm
      refine va_sld hx hb hX hbl hbA hS (sl_in (c := 3) ejv5 (by decide) (by decide) hi hL) dL_law_1331 ?_
      refine lv_topi (fun av32 eav32 => ?_)
      obtain rfl : 1 = av32 := eav6.trans eav32.symm
      refine lv_aload_n hx hb dL_law_1332 rfl (lv_at hl 3 rfl) ?_
      refine lv_iload_n hx hb dL_law_1333 rfl (lv_at hl 0 rfl) ?_
      refine lv_iconst (v := 4) hx hb dL_law_1334 (by decide) ?_
      refine lv_iadd hx hb dL_law_1335 ?_
      refine lv_topi (fun jv33 ejv33 => ?_)
      obtain rfl : jv7 = jv33 := ejv7.trans ejv33.symm
      refine va_sld hx hb hX hbl hbA hS (sl_in (c := 4) ejv7 (by decide) (by decide) hi hL) dL_law_1336 ?_
      refine lv_topi (fun av34 eav34 => ?_)
      obtain rfl : av8 = av34 := eav8.trans eav34.symm
      refine lv_aload_n hx hb dL_law_1337 rfl (lv_at hl 3 rfl) ?_
      refine lv_iload_n hx hb dL_law_1338 rfl (lv_at hl 0 rfl) ?_
      refine lv_iconst (v := 5) hx hb dL_law_1339 (by decide) ?_
      refine lv_iadd hx hb dL_law_1340 ?_
      refine lv_topi (fun jv35 ejv35 => ?_)
      obtain rfl : jv9 = jv35 := ejv9.trans ejv35.symm
      refine va_sld hx hb hX hbl hbA hS (sl_in (c := 5) ejv9 (by decide) (by decide) hi hL) dL_law_1341 ?_
      refine lv_topi (fun av36 eav36 => ?_)
      obtain rfl : av10 = av36 := eav10.trans eav36.symm
      refine cx_fpasteM01 (ob := q) (a2 := av4) (a4 := av8) (a5 := av10) (rest := [.int an25]) C1  hM hP hD hS hl.1 (Nat.le_of_ble_eq_true rfl) ⟨by omega, by omega⟩ dL_law_1342 (fun an37 w38  H locs hq2 hM hP hD hS => ?_)
      have hP := P_perm (List.perm_append_comm_assoc w38 w26 tl) hP
      have hD := D_perm (List.perm_append_comm_assoc w38 w26 tl) hD
      have hEQ : an25 = an37 := by
        have u2 : Int32.toInt (-2) = -2 := by decide
        have u3 : Int32.toInt (-3) = -3 := by decide
        have u6 : Int32.toInt (-6) = -6 := by decide
        have u7 : Int32.toInt (-7) = -7 := by decide
        have u8 : Int32.toInt (-8) = -8 := by decide
        have u0 : Int32.toInt 0 = 0 := by decide
        apply Int32.toInt_inj.mp
        unfold sR at r1 r2 r3 r4
        rcases hq with ⟨rfl, hz⟩ | ⟨rfl, hz⟩ | ⟨rfl, hz⟩ | ⟨rfl, hz⟩ <;> rcases hq2 with ⟨rfl, hz⟩ | ⟨rfl, hz⟩ | ⟨rfl, hz⟩ | ⟨rfl, hz⟩ <;> first | rfl | omega
      subst hEQ
      refine lv_icmp_eq (tgt := 1350) hx hb dL_law_1345 (by decide) (fun _ => ?_) (fun c9 => absurd rfl c9)
      exact K _ _ _ _ ⟨w26, w38, tl, ts, fl0, wi0, sz0, fl1, wi1, sz1, fl2, wi2, sz2, fl3, wi3, sz3, f, ta, fm, fw, fh, hB, hM, hI, ⟨r0, r1, r2, r3, r4, i0, i1, i2⟩, hP, hD, hS, hl, by omega, by omega⟩
    · obtain rfl : 2 = av6 := h9.symm
      refine cx_fpaste02 (ob := x) (a2 := av4) (a4 := av8) (a5 := av10) (rest := []) C1  hB hP hD hS hl.1 (Nat.le_of_ble_eq_true rfl) ⟨by omega, by omega⟩ dL_law_1313 (fun an39 w40  H locs hq hB hP hD hS => ?_)
      have hP := P_perm (List.perm_append_comm_assoc w40 wm tl) hP
      have hD := D_perm (List.perm_append_comm_assoc w40 wm tl) hD
      refine lv_aload_n hx hb dL_law_1316 rfl (lv_at hl 1 rfl) ?_
      refine lv_aload_n hx hb dL_law_1317 rfl (lv_at hl 3 rfl) ?_
      refine lv_iload_n hx hb dL_law_1318 rfl (lv_at hl 0 rfl) ?_
      refine lv_iconst (v := 1) hx hb dL_law_1319 (by decide) ?_
      refine lv_iadd hx hb dL_law_1320 ?_
      refine lv_topi (fun jv41 ejv41 => ?_)
      obtain rfl : jv1 = jv41 := ejv1.trans ejv41.symm
      refine va_sld hx hb hX hbl hbA hS (sl_in (c := 1) ejv1 (by decide) (by decide) hi hL) dL_law_1321 ?_
      refine lv_topi (fun av42 eav42 => ?_)
      obtain rfl : 0 = av42 := eav2.trans eav42.symm
      refine lv_aload_n hx hb dL_law_1322 rfl (lv_at hl 3 rfl) ?_
      refine lv_iload_n hx hb dL_law_1323 rfl (lv_at hl 0 rfl) ?_
      refine lv_iconst (v := 2) hx hb dL_law_1324 (by decide) ?_
      refine lv_iadd hx hb dL_law_1325 ?_
      refine lv_topi (fun jv43 ejv43 => ?_)
      obtain rfl : jv3 = jv43 := ejv3.trans ejv43.symm
      refine va_sld hx hb hX hbl hbA hS (sl_in (c := 2) ejv3 (by decide) (by decide) hi hL) dL_law_1326 ?_
      refine lv_topi (fun av44 eav44 => ?_)
      obtain rfl : av4 = av44 := eav4.trans eav44.symm
      refine lv_aload_n hx hb dL_law_1327 rfl (lv_at hl 3 rfl) ?_
      refine lv_iload_n hx hb dL_law_1328 rfl (lv_at hl 0 rfl) ?_
      refine lv_iconst (v := 3) hx hb dL_law_1329 (by decide) ?_
      refine lv_iadd hx hb dL_law_1330 ?_
      refine lv_topi (fun jv45 ejv45 => ?_)
      obtain rfl : jv5 = jv45 := ejv5.trans ejv45.symm
      refine va_sld hx hb hX hbl hbA hS (sl_in (c := 3) ejv5 (by decide) (by decide) hi hL) dL_law_1331 ?_
      refine lv_topi (fun av46 eav46 => ?_)
      obtain rfl : 2 = av46 := eav6.trans eav46.symm
      refine lv_aload_n hx hb dL_law_1332 rfl (lv_at hl 3 rfl) ?_
      refine lv_iload_n hx hb dL_law_1333 rfl (lv_at hl 0 rfl) ?_
      refine lv_iconst (v := 4) hx hb dL_law_1334 (by decide) ?_
      refine lv_iadd hx hb dL_law_1335 ?_
      refine lv_topi (fun jv47 ejv47 => ?_)
      obtain rfl : jv7 = jv47 := ejv7.trans ejv47.symm
      refine va_sld hx hb hX hbl hbA hS (sl_in (c := 4) ejv7 (by decide) (by decide) hi hL) dL_law_1336 ?_
      refine lv_topi (fun av48 eav48 => ?_)
      obtain rfl : av8 = av48 := eav8.trans eav48.symm
      refine lv_aload_n hx hb dL_law_1337 rfl (lv_at hl 3 rfl) ?_
      refine lv_iload_n hx hb dL_law_1338 rfl (lv_at hl 0 rfl) ?_
      refine lv_iconst (v := 5) hx hb dL_law_1339 (by decide) ?_
      refine lv_iadd hx hb dL_law_1340 ?_
      refine lv_topi (fun jv49 ejv49 => ?_)
      obtain rfl : jv9 = jv49 := ejv9.trans ejv49.symm
      refine va_sld hx hb hX hbl hbA hS (sl_in (c := 5) ejv9 (by decide) (by decide) hi hL) dL_law_1341 ?_
      refine lv_topi (fun av50 eav50 => ?_)
      obtain rfl : av10 = av50 := eav10.trans eav50.symm
      refine cx_fpasteM02 (ob := q) (a2 := av4) (a4 := av8) (a5 := av10) (rest := [.int an39]) C1  hM hP hD hS hl.1 (Nat.le_of_ble_eq_true rfl) ⟨by omega, by omega⟩ dL_law_1342 (fun an51 w52  H locs hq2 hM hP hD hS => ?_)
      have hP := P_perm (List.perm_append_comm_assoc w52 w40 tl) hP
      have hD := D_perm (List.perm_append_comm_assoc w52 w40 tl) hD
      have hEQ : an39 = an51 := by
        have u2 : Int32.toInt (-2) = -2 := by decide
        have u3 : Int32.toInt (-3) = -3 := by decide
        have u6 : Int32.toInt (-6) = -6 := by decide
        have u7 : Int32.toInt (-7) = -7 := by decide
        have u8 : Int32.toInt (-8) = -8 := by decide
        have u0 : Int32.toInt 0 = 0 := by decide
        apply Int32.toInt_inj.mp
        unfold sR at r1 r2 r3 r4
        rcases hq with ⟨rfl, hz⟩ | ⟨rfl, hz⟩ | ⟨rfl, hz⟩ | ⟨rfl, hz⟩ <;> rcases hq2 with ⟨rfl, hz⟩ | ⟨rfl, hz⟩ | ⟨rfl, hz⟩ | ⟨rfl, hz⟩ <;> first | rfl | omega
      subst hEQ
      refine lv_icmp_eq (tgt := 1350) hx hb dL_law_1345 (by decide) (fun _ => ?_) (fun c9 => absurd rfl c9)
      exact K _ _ _ _ ⟨w40, w52, tl, ts, fl0, wi0, sz0, fl1, wi1, sz1, fl2, wi2, sz2, fl3, wi3, sz3, f, ta, fm, fw, fh, hB, hM, hI, ⟨r0, r1, r2, r3, r4, i0, i1, i2⟩, hP, hD, hS, hl, by omega, by omega⟩
    · obtain rfl : 3 = av6 := h9.symm
      refine cx_fpaste03 (ob := x) (a2 := av4) (a4 := av8) (a5 := av10) (rest := []) C1  hB hP hD hS hl.1 (Nat.le_of_ble_eq_true rfl) ⟨by omega, by omega⟩ dL_law_1313 (fun an53 w54  H locs hq hB hP hD hS => ?_)
      have hP := P_perm (List.perm_append_comm_assoc w54 wm tl) hP
      have hD := D_perm (List.perm_append_comm_assoc w54 wm tl) hD
      refine lv_aload_n hx hb dL_law_1316 rfl (lv_at hl 1 rfl) ?_
      refine lv_aload_n hx hb dL_law_1317 rfl (lv_at hl 3 rfl) ?_
      refine lv_iload_n hx hb dL_law_1318 rfl (lv_at hl 0 rfl) ?_
      refine lv_iconst (v := 1) hx hb dL_law_1319 (by decide) ?_
      refine lv_iadd hx hb dL_law_1320 ?_
      refine lv_topi (fun jv55 ejv55 => ?_)
      obtain rfl : jv1 = jv55 := ejv1.trans ejv55.symm
      refine va_sld hx hb hX hbl hbA hS (sl_in (c := 1) ejv1 (by decide) (by decide) hi hL) dL_law_1321 ?_
      refine lv_topi (fun av56 eav56 => ?_)
      obtain rfl : 0 = av56 := eav2.trans eav56.symm
      refine lv_aload_n hx hb dL_law_1322 rfl (lv_at hl 3 rfl) ?_
      refine lv_iload_n hx hb dL_law_1323 rfl (lv_at hl 0 rfl) ?_
      refine lv_iconst (v := 2) hx hb dL_law_1324 (by decide) ?_
      refine lv_iadd hx hb dL_law_1325 ?_
      refine lv_topi (fun jv57 ejv57 => ?_)
      obtain rfl : jv3 = jv57 := ejv3.trans ejv57.symm
      refine va_sld hx hb hX hbl hbA hS (sl_in (c := 2) ejv3 (by decide) (by decide) hi hL) dL_law_1326 ?_
      refine lv_topi (fun av58 eav58 => ?_)
      obtain rfl : av4 = av58 := eav4.trans eav58.symm
      refine lv_aload_n hx hb dL_law_1327 rfl (lv_at hl 3 rfl) ?_
      refine lv_iload_n hx hb dL_law_1328 rfl (lv_at hl 0 rfl) ?_
      refine lv_iconst (v := 3) hx hb dL_law_1329 (by decide) ?_
      refine lv_iadd hx hb dL_law_1330 ?_
      refine lv_topi (fun jv59 ejv59 => ?_)
      obtain rfl : jv5 = jv59 := ejv5.trans ejv59.symm
      refine va_sld hx hb hX hbl hbA hS (sl_in (c := 3) ejv5 (by decide) (by decide) hi hL) dL_law_1331 ?_
      refine lv_topi (fun av60 eav60 => ?_)
      obtain rfl : 3 = av60 := eav6.trans eav60.symm
      refine lv_aload_n hx hb dL_law_1332 rfl (lv_at hl 3 rfl) ?_
      refine lv_iload_n hx hb dL_law_1333 rfl (lv_at hl 0 rfl) ?_
      refine lv_iconst (v := 4) hx hb dL_law_1334 (by decide) ?_
      refine lv_iadd hx hb dL_law_1335 ?_
      refine lv_topi (fun jv61 ejv61 => ?_)
      obtain rfl : jv7 = jv61 := ejv7.trans ejv61.symm
      refine va_sld hx hb hX hbl hbA hS (sl_in (c := 4) ejv7 (by decide) (by decide) hi hL) dL_law_1336 ?_
      refine lv_topi (fun av62 eav62 => ?_)
      obtain rfl : av8 = av62 := eav8.trans eav62.symm
      refine lv_aload_n hx hb dL_law_1337 rfl (lv_at hl 3 rfl) ?_
      refine lv_iload_n hx hb dL_law_1338 rfl (lv_at hl 0 rfl) ?_
      refine lv_iconst (v := 5) hx hb dL_law_1339 (by decide) ?_
      refine lv_iadd hx hb dL_law_1340 ?_
      refine lv_topi (fun jv63 ejv63 => ?_)
      obtain rfl : jv9 = jv63 := ejv9.trans ejv63.symm
      refine va_sld hx hb hX hbl hbA hS (sl_in (c := 5) ejv9 (by decide) (by decide) hi hL) dL_law_1341 ?_
      refine lv_topi (fun av64 eav64 => ?_)
      obtain rfl : av10 = av64 := eav10.trans eav64.symm
      refine cx_fpasteM03 (ob := q) (a2 := av4) (a4 := av8) (a5 := av10) (rest := [.int an53]) C1  hM hP hD hS hl.1 (Nat.le_of_ble_eq_true rfl) ⟨by omega, by omega⟩ dL_law_1342 (fun an65 w66  H locs hq2 hM hP hD hS => ?_)
      have hP := P_perm (List.perm_append_comm_assoc w66 w54 tl) hP
      have hD := D_perm (List.perm_append_comm_assoc w66 w54 tl) hD
      have hEQ : an53 = an65 := by
        have u2 : Int32.toInt (-2) = -2 := by decide
        have u3 : Int32.toInt (-3) = -3 := by decide
        have u6 : Int32.toInt (-6) = -6 := by decide
        have u7 : Int32.toInt (-7) = -7 := by decide
        have u8 : Int32.toInt (-8) = -8 := by decide
        have u0 : Int32.toInt 0 = 0 := by decide
        apply Int32.toInt_inj.mp
        unfold sR at r1 r2 r3 r4
        rcases hq with ⟨rfl, hz⟩ | ⟨rfl, hz⟩ | ⟨rfl, hz⟩ | ⟨rfl, hz⟩ <;> rcases hq2 with ⟨rfl, hz⟩ | ⟨rfl, hz⟩ | ⟨rfl, hz⟩ | ⟨rfl, hz⟩ <;> first | rfl | omega
      subst hEQ
      refine lv_icmp_eq (tgt := 1350) hx hb dL_law_1345 (by decide) (fun _ => ?_) (fun c9 => absurd rfl c9)
      exact K _ _ _ _ ⟨w54, w66, tl, ts, fl0, wi0, sz0, fl1, wi1, sz1, fl2, wi2, sz2, fl3, wi3, sz3, f, ta, fm, fw, fh, hB, hM, hI, ⟨r0, r1, r2, r3, r4, i0, i1, i2⟩, hP, hD, hS, hl, by omega, by omega⟩
    · have hav6 := h9
      refine cx_spasteTlo (ob := x) (a1 := 0) (a2 := av4) (a3 := av6) (a4 := av8) (a5 := av10) (rest := []) C1 (by decide) hav6 hB hP hD hS hl.1 (Nat.le_of_ble_eq_true rfl) ⟨by omega, by omega⟩ dL_law_1313 (fun an67 w68  H locs hq hB hP hD hS => ?_)
      have hP := P_perm (List.perm_append_comm_assoc w68 wm tl) hP
      have hD := D_perm (List.perm_append_comm_assoc w68 wm tl) hD
      refine lv_aload_n hx hb dL_law_1316 rfl (lv_at hl 1 rfl) ?_
      refine lv_aload_n hx hb dL_law_1317 rfl (lv_at hl 3 rfl) ?_
      refine lv_iload_n hx hb dL_law_1318 rfl (lv_at hl 0 rfl) ?_
      refine lv_iconst (v := 1) hx hb dL_law_1319 (by decide) ?_
      refine lv_iadd hx hb dL_law_1320 ?_
      refine lv_topi (fun jv69 ejv69 => ?_)
      obtain rfl : jv1 = jv69 := ejv1.trans ejv69.symm
      refine va_sld hx hb hX hbl hbA hS (sl_in (c := 1) ejv1 (by decide) (by decide) hi hL) dL_law_1321 ?_
      refine lv_topi (fun av70 eav70 => ?_)
      obtain rfl : 0 = av70 := eav2.trans eav70.symm
      refine lv_aload_n hx hb dL_law_1322 rfl (lv_at hl 3 rfl) ?_
      refine lv_iload_n hx hb dL_law_1323 rfl (lv_at hl 0 rfl) ?_
      refine lv_iconst (v := 2) hx hb dL_law_1324 (by decide) ?_
      refine lv_iadd hx hb dL_law_1325 ?_
      refine lv_topi (fun jv71 ejv71 => ?_)
      obtain rfl : jv3 = jv71 := ejv3.trans ejv71.symm
      refine va_sld hx hb hX hbl hbA hS (sl_in (c := 2) ejv3 (by decide) (by decide) hi hL) dL_law_1326 ?_
      refine lv_topi (fun av72 eav72 => ?_)
      obtain rfl : av4 = av72 := eav4.trans eav72.symm
      refine lv_aload_n hx hb dL_law_1327 rfl (lv_at hl 3 rfl) ?_
      refine lv_iload_n hx hb dL_law_1328 rfl (lv_at hl 0 rfl) ?_
      refine lv_iconst (v := 3) hx hb dL_law_1329 (by decide) ?_
      refine lv_iadd hx hb dL_law_1330 ?_
      refine lv_topi (fun jv73 ejv73 => ?_)
      obtain rfl : jv5 = jv73 := ejv5.trans ejv73.symm
      refine va_sld hx hb hX hbl hbA hS (sl_in (c := 3) ejv5 (by decide) (by decide) hi hL) dL_law_1331 ?_
      refine lv_topi (fun av74 eav74 => ?_)
      obtain rfl : av6 = av74 := eav6.trans eav74.symm
      refine lv_aload_n hx hb dL_law_1332 rfl (lv_at hl 3 rfl) ?_
      refine lv_iload_n hx hb dL_law_1333 rfl (lv_at hl 0 rfl) ?_
      refine lv_iconst (v := 4) hx hb dL_law_1334 (by decide) ?_
      refine lv_iadd hx hb dL_law_1335 ?_
      refine lv_topi (fun jv75 ejv75 => ?_)
      obtain rfl : jv7 = jv75 := ejv7.trans ejv75.symm
      refine va_sld hx hb hX hbl hbA hS (sl_in (c := 4) ejv7 (by decide) (by decide) hi hL) dL_law_1336 ?_
      refine lv_topi (fun av76 eav76 => ?_)
      obtain rfl : av8 = av76 := eav8.trans eav76.symm
      refine lv_aload_n hx hb dL_law_1337 rfl (lv_at hl 3 rfl) ?_
      refine lv_iload_n hx hb dL_law_1338 rfl (lv_at hl 0 rfl) ?_
      refine lv_iconst (v := 5) hx hb dL_law_1339 (by decide) ?_
      refine lv_iadd hx hb dL_law_1340 ?_
      refine lv_topi (fun jv77 ejv77 => ?_)
      obtain rfl : jv9 = jv77 := ejv9.trans ejv77.symm
      refine va_sld hx hb hX hbl hbA hS (sl_in (c := 5) ejv9 (by decide) (by decide) hi hL) dL_law_1341 ?_
      refine lv_topi (fun av78 eav78 => ?_)
      obtain rfl : av10 = av78 := eav10.trans eav78.symm
      refine cx_spasteMTlo (ob := q) (a1 := 0) (a2 := av4) (a3 := av6) (a4 := av8) (a5 := av10) (rest := [.int an67]) C1 (by decide) hav6 hM hP hD hS hl.1 (Nat.le_of_ble_eq_true rfl) ⟨by omega, by omega⟩ dL_law_1342 (fun an79 w80  H locs hq2 hM hP hD hS => ?_)
      have hP := P_perm (List.perm_append_comm_assoc w80 w68 tl) hP
      have hD := D_perm (List.perm_append_comm_assoc w80 w68 tl) hD
      have hEQ : an67 = an79 := by
        have u2 : Int32.toInt (-2) = -2 := by decide
        have u3 : Int32.toInt (-3) = -3 := by decide
        have u6 : Int32.toInt (-6) = -6 := by decide
        have u7 : Int32.toInt (-7) = -7 := by decide
        have u8 : Int32.toInt (-8) = -8 := by decide
        have u0 : Int32.toInt 0 = 0 := by decide
        apply Int32.toInt_inj.mp
        unfold sR at r1 r2 r3 r4
        rcases hq with ⟨rfl, hz⟩ <;> rcases hq2 with ⟨rfl, hz⟩ <;> first | rfl | omega
      subst hEQ
      refine lv_icmp_eq (tgt := 1350) hx hb dL_law_1345 (by decide) (fun _ => ?_) (fun c9 => absurd rfl c9)
      exact K _ _ _ _ ⟨w68, w80, tl, ts, fl0, wi0, sz0, fl1, wi1, sz1, fl2, wi2, sz2, fl3, wi3, sz3, f, ta, fm, fw, fh, hB, hM, hI, ⟨r0, r1, r2, r3, r4, i0, i1, i2⟩, hP, hD, hS, hl, by omega, by omega⟩
    · have hav6 := h9
      refine cx_spasteThi (ob := x) (a1 := 0) (a2 := av4) (a3 := av6) (a4 := av8) (a5 := av10) (rest := []) C1 (by decide) hav6 hB hP hD hS hl.1 (Nat.le_of_ble_eq_true rfl) ⟨by omega, by omega⟩ dL_law_1313 (fun an81 w82  H locs hq hB hP hD hS => ?_)
      have hP := P_perm (List.perm_append_comm_assoc w82 wm tl) hP
      have hD := D_perm (List.perm_append_comm_assoc w82 wm tl) hD
      refine lv_aload_n hx hb dL_law_1316 rfl (lv_at hl 1 rfl) ?_
      refine lv_aload_n hx hb dL_law_1317 rfl (lv_at hl 3 rfl) ?_
      refine lv_iload_n hx hb dL_law_1318 rfl (lv_at hl 0 rfl) ?_
      refine lv_iconst (v := 1) hx hb dL_law_1319 (by decide) ?_
      refine lv_iadd hx hb dL_law_1320 ?_
      refine lv_topi (fun jv83 ejv83 => ?_)
      obtain rfl : jv1 = jv83 := ejv1.trans ejv83.symm
      refine va_sld hx hb hX hbl hbA hS (sl_in (c := 1) ejv1 (by decide) (by decide) hi hL) dL_law_1321 ?_
      refine lv_topi (fun av84 eav84 => ?_)
      obtain rfl : 0 = av84 := eav2.trans eav84.symm
      refine lv_aload_n hx hb dL_law_1322 rfl (lv_at hl 3 rfl) ?_
      refine lv_iload_n hx hb dL_law_1323 rfl (lv_at hl 0 rfl) ?_
      refine lv_iconst (v := 2) hx hb dL_law_1324 (by decide) ?_
      refine lv_iadd hx hb dL_law_1325 ?_
      refine lv_topi (fun jv85 ejv85 => ?_)
      obtain rfl : jv3 = jv85 := ejv3.trans ejv85.symm
      refine va_sld hx hb hX hbl hbA hS (sl_in (c := 2) ejv3 (by decide) (by decide) hi hL) dL_law_1326 ?_
      refine lv_topi (fun av86 eav86 => ?_)
      obtain rfl : av4 = av86 := eav4.trans eav86.symm
      refine lv_aload_n hx hb dL_law_1327 rfl (lv_at hl 3 rfl) ?_
      refine lv_iload_n hx hb dL_law_1328 rfl (lv_at hl 0 rfl) ?_
      refine lv_iconst (v := 3) hx hb dL_law_1329 (by decide) ?_
      refine lv_iadd hx hb dL_law_1330 ?_
      refine lv_topi (fun jv87 ejv87 => ?_)
      obtain rfl : jv5 = jv87 := ejv5.trans ejv87.symm
      refine va_sld hx hb hX hbl hbA hS (sl_in (c := 3) ejv5 (by decide) (by decide) hi hL) dL_law_1331 ?_
      refine lv_topi (fun av88 eav88 => ?_)
      obtain rfl : av6 = av88 := eav6.trans eav88.symm
      refine lv_aload_n hx hb dL_law_1332 rfl (lv_at hl 3 rfl) ?_
      refine lv_iload_n hx hb dL_law_1333 rfl (lv_at hl 0 rfl) ?_
      refine lv_iconst (v := 4) hx hb dL_law_1334 (by decide) ?_
      refine lv_iadd hx hb dL_law_1335 ?_
      refine lv_topi (fun jv89 ejv89 => ?_)
      obtain rfl : jv7 = jv89 := ejv7.trans ejv89.symm
      refine va_sld hx hb hX hbl hbA hS (sl_in (c := 4) ejv7 (by decide) (by decide) hi hL) dL_law_1336 ?_
      refine lv_topi (fun av90 eav90 => ?_)
      obtain rfl : av8 = av90 := eav8.trans eav90.symm
      refine lv_aload_n hx hb dL_law_1337 rfl (lv_at hl 3 rfl) ?_
      refine lv_iload_n hx hb dL_law_1338 rfl (lv_at hl 0 rfl) ?_
      refine lv_iconst (v := 5) hx hb dL_law_1339 (by decide) ?_
      refine lv_iadd hx hb dL_law_1340 ?_
      refine lv_topi (fun jv91 ejv91 => ?_)
      obtain rfl : jv9 = jv91 := ejv9.trans ejv91.symm
      refine va_sld hx hb hX hbl hbA hS (sl_in (c := 5) ejv9 (by decide) (by decide) hi hL) dL_law_1341 ?_
      refine lv_topi (fun av92 eav92 => ?_)
      obtain rfl : av10 = av92 := eav10.trans eav92.symm
      refine cx_spasteMThi (ob := q) (a1 := 0) (a2 := av4) (a3 := av6) (a4 := av8) (a5 := av10) (rest := [.int an81]) C1 (by decide) hav6 hM hP hD hS hl.1 (Nat.le_of_ble_eq_true rfl) ⟨by omega, by omega⟩ dL_law_1342 (fun an93 w94  H locs hq2 hM hP hD hS => ?_)
      have hP := P_perm (List.perm_append_comm_assoc w94 w82 tl) hP
      have hD := D_perm (List.perm_append_comm_assoc w94 w82 tl) hD
      have hEQ : an81 = an93 := by
        have u2 : Int32.toInt (-2) = -2 := by decide
        have u3 : Int32.toInt (-3) = -3 := by decide
        have u6 : Int32.toInt (-6) = -6 := by decide
        have u7 : Int32.toInt (-7) = -7 := by decide
        have u8 : Int32.toInt (-8) = -8 := by decide
        have u0 : Int32.toInt 0 = 0 := by decide
        apply Int32.toInt_inj.mp
        unfold sR at r1 r2 r3 r4
        rcases hq with ⟨rfl, hz⟩ <;> rcases hq2 with ⟨rfl, hz⟩ <;> first | rfl | omega
      subst hEQ
      refine lv_icmp_eq (tgt := 1350) hx hb dL_law_1345 (by decide) (fun _ => ?_) (fun c9 => absurd rfl c9)
      exact K _ _ _ _ ⟨w82, w94, tl, ts, fl0, wi0, sz0, fl1, wi1, sz1, fl2, wi2, sz2, fl3, wi3, sz3, f, ta, fm, fw, fh, hB, hM, hI, ⟨r0, r1, r2, r3, r4, i0, i1, i2⟩, hP, hD, hS, hl, by omega, by omega⟩
  · obtain rfl : 1 = av2 := h9.symm
    rcases so_cases av6 with h9 | h9 | h9 | h9 | h9 | h9
    · obtain rfl : 0 = av6 := h9.symm
      refine cx_fpaste10 (ob := x) (a2 := av4) (a4 := av8) (a5 := av10) (rest := []) C1  hB hP hD hS hl.1 (Nat.le_of_ble_eq_true rfl) ⟨by omega, by omega⟩ dL_law_1313 (fun an95 w96  H locs hq hB hP hD hS => ?_)
      have hP := P_perm (List.perm_append_comm_assoc w96 wm tl) hP
      have hD := D_perm (List.perm_append_comm_assoc w96 wm tl) hD
      refine lv_aload_n hx hb dL_law_1316 rfl (lv_at hl 1 rfl) ?_
      refine lv_aload_n hx hb dL_law_1317 rfl (lv_at hl 3 rfl) ?_
      refine lv_iload_n hx hb dL_law_1318 rfl (lv_at hl 0 rfl) ?_
      refine lv_iconst (v := 1) hx hb dL_law_1319 (by decide) ?_
      refine lv_iadd hx hb dL_law_1320 ?_
      refine lv_topi (fun jv97 ejv97 => ?_)
      obtain rfl : jv1 = jv97 := ejv1.trans ejv97.symm
      refine va_sld hx hb hX hbl hbA hS (sl_in (c := 1) ejv1 (by decide) (by decide) hi hL) dL_law_1321 ?_
      refine lv_topi (fun av98 eav98 => ?_)
      obtain rfl : 1 = av98 := eav2.trans eav98.symm
      refine lv_aload_n hx hb dL_law_1322 rfl (lv_at hl 3 rfl) ?_
      refine lv_iload_n hx hb dL_law_1323 rfl (lv_at hl 0 rfl) ?_
      refine lv_iconst (v := 2) hx hb dL_law_1324 (by decide) ?_
      refine lv_iadd hx hb dL_law_1325 ?_
      refine lv_topi (fun jv99 ejv99 => ?_)
      obtain rfl : jv3 = jv99 := ejv3.trans ejv99.symm
      refine va_sld hx hb hX hbl hbA hS (sl_in (c := 2) ejv3 (by decide) (by decide) hi hL) dL_law_1326 ?_
      refine lv_topi (fun av100 eav100 => ?_)
      obtain rfl : av4 = av100 := eav4.trans eav100.symm
      refine lv_aload_n hx hb dL_law_1327 rfl (lv_at hl 3 rfl) ?_
      refine lv_iload_n hx hb dL_law_1328 rfl (lv_at hl 0 rfl) ?_
      refine lv_iconst (v := 3) hx hb dL_law_1329 (by decide) ?_
      refine lv_iadd hx hb dL_law_1330 ?_
      refine lv_topi (fun jv101 ejv101 => ?_)
      obtain rfl : jv5 = jv101 := ejv5.trans ejv101.symm
      refine va_sld hx hb hX hbl hbA hS (sl_in (c := 3) ejv5 (by decide) (by decide) hi hL) dL_law_1331 ?_
      refine lv_topi (fun av102 eav102 => ?_)
      obtain rfl : 0 = av102 := eav6.trans eav102.symm
      refine lv_aload_n hx hb dL_law_1332 rfl (lv_at hl 3 rfl) ?_
      refine lv_iload_n hx hb dL_law_1333 rfl (lv_at hl 0 rfl) ?_
      refine lv_iconst (v := 4) hx hb dL_law_1334 (by decide) ?_
      refine lv_iadd hx hb dL_law_1335 ?_
      refine lv_topi (fun jv103 ejv103 => ?_)
      obtain rfl : jv7 = jv103 := ejv7.trans ejv103.symm
      refine va_sld hx hb hX hbl hbA hS (sl_in (c := 4) ejv7 (by decide) (by decide) hi hL) dL_law_1336 ?_
      refine lv_topi (fun av104 eav104 => ?_)
      obtain rfl : av8 = av104 := eav8.trans eav104.symm
      refine lv_aload_n hx hb dL_law_1337 rfl (lv_at hl 3 rfl) ?_
      refine lv_iload_n hx hb dL_law_1338 rfl (lv_at hl 0 rfl) ?_
      refine lv_iconst (v := 5) hx hb dL_law_1339 (by decide) ?_
      refine lv_iadd hx hb dL_law_1340 ?_
      refine lv_topi (fun jv105 ejv105 => ?_)
      obtain rfl : jv9 = jv105 := ejv9.trans ejv105.symm
      refine va_sld hx hb hX hbl hbA hS (sl_in (c := 5) ejv9 (by decide) (by decide) hi hL) dL_law_1341 ?_
      refine lv_topi (fun av106 eav106 => ?_)
      obtain rfl : av10 = av106 := eav10.trans eav106.symm
      refine cx_fpasteM10 (ob := q) (a2 := av4) (a4 := av8) (a5 := av10) (rest := [.int an95]) C1  hM hP hD hS hl.1 (Nat.le_of_ble_eq_true rfl) ⟨by omega, by omega⟩ dL_law_1342 (fun an107 w108  H locs hq2 hM hP hD hS => ?_)
      have hP := P_perm (List.perm_append_comm_assoc w108 w96 tl) hP
      have hD := D_perm (List.perm_append_comm_assoc w108 w96 tl) hD
      have hEQ : an95 = an107 := by
        have u2 : Int32.toInt (-2) = -2 := by decide
        have u3 : Int32.toInt (-3) = -3 := by decide
        have u6 : Int32.toInt (-6) = -6 := by decide
        have u7 : Int32.toInt (-7) = -7 := by decide
        have u8 : Int32.toInt (-8) = -8 := by decide
        have u0 : Int32.toInt 0 = 0 := by decide
        apply Int32.toInt_inj.mp
        unfold sR at r1 r2 r3 r4
        rcases hq with ⟨rfl, hz⟩ | ⟨rfl, hz⟩ | ⟨rfl, hz⟩ | ⟨rfl, hz⟩ <;> rcases hq2 with ⟨rfl, hz⟩ | ⟨rfl, hz⟩ | ⟨rfl, hz⟩ | ⟨rfl, hz⟩ <;> first | rfl | omega
      subst hEQ
      refine lv_icmp_eq (tgt := 1350) hx hb dL_law_1345 (by decide) (fun _ => ?_) (fun c9 => absurd rfl c9)
      exact K _ _ _ _ ⟨w96, w108, tl, ts, fl0, wi0, sz0, fl1, wi1, sz1, fl2, wi2, sz2, fl3, wi3, sz3, f, ta, fm, fw, fh, hB, hM, hI, ⟨r0, r1, r2, r3, r4, i0, i1, i2⟩, hP, hD, hS, hl, by omega, by omega⟩
    · obtain rfl : 1 = av6 := h9.symm
      refine cx_fpaste11 (ob := x) (a2 := av4) (a4 := av8) (a5 := av10) (rest := []) C1  hB hP hD hS hl.1 (Nat.le_of_ble_eq_true rfl) ⟨by omega, by omega⟩ dL_law_1313 (fun an109 w110  H locs hq hB hP hD hS => ?_)
      have hP := P_perm (List.perm_append_comm_assoc w110 wm tl) hP
      have hD := D_perm (List.perm_append_comm_assoc w110 wm tl) hD
      refine lv_aload_n hx hb dL_law_1316 rfl (lv_at hl 1 rfl) ?_
      refine lv_aload_n hx hb dL_law_1317 rfl (lv_at hl 3 rfl) ?_
      refine lv_iload_n hx hb dL_law_1318 rfl (lv_at hl 0 rfl) ?_
      refine lv_iconst (v := 1) hx hb dL_law_1319 (by decide) ?_
      refine lv_iadd hx hb dL_law_1320 ?_
      refine lv_topi (fun jv111 ejv111 => ?_)
      obtain rfl : jv1 = jv111 := ejv1.trans ejv111.symm
      refine va_sld hx hb hX hbl hbA hS (sl_in (c := 1) ejv1 (by decide) (by decide) hi hL) dL_law_1321 ?_
      refine lv_topi (fun av112 eav112 => ?_)
      obtain rfl : 1 = av112 := eav2.trans eav112.symm
      refine lv_aload_n hx hb dL_law_1322 rfl (lv_at hl 3 rfl) ?_
      refine lv_iload_n hx hb dL_law_1323 rfl (lv_at hl 0 rfl) ?_
      refine lv_iconst (v := 2) hx hb dL_law_1324 (by decide) ?_
      refine lv_iadd hx hb dL_law_1325 ?_
      refine lv_topi (fun jv113 ejv113 => ?_)
      obtain rfl : jv3 = jv113 := ejv3.trans ejv113.symm
      refine va_sld hx hb hX hbl hbA hS (sl_in (c := 2) ejv3 (by decide) (by decide) hi hL) dL_law_1326 ?_
      refine lv_topi (fun av114 eav114 => ?_)
      obtain rfl : av4 = av114 := eav4.trans eav114.symm
      refine lv_aload_n hx hb dL_law_1327 rfl (lv_at hl 3 rfl) ?_
      refine lv_iload_n hx hb dL_law_1328 rfl (lv_at hl 0 rfl) ?_
      refine lv_iconst (v := 3) hx hb dL_law_1329 (by decide) ?_
      refine lv_iadd hx hb dL_law_1330 ?_
      refine lv_topi (fun jv115 ejv115 => ?_)
      obtain rfl : jv5 = jv115 := ejv5.trans ejv115.symm
      refine va_sld hx hb hX hbl hbA hS (sl_in (c := 3) ejv5 (by decide) (by decide) hi hL) dL_law_1331 ?_
      refine lv_topi (fun av116 eav116 => ?_)
      obtain rfl : 1 = av116 := eav6.trans eav116.symm
      refine lv_aload_n hx hb dL_law_1332 rfl (lv_at hl 3 rfl) ?_
      refine lv_iload_n hx hb dL_law_1333 rfl (lv_at hl 0 rfl) ?_
      refine lv_iconst (v := 4) hx hb dL_law_1334 (by decide) ?_
      refine lv_iadd hx hb dL_law_1335 ?_
      refine lv_topi (fun jv117 ejv117 => ?_)
      obtain rfl : jv7 = jv117 := ejv7.trans ejv117.symm
      refine va_sld hx hb hX hbl hbA hS (sl_in (c := 4) ejv7 (by decide) (by decide) hi hL) dL_law_1336 ?_
      refine lv_topi (fun av118 eav118 => ?_)
      obtain rfl : av8 = av118 := eav8.trans eav118.symm
      refine lv_aload_n hx hb dL_law_1337 rfl (lv_at hl 3 rfl) ?_
      refine lv_iload_n hx hb dL_law_1338 rfl (lv_at hl 0 rfl) ?_
      refine lv_iconst (v := 5) hx hb dL_law_1339 (by decide) ?_
      refine lv_iadd hx hb dL_law_1340 ?_
      refine lv_topi (fun jv119 ejv119 => ?_)
      obtain rfl : jv9 = jv119 := ejv9.trans ejv119.symm
      refine va_sld hx hb hX hbl hbA hS (sl_in (c := 5) ejv9 (by decide) (by decide) hi hL) dL_law_1341 ?_
      refine lv_topi (fun av120 eav120 => ?_)
      obtain rfl : av10 = av120 := eav10.trans eav120.symm
      refine cx_fpasteM11 (ob := q) (a2 := av4) (a4 := av8) (a5 := av10) (rest := [.int an109]) C1  hM hP hD hS hl.1 (Nat.le_of_ble_eq_true rfl) ⟨by omega, by omega⟩ dL_law_1342 (fun an121 w122  H locs hq2 hM hP hD hS => ?_)
      have hP := P_perm (List.perm_append_comm_assoc w122 w110 tl) hP
      have hD := D_perm (List.perm_append_comm_assoc w122 w110 tl) hD
      have hEQ : an109 = an121 := by
        have u2 : Int32.toInt (-2) = -2 := by decide
        have u3 : Int32.toInt (-3) = -3 := by decide
        have u6 : Int32.toInt (-6) = -6 := by decide
        have u7 : Int32.toInt (-7) = -7 := by decide
        have u8 : Int32.toInt (-8) = -8 := by decide
        have u0 : Int32.toInt 0 = 0 := by decide
        apply Int32.toInt_inj.mp
        unfold sR at r1 r2 r3 r4
        rcases hq with ⟨rfl, hz⟩ | ⟨rfl, hz⟩ | ⟨rfl, hz⟩ <;> rcases hq2 with ⟨rfl, hz⟩ | ⟨rfl, hz⟩ | ⟨rfl, hz⟩ <;> first | rfl | omega
      subst hEQ
      refine lv_icmp_eq (tgt := 1350) hx hb dL_law_1345 (by decide) (fun _ => ?_) (fun c9 => absurd rfl c9)
      exact K _ _ _ _ ⟨w110, w122, tl, ts, fl0, wi0, sz0, fl1, wi1, sz1, fl2, wi2, sz2, fl3, wi3, sz3, f, ta, fm, fw, fh, hB, hM, hI, ⟨r0, r1, r2, r3, r4, i0, i1, i2⟩, hP, hD, hS, hl, by omega, by omega⟩
    · obtain rfl : 2 = av6 := h9.symm
      refine cx_fpaste12 (ob := x) (a2 := av4) (a4 := av8) (a5 := av10) (rest := []) C1  hB hP hD hS hl.1 (Nat.le_of_ble_eq_true rfl) ⟨by omega, by omega⟩ dL_law_1313 (fun an123 w124  H locs hq hB hP hD hS => ?_)
      have hP := P_perm (List.perm_append_comm_assoc w124 wm tl) hP
      have hD := D_perm (List.perm_append_comm_assoc w124 wm tl) hD
      refine lv_aload_n hx hb dL_law_1316 rfl (lv_at hl 1 rfl) ?_
      refine lv_aload_n hx hb dL_law_1317 rfl (lv_at hl 3 rfl) ?_
      refine lv_iload_n hx hb dL_law_1318 rfl (lv_at hl 0 rfl) ?_
      refine lv_iconst (v := 1) hx hb dL_law_1319 (by decide) ?_
      refine lv_iadd hx hb dL_law_1320 ?_
      refine lv_topi (fun jv125 ejv125 => ?_)
      obtain rfl : jv1 = jv125 := ejv1.trans ejv125.symm
      refine va_sld hx hb hX hbl hbA hS (sl_in (c := 1) ejv1 (by decide) (by decide) hi hL) dL_law_1321 ?_
      refine lv_topi (fun av126 eav126 => ?_)
      obtain rfl : 1 = av126 := eav2.trans eav126.symm
      refine lv_aload_n hx hb dL_law_1322 rfl (lv_at hl 3 rfl) ?_
      refine lv_iload_n hx hb dL_law_1323 rfl (lv_at hl 0 rfl) ?_
      refine lv_iconst (v := 2) hx hb dL_law_1324 (by decide) ?_
      refine lv_iadd hx hb dL_law_1325 ?_
      refine lv_topi (fun jv127 ejv127 => ?_)
      obtain rfl : jv3 = jv127 := ejv3.trans ejv127.symm
      refine va_sld hx hb hX hbl hbA hS (sl_in (c := 2) ejv3 (by decide) (by decide) hi hL) dL_law_1326 ?_
      refine lv_topi (fun av128 eav128 => ?_)
      obtain rfl : av4 = av128 := eav4.trans eav128.symm
      refine lv_aload_n hx hb dL_law_1327 rfl (lv_at hl 3 rfl) ?_
      refine lv_iload_n hx hb dL_law_1328 rfl (lv_at hl 0 rfl) ?_
      refine lv_iconst (v := 3) hx hb dL_law_1329 (by decide) ?_
      refine lv_iadd hx hb dL_law_1330 ?_
      refine lv_topi (fun jv129 ejv129 => ?_)
      obtain rfl : jv5 = jv129 := ejv5.trans ejv129.symm
      refine va_sld hx hb hX hbl hbA hS (sl_in (c := 3) ejv5 (by decide) (by decide) hi hL) dL_law_1331 ?_
      refine lv_topi (fun av130 eav130 => ?_)
      obtain rfl : 2 = av130 := eav6.trans eav130.symm
      refine lv_aload_n hx hb dL_law_1332 rfl (lv_at hl 3 rfl) ?_
      refine lv_iload_n hx hb dL_law_1333 rfl (lv_at hl 0 rfl) ?_
      refine lv_iconst (v := 4) hx hb dL_law_1334 (by decide) ?_
      refine lv_iadd hx hb dL_law_1335 ?_
      refine lv_topi (fun jv131 ejv131 => ?_)
      obtain rfl : jv7 = jv131 := ejv7.trans ejv131.symm
      refine va_sld hx hb hX hbl hbA hS (sl_in (c := 4) ejv7 (by decide) (by decide) hi hL) dL_law_1336 ?_
      refine lv_topi (fun av132 eav132 => ?_)
      obtain rfl : av8 = av132 := eav8.trans eav132.symm
      refine lv_aload_n hx hb dL_law_1337 rfl (lv_at hl 3 rfl) ?_
      refine lv_iload_n hx hb dL_law_1338 rfl (lv_at hl 0 rfl) ?_
      refine lv_iconst (v := 5) hx hb dL_law_1339 (by decide) ?_
      refine lv_iadd hx hb dL_law_1340 ?_
      refine lv_topi (fun jv133 ejv133 => ?_)
      obtain rfl : jv9 = jv133 := ejv9.trans ejv133.symm
      refine va_sld hx hb hX hbl hbA hS (sl_in (c := 5) ejv9 (by decide) (by decide) hi hL) dL_law_1341 ?_
      refine lv_topi (fun av134 eav134 => ?_)
      obtain rfl : av10 = av134 := eav10.trans eav134.symm
      refine cx_fpasteM12 (ob := q) (a2 := av4) (a4 := av8) (a5 := av10) (rest := [.int an123]) C1  hM hP hD hS hl.1 (Nat.le_of_ble_eq_true rfl) ⟨by omega, by omega⟩ dL_law_1342 (fun an135 w136  H locs hq2 hM hP hD hS => ?_)
      have hP := P_perm (List.perm_append_comm_assoc w136 w124 tl) hP
      have hD := D_perm (List.perm_append_comm_assoc w136 w124 tl) hD
      have hEQ : an123 = an135 := by
        have u2 : Int32.toInt (-2) = -2 := by decide
        have u3 : Int32.toInt (-3) = -3 := by decide
        have u6 : Int32.toInt (-6) = -6 := by decide
        have u7 : Int32.toInt (-7) = -7 := by decide
        have u8 : Int32.toInt (-8) = -8 := by decide
        have u0 : Int32.toInt 0 = 0 := by decide
        apply Int32.toInt_inj.mp
        unfold sR at r1 r2 r3 r4
        rcases hq with ⟨rfl, hz⟩ | ⟨rfl, hz⟩ | ⟨rfl, hz⟩ | ⟨rfl, hz⟩ <;> rcases hq2 with ⟨rfl, hz⟩ | ⟨rfl, hz⟩ | ⟨rfl, hz⟩ | ⟨rfl, hz⟩ <;> first | rfl | omega
      subst hEQ
      refine lv_icmp_eq (tgt := 1350) hx hb dL_law_1345 (by decide) (fun _ => ?_) (fun c9 => absurd rfl c9)
      exact K _ _ _ _ ⟨w124, w136, tl, ts, fl0, wi0, sz0, fl1, wi1, sz1, fl2, wi2, sz2, fl3, wi3, sz3, f, ta, fm, fw, fh, hB, hM, hI, ⟨r0, r1, r2, r3, r4, i0, i1, i2⟩, hP, hD, hS, hl, by omega, by omega⟩
    · obtain rfl : 3 = av6 := h9.symm
      refine cx_fpaste13 (ob := x) (a2 := av4) (a4 := av8) (a5 := av10) (rest := []) C1  hB hP hD hS hl.1 (Nat.le_of_ble_eq_true rfl) ⟨by omega, by omega⟩ dL_law_1313 (fun an137 w138  H locs hq hB hP hD hS => ?_)
      have hP := P_perm (List.perm_append_comm_assoc w138 wm tl) hP
      have hD := D_perm (List.perm_append_comm_assoc w138 wm tl) hD
      refine lv_aload_n hx hb dL_law_1316 rfl (lv_at hl 1 rfl) ?_
      refine lv_aload_n hx hb dL_law_1317 rfl (lv_at hl 3 rfl) ?_
      refine lv_iload_n hx hb dL_law_1318 rfl (lv_at hl 0 rfl) ?_
      refine lv_iconst (v := 1) hx hb dL_law_1319 (by decide) ?_
      refine lv_iadd hx hb dL_law_1320 ?_
      refine lv_topi (fun jv139 ejv139 => ?_)
      obtain rfl : jv1 = jv139 := ejv1.trans ejv139.symm
      refine va_sld hx hb hX hbl hbA hS (sl_in (c := 1) ejv1 (by decide) (by decide) hi hL) dL_law_1321 ?_
      refine lv_topi (fun av140 eav140 => ?_)
      obtain rfl : 1 = av140 := eav2.trans eav140.symm
      refine lv_aload_n hx hb dL_law_1322 rfl (lv_at hl 3 rfl) ?_
      refine lv_iload_n hx hb dL_law_1323 rfl (lv_at hl 0 rfl) ?_
      refine lv_iconst (v := 2) hx hb dL_law_1324 (by decide) ?_
      refine lv_iadd hx hb dL_law_1325 ?_
      refine lv_topi (fun jv141 ejv141 => ?_)
      obtain rfl : jv3 = jv141 := ejv3.trans ejv141.symm
      refine va_sld hx hb hX hbl hbA hS (sl_in (c := 2) ejv3 (by decide) (by decide) hi hL) dL_law_1326 ?_
      refine lv_topi (fun av142 eav142 => ?_)
      obtain rfl : av4 = av142 := eav4.trans eav142.symm
      refine lv_aload_n hx hb dL_law_1327 rfl (lv_at hl 3 rfl) ?_
      refine lv_iload_n hx hb dL_law_1328 rfl (lv_at hl 0 rfl) ?_
      refine lv_iconst (v := 3) hx hb dL_law_1329 (by decide) ?_
      refine lv_iadd hx hb dL_law_1330 ?_
      refine lv_topi (fun jv143 ejv143 => ?_)
      obtain rfl : jv5 = jv143 := ejv5.trans ejv143.symm
      refine va_sld hx hb hX hbl hbA hS (sl_in (c := 3) ejv5 (by decide) (by decide) hi hL) dL_law_1331 ?_
      refine lv_topi (fun av144 eav144 => ?_)
      obtain rfl : 3 = av144 := eav6.trans eav144.symm
      refine lv_aload_n hx hb dL_law_1332 rfl (lv_at hl 3 rfl) ?_
      refine lv_iload_n hx hb dL_law_1333 rfl (lv_at hl 0 rfl) ?_
      refine lv_iconst (v := 4) hx hb dL_law_1334 (by decide) ?_
      refine lv_iadd hx hb dL_law_1335 ?_
      refine lv_topi (fun jv145 ejv145 => ?_)
      obtain rfl : jv7 = jv145 := ejv7.trans ejv145.symm
      refine va_sld hx hb hX hbl hbA hS (sl_in (c := 4) ejv7 (by decide) (by decide) hi hL) dL_law_1336 ?_
      refine lv_topi (fun av146 eav146 => ?_)
      obtain rfl : av8 = av146 := eav8.trans eav146.symm
      refine lv_aload_n hx hb dL_law_1337 rfl (lv_at hl 3 rfl) ?_
      refine lv_iload_n hx hb dL_law_1338 rfl (lv_at hl 0 rfl) ?_
      refine lv_iconst (v := 5) hx hb dL_law_1339 (by decide) ?_
      refine lv_iadd hx hb dL_law_1340 ?_
      refine lv_topi (fun jv147 ejv147 => ?_)
      obtain rfl : jv9 = jv147 := ejv9.trans ejv147.symm
      refine va_sld hx hb hX hbl hbA hS (sl_in (c := 5) ejv9 (by decide) (by decide) hi hL) dL_law_1341 ?_
      refine lv_topi (fun av148 eav148 => ?_)
      obtain rfl : av10 = av148 := eav10.trans eav148.symm
      refine cx_fpasteM13 (ob := q) (a2 := av4) (a4 := av8) (a5 := av10) (rest := [.int an137]) C1  hM hP hD hS hl.1 (Nat.le_of_ble_eq_true rfl) ⟨by omega, by omega⟩ dL_law_1342 (fun an149 w150  H locs hq2 hM hP hD hS => ?_)
      have hP := P_perm (List.perm_append_comm_assoc w150 w138 tl) hP
      have hD := D_perm (List.perm_append_comm_assoc w150 w138 tl) hD
      have hEQ : an137 = an149 := by
        have u2 : Int32.toInt (-2) = -2 := by decide
        have u3 : Int32.toInt (-3) = -3 := by decide
        have u6 : Int32.toInt (-6) = -6 := by decide
        have u7 : Int32.toInt (-7) = -7 := by decide
        have u8 : Int32.toInt (-8) = -8 := by decide
        have u0 : Int32.toInt 0 = 0 := by decide
        apply Int32.toInt_inj.mp
        unfold sR at r1 r2 r3 r4
        rcases hq with ⟨rfl, hz⟩ | ⟨rfl, hz⟩ | ⟨rfl, hz⟩ | ⟨rfl, hz⟩ <;> rcases hq2 with ⟨rfl, hz⟩ | ⟨rfl, hz⟩ | ⟨rfl, hz⟩ | ⟨rfl, hz⟩ <;> first | rfl | omega
      subst hEQ
      refine lv_icmp_eq (tgt := 1350) hx hb dL_law_1345 (by decide) (fun _ => ?_) (fun c9 => absurd rfl c9)
      exact K _ _ _ _ ⟨w138, w150, tl, ts, fl0, wi0, sz0, fl1, wi1, sz1, fl2, wi2, sz2, fl3, wi3, sz3, f, ta, fm, fw, fh, hB, hM, hI, ⟨r0, r1, r2, r3, r4, i0, i1, i2⟩, hP, hD, hS, hl, by omega, by omega⟩
    · have hav6 := h9
      refine cx_spasteTlo (ob := x) (a1 := 1) (a2 := av4) (a3 := av6) (a4 := av8) (a5 := av10) (rest := []) C1 (by decide) hav6 hB hP hD hS hl.1 (Nat.le_of_ble_eq_true rfl) ⟨by omega, by omega⟩ dL_law_1313 (fun an151 w152  H locs hq hB hP hD hS => ?_)
      have hP := P_perm (List.perm_append_comm_assoc w152 wm tl) hP
      have hD := D_perm (List.perm_append_comm_assoc w152 wm tl) hD
      refine lv_aload_n hx hb dL_law_1316 rfl (lv_at hl 1 rfl) ?_
      refine lv_aload_n hx hb dL_law_1317 rfl (lv_at hl 3 rfl) ?_
      refine lv_iload_n hx hb dL_law_1318 rfl (lv_at hl 0 rfl) ?_
      refine lv_iconst (v := 1) hx hb dL_law_1319 (by decide) ?_
      refine lv_iadd hx hb dL_law_1320 ?_
      refine lv_topi (fun jv153 ejv153 => ?_)
      obtain rfl : jv1 = jv153 := ejv1.trans ejv153.symm
      refine va_sld hx hb hX hbl hbA hS (sl_in (c := 1) ejv1 (by decide) (by decide) hi hL) dL_law_1321 ?_
      refine lv_topi (fun av154 eav154 => ?_)
      obtain rfl : 1 = av154 := eav2.trans eav154.symm
      refine lv_aload_n hx hb dL_law_1322 rfl (lv_at hl 3 rfl) ?_
      refine lv_iload_n hx hb dL_law_1323 rfl (lv_at hl 0 rfl) ?_
      refine lv_iconst (v := 2) hx hb dL_law_1324 (by decide) ?_
      refine lv_iadd hx hb dL_law_1325 ?_
      refine lv_topi (fun jv155 ejv155 => ?_)
      obtain rfl : jv3 = jv155 := ejv3.trans ejv155.symm
      refine va_sld hx hb hX hbl hbA hS (sl_in (c := 2) ejv3 (by decide) (by decide) hi hL) dL_law_1326 ?_
      refine lv_topi (fun av156 eav156 => ?_)
      obtain rfl : av4 = av156 := eav4.trans eav156.symm
      refine lv_aload_n hx hb dL_law_1327 rfl (lv_at hl 3 rfl) ?_
      refine lv_iload_n hx hb dL_law_1328 rfl (lv_at hl 0 rfl) ?_
      refine lv_iconst (v := 3) hx hb dL_law_1329 (by decide) ?_
      refine lv_iadd hx hb dL_law_1330 ?_
      refine lv_topi (fun jv157 ejv157 => ?_)
      obtain rfl : jv5 = jv157 := ejv5.trans ejv157.symm
      refine va_sld hx hb hX hbl hbA hS (sl_in (c := 3) ejv5 (by decide) (by decide) hi hL) dL_law_1331 ?_
      refine lv_topi (fun av158 eav158 => ?_)
      obtain rfl : av6 = av158 := eav6.trans eav158.symm
      refine lv_aload_n hx hb dL_law_1332 rfl (lv_at hl 3 rfl) ?_
      refine lv_iload_n hx hb dL_law_1333 rfl (lv_at hl 0 rfl) ?_
      refine lv_iconst (v := 4) hx hb dL_law_1334 (by decide) ?_
      refine lv_iadd hx hb dL_law_1335 ?_
      refine lv_topi (fun jv159 ejv159 => ?_)
      obtain rfl : jv7 = jv159 := ejv7.trans ejv159.symm
      refine va_sld hx hb hX hbl hbA hS (sl_in (c := 4) ejv7 (by decide) (by decide) hi hL) dL_law_1336 ?_
      refine lv_topi (fun av160 eav160 => ?_)
      obtain rfl : av8 = av160 := eav8.trans eav160.symm
      refine lv_aload_n hx hb dL_law_1337 rfl (lv_at hl 3 rfl) ?_
      refine lv_iload_n hx hb dL_law_1338 rfl (lv_at hl 0 rfl) ?_
      refine lv_iconst (v := 5) hx hb dL_law_1339 (by decide) ?_
      refine lv_iadd hx hb dL_law_1340 ?_
      refine lv_topi (fun jv161 ejv161 => ?_)
      obtain rfl : jv9 = jv161 := ejv9.trans ejv161.symm
      refine va_sld hx hb hX hbl hbA hS (sl_in (c := 5) ejv9 (by decide) (by decide) hi hL) dL_law_1341 ?_
      refine lv_topi (fun av162 eav162 => ?_)
      obtain rfl : av10 = av162 := eav10.trans eav162.symm
      refine cx_spasteMTlo (ob := q) (a1 := 1) (a2 := av4) (a3 := av6) (a4 := av8) (a5 := av10) (rest := [.int an151]) C1 (by decide) hav6 hM hP hD hS hl.1 (Nat.le_of_ble_eq_true rfl) ⟨by omega, by omega⟩ dL_law_1342 (fun an163 w164  H locs hq2 hM hP hD hS => ?_)
      have hP := P_perm (List.perm_append_comm_assoc w164 w152 tl) hP
      have hD := D_perm (List.perm_append_comm_assoc w164 w152 tl) hD
      have hEQ : an151 = an163 := by
        have u2 : Int32.toInt (-2) = -2 := by decide
        have u3 : Int32.toInt (-3) = -3 := by decide
        have u6 : Int32.toInt (-6) = -6 := by decide
        have u7 : Int32.toInt (-7) = -7 := by decide
        have u8 : Int32.toInt (-8) = -8 := by decide
        have u0 : Int32.toInt 0 = 0 := by decide
        apply Int32.toInt_inj.mp
        unfold sR at r1 r2 r3 r4
        rcases hq with ⟨rfl, hz⟩ <;> rcases hq2 with ⟨rfl, hz⟩ <;> first | rfl | omega
      subst hEQ
      refine lv_icmp_eq (tgt := 1350) hx hb dL_law_1345 (by decide) (fun _ => ?_) (fun c9 => absurd rfl c9)
      exact K _ _ _ _ ⟨w152, w164, tl, ts, fl0, wi0, sz0, fl1, wi1, sz1, fl2, wi2, sz2, fl3, wi3, sz3, f, ta, fm, fw, fh, hB, hM, hI, ⟨r0, r1, r2, r3, r4, i0, i1, i2⟩, hP, hD, hS, hl, by omega, by omega⟩
    · have hav6 := h9
      refine cx_spasteThi (ob := x) (a1 := 1) (a2 := av4) (a3 := av6) (a4 := av8) (a5 := av10) (rest := []) C1 (by decide) hav6 hB hP hD hS hl.1 (Nat.le_of_ble_eq_true rfl) ⟨by omega, by omega⟩ dL_law_1313 (fun an165 w166  H locs hq hB hP hD hS => ?_)
      have hP := P_perm (List.perm_append_comm_assoc w166 wm tl) hP
      have hD := D_perm (List.perm_append_comm_assoc w166 wm tl) hD
      refine lv_aload_n hx hb dL_law_1316 rfl (lv_at hl 1 rfl) ?_
      refine lv_aload_n hx hb dL_law_1317 rfl (lv_at hl 3 rfl) ?_
      refine lv_iload_n hx hb dL_law_1318 rfl (lv_at hl 0 rfl) ?_
      refine lv_iconst (v := 1) hx hb dL_law_1319 (by decide) ?_
      refine lv_iadd hx hb dL_law_1320 ?_
      refine lv_topi (fun jv167 ejv167 => ?_)
      obtain rfl : jv1 = jv167 := ejv1.trans ejv167.symm
      refine va_sld hx hb hX hbl hbA hS (sl_in (c := 1) ejv1 (by decide) (by decide) hi hL) dL_law_1321 ?_
      refine lv_topi (fun av168 eav168 => ?_)
      obtain rfl : 1 = av168 := eav2.trans eav168.symm
      refine lv_aload_n hx hb dL_law_1322 rfl (lv_at hl 3 rfl) ?_
      refine lv_iload_n hx hb dL_law_1323 rfl (lv_at hl 0 rfl) ?_
      refine lv_iconst (v := 2) hx hb dL_law_1324 (by decide) ?_
      refine lv_iadd hx hb dL_law_1325 ?_
      refine lv_topi (fun jv169 ejv169 => ?_)
      obtain rfl : jv3 = jv169 := ejv3.trans ejv169.symm
      refine va_sld hx hb hX hbl hbA hS (sl_in (c := 2) ejv3 (by decide) (by decide) hi hL) dL_law_1326 ?_
      refine lv_topi (fun av170 eav170 => ?_)
      obtain rfl : av4 = av170 := eav4.trans eav170.symm
      refine lv_aload_n hx hb dL_law_1327 rfl (lv_at hl 3 rfl) ?_
      refine lv_iload_n hx hb dL_law_1328 rfl (lv_at hl 0 rfl) ?_
      refine lv_iconst (v := 3) hx hb dL_law_1329 (by decide) ?_
      refine lv_iadd hx hb dL_law_1330 ?_
      refine lv_topi (fun jv171 ejv171 => ?_)
      obtain rfl : jv5 = jv171 := ejv5.trans ejv171.symm
      refine va_sld hx hb hX hbl hbA hS (sl_in (c := 3) ejv5 (by decide) (by decide) hi hL) dL_law_1331 ?_
      refine lv_topi (fun av172 eav172 => ?_)
      obtain rfl : av6 = av172 := eav6.trans eav172.symm
      refine lv_aload_n hx hb dL_law_1332 rfl (lv_at hl 3 rfl) ?_
      refine lv_iload_n hx hb dL_law_1333 rfl (lv_at hl 0 rfl) ?_
      refine lv_iconst (v := 4) hx hb dL_law_1334 (by decide) ?_
      refine lv_iadd hx hb dL_law_1335 ?_
      refine lv_topi (fun jv173 ejv173 => ?_)
      obtain rfl : jv7 = jv173 := ejv7.trans ejv173.symm
      refine va_sld hx hb hX hbl hbA hS (sl_in (c := 4) ejv7 (by decide) (by decide) hi hL) dL_law_1336 ?_
      refine lv_topi (fun av174 eav174 => ?_)
      obtain rfl : av8 = av174 := eav8.trans eav174.symm
      refine lv_aload_n hx hb dL_law_1337 rfl (lv_at hl 3 rfl) ?_
      refine lv_iload_n hx hb dL_law_1338 rfl (lv_at hl 0 rfl) ?_
      refine lv_iconst (v := 5) hx hb dL_law_1339 (by decide) ?_
      refine lv_iadd hx hb dL_law_1340 ?_
      refine lv_topi (fun jv175 ejv175 => ?_)
      obtain rfl : jv9 = jv175 := ejv9.trans ejv175.symm
      refine va_sld hx hb hX hbl hbA hS (sl_in (c := 5) ejv9 (by decide) (by decide) hi hL) dL_law_1341 ?_
      refine lv_topi (fun av176 eav176 => ?_)
      obtain rfl : av10 = av176 := eav10.trans eav176.symm
      refine cx_spasteMThi (ob := q) (a1 := 1) (a2 := av4) (a3 := av6) (a4 := av8) (a5 := av10) (rest := [.int an165]) C1 (by decide) hav6 hM hP hD hS hl.1 (Nat.le_of_ble_eq_true rfl) ⟨by omega, by omega⟩ dL_law_1342 (fun an177 w178  H locs hq2 hM hP hD hS => ?_)
      have hP := P_perm (List.perm_append_comm_assoc w178 w166 tl) hP
      have hD := D_perm (List.perm_append_comm_assoc w178 w166 tl) hD
      have hEQ : an165 = an177 := by
        have u2 : Int32.toInt (-2) = -2 := by decide
        have u3 : Int32.toInt (-3) = -3 := by decide
        have u6 : Int32.toInt (-6) = -6 := by decide
        have u7 : Int32.toInt (-7) = -7 := by decide
        have u8 : Int32.toInt (-8) = -8 := by decide
        have u0 : Int32.toInt 0 = 0 := by decide
        apply Int32.toInt_inj.mp
        unfold sR at r1 r2 r3 r4
        rcases hq with ⟨rfl, hz⟩ <;> rcases hq2 with ⟨rfl, hz⟩ <;> first | rfl | omega
      subst hEQ
      refine lv_icmp_eq (tgt := 1350) hx hb dL_law_1345 (by decide) (fun _ => ?_) (fun c9 => absurd rfl c9)
      exact K _ _ _ _ ⟨w166, w178, tl, ts, fl0, wi0, sz0, fl1, wi1, sz1, fl2, wi2, sz2, fl3, wi3, sz3, f, ta, fm, fw, fh, hB, hM, hI, ⟨r0, r1, r2, r3, r4, i0, i1, i2⟩, hP, hD, hS, hl, by omega, by omega⟩
  · obtain rfl : 2 = av2 := h9.symm
    rcases so_cases av6 with h9 | h9 | h9 | h9 | h9 | h9
    · obtain rfl : 0 = av6 := h9.symm
      refine cx_fpaste20 (ob := x) (a2 := av4) (a4 := av8) (a5 := av10) (rest := []) C1  hB hP hD hS hl.1 (Nat.le_of_ble_eq_true rfl) ⟨by omega, by omega⟩ dL_law_1313 (fun an179 w180  H locs hq hB hP hD hS => ?_)
      have hP := P_perm (List.perm_append_comm_assoc w180 wm tl) hP
      have hD := D_perm (List.perm_append_comm_assoc w180 wm tl) hD
      refine lv_aload_n hx hb dL_law_1316 rfl (lv_at hl 1 rfl) ?_
      refine lv_aload_n hx hb dL_law_1317 rfl (lv_at hl 3 rfl) ?_
      refine lv_iload_n hx hb dL_law_1318 rfl (lv_at hl 0 rfl) ?_
      refine lv_iconst (v := 1) hx hb dL_law_1319 (by decide) ?_
      refine lv_iadd hx hb dL_law_1320 ?_
      refine lv_topi (fun jv181 ejv181 => ?_)
      obtain rfl : jv1 = jv181 := ejv1.trans ejv181.symm
      refine va_sld hx hb hX hbl hbA hS (sl_in (c := 1) ejv1 (by decide) (by decide) hi hL) dL_law_1321 ?_
      refine lv_topi (fun av182 eav182 => ?_)
      obtain rfl : 2 = av182 := eav2.trans eav182.symm
      refine lv_aload_n hx hb dL_law_1322 rfl (lv_at hl 3 rfl) ?_
      refine lv_iload_n hx hb dL_law_1323 rfl (lv_at hl 0 rfl) ?_
      refine lv_iconst (v := 2) hx hb dL_law_1324 (by decide) ?_
      refine lv_iadd hx hb dL_law_1325 ?_
      refine lv_topi (fun jv183 ejv183 => ?_)
      obtain rfl : jv3 = jv183 := ejv3.trans ejv183.symm
      refine va_sld hx hb hX hbl hbA hS (sl_in (c := 2) ejv3 (by decide) (by decide) hi hL) dL_law_1326 ?_
      refine lv_topi (fun av184 eav184 => ?_)
      obtain rfl : av4 = av184 := eav4.trans eav184.symm
      refine lv_aload_n hx hb dL_law_1327 rfl (lv_at hl 3 rfl) ?_
      refine lv_iload_n hx hb dL_law_1328 rfl (lv_at hl 0 rfl) ?_
      refine lv_iconst (v := 3) hx hb dL_law_1329 (by decide) ?_
      refine lv_iadd hx hb dL_law_1330 ?_
      refine lv_topi (fun jv185 ejv185 => ?_)
      obtain rfl : jv5 = jv185 := ejv5.trans ejv185.symm
      refine va_sld hx hb hX hbl hbA hS (sl_in (c := 3) ejv5 (by decide) (by decide) hi hL) dL_law_1331 ?_
      refine lv_topi (fun av186 eav186 => ?_)
      obtain rfl : 0 = av186 := eav6.trans eav186.symm
      refine lv_aload_n hx hb dL_law_1332 rfl (lv_at hl 3 rfl) ?_
      refine lv_iload_n hx hb dL_law_1333 rfl (lv_at hl 0 rfl) ?_
      refine lv_iconst (v := 4) hx hb dL_law_1334 (by decide) ?_
      refine lv_iadd hx hb dL_law_1335 ?_
      refine lv_topi (fun jv187 ejv187 => ?_)
      obtain rfl : jv7 = jv187 := ejv7.trans ejv187.symm
      refine va_sld hx hb hX hbl hbA hS (sl_in (c := 4) ejv7 (by decide) (by decide) hi hL) dL_law_1336 ?_
      refine lv_topi (fun av188 eav188 => ?_)
      obtain rfl : av8 = av188 := eav8.trans eav188.symm
      refine lv_aload_n hx hb dL_law_1337 rfl (lv_at hl 3 rfl) ?_
      refine lv_iload_n hx hb dL_law_1338 rfl (lv_at hl 0 rfl) ?_
      refine lv_iconst (v := 5) hx hb dL_law_1339 (by decide) ?_
      refine lv_iadd hx hb dL_law_1340 ?_
      refine lv_topi (fun jv189 ejv189 => ?_)
      obtain rfl : jv9 = jv189 := ejv9.trans ejv189.symm
      refine va_sld hx hb hX hbl hbA hS (sl_in (c := 5) ejv9 (by decide) (by decide) hi hL) dL_law_1341 ?_
      refine lv_topi (fun av190 eav190 => ?_)
      obtain rfl : av10 = av190 := eav10.trans eav190.symm
      refine cx_fpasteM20 (ob := q) (a2 := av4) (a4 := av8) (a5 := av10) (rest := [.int an179]) C1  hM hP hD hS hl.1 (Nat.le_of_ble_eq_true rfl) ⟨by omega, by omega⟩ dL_law_1342 (fun an191 w192  H locs hq2 hM hP hD hS => ?_)
      have hP := P_perm (List.perm_append_comm_assoc w192 w180 tl) hP
      have hD := D_perm (List.perm_append_comm_assoc w192 w180 tl) hD
      have hEQ : an179 = an191 := by
        have u2 : Int32.toInt (-2) = -2 := by decide
        have u3 : Int32.toInt (-3) = -3 := by decide
        have u6 : Int32.toInt (-6) = -6 := by decide
        have u7 : Int32.toInt (-7) = -7 := by decide
        have u8 : Int32.toInt (-8) = -8 := by decide
        have u0 : Int32.toInt 0 = 0 := by decide
        apply Int32.toInt_inj.mp
        unfold sR at r1 r2 r3 r4
        rcases hq with ⟨rfl, hz⟩ | ⟨rfl, hz⟩ | ⟨rfl, hz⟩ | ⟨rfl, hz⟩ <;> rcases hq2 with ⟨rfl, hz⟩ | ⟨rfl, hz⟩ | ⟨rfl, hz⟩ | ⟨rfl, hz⟩ <;> first | rfl | omega
      subst hEQ
      refine lv_icmp_eq (tgt := 1350) hx hb dL_law_1345 (by decide) (fun _ => ?_) (fun c9 => absurd rfl c9)
      exact K _ _ _ _ ⟨w180, w192, tl, ts, fl0, wi0, sz0, fl1, wi1, sz1, fl2, wi2, sz2, fl3, wi3, sz3, f, ta, fm, fw, fh, hB, hM, hI, ⟨r0, r1, r2, r3, r4, i0, i1, i2⟩, hP, hD, hS, hl, by omega, by omega⟩
    · obtain rfl : 1 = av6 := h9.symm
      refine cx_fpaste21 (ob := x) (a2 := av4) (a4 := av8) (a5 := av10) (rest := []) C1  hB hP hD hS hl.1 (Nat.le_of_ble_eq_true rfl) ⟨by omega, by omega⟩ dL_law_1313 (fun an193 w194  H locs hq hB hP hD hS => ?_)
      have hP := P_perm (List.perm_append_comm_assoc w194 wm tl) hP
      have hD := D_perm (List.perm_append_comm_assoc w194 wm tl) hD
      refine lv_aload_n hx hb dL_law_1316 rfl (lv_at hl 1 rfl) ?_
      refine lv_aload_n hx hb dL_law_1317 rfl (lv_at hl 3 rfl) ?_
      refine lv_iload_n hx hb dL_law_1318 rfl (lv_at hl 0 rfl) ?_
      refine lv_iconst (v := 1) hx hb dL_law_1319 (by decide) ?_
      refine lv_iadd hx hb dL_law_1320 ?_
      refine lv_topi (fun jv195 ejv195 => ?_)
      obtain rfl : jv1 = jv195 := ejv1.trans ejv195.symm
      refine va_sld hx hb hX hbl hbA hS (sl_in (c := 1) ejv1 (by decide) (by decide) hi hL) dL_law_1321 ?_
      refine lv_topi (fun av196 eav196 => ?_)
      obtain rfl : 2 = av196 := eav2.trans eav196.symm
      refine lv_aload_n hx hb dL_law_1322 rfl (lv_at hl 3 rfl) ?_
      refine lv_iload_n hx hb dL_law_1323 rfl (lv_at hl 0 rfl) ?_
      refine lv_iconst (v := 2) hx hb dL_law_1324 (by decide) ?_
      refine lv_iadd hx hb dL_law_1325 ?_
      refine lv_topi (fun jv197 ejv197 => ?_)
      obtain rfl : jv3 = jv197 := ejv3.trans ejv197.symm
      refine va_sld hx hb hX hbl hbA hS (sl_in (c := 2) ejv3 (by decide) (by decide) hi hL) dL_law_1326 ?_
      refine lv_topi (fun av198 eav198 => ?_)
      obtain rfl : av4 = av198 := eav4.trans eav198.symm
      refine lv_aload_n hx hb dL_law_1327 rfl (lv_at hl 3 rfl) ?_
      refine lv_iload_n hx hb dL_law_1328 rfl (lv_at hl 0 rfl) ?_
      refine lv_iconst (v := 3) hx hb dL_law_1329 (by decide) ?_
      refine lv_iadd hx hb dL_law_1330 ?_
      refine lv_topi (fun jv199 ejv199 => ?_)
      obtain rfl : jv5 = jv199 := ejv5.trans ejv199.symm
      refine va_sld hx hb hX hbl hbA hS (sl_in (c := 3) ejv5 (by decide) (by decide) hi hL) dL_law_1331 ?_
      refine lv_topi (fun av200 eav200 => ?_)
      obtain rfl : 1 = av200 := eav6.trans eav200.symm
      refine lv_aload_n hx hb dL_law_1332 rfl (lv_at hl 3 rfl) ?_
      refine lv_iload_n hx hb dL_law_1333 rfl (lv_at hl 0 rfl) ?_
      refine lv_iconst (v := 4) hx hb dL_law_1334 (by decide) ?_
      refine lv_iadd hx hb dL_law_1335 ?_
      refine lv_topi (fun jv201 ejv201 => ?_)
      obtain rfl : jv7 = jv201 := ejv7.trans ejv201.symm
      refine va_sld hx hb hX hbl hbA hS (sl_in (c := 4) ejv7 (by decide) (by decide) hi hL) dL_law_1336 ?_
      refine lv_topi (fun av202 eav202 => ?_)
      obtain rfl : av8 = av202 := eav8.trans eav202.symm
      refine lv_aload_n hx hb dL_law_1337 rfl (lv_at hl 3 rfl) ?_
      refine lv_iload_n hx hb dL_law_1338 rfl (lv_at hl 0 rfl) ?_
      refine lv_iconst (v := 5) hx hb dL_law_1339 (by decide) ?_
      refine lv_iadd hx hb dL_law_1340 ?_
      refine lv_topi (fun jv203 ejv203 => ?_)
      obtain rfl : jv9 = jv203 := ejv9.trans ejv203.symm
      refine va_sld hx hb hX hbl hbA hS (sl_in (c := 5) ejv9 (by decide) (by decide) hi hL) dL_law_1341 ?_
      refine lv_topi (fun av204 eav204 => ?_)
      obtain rfl : av10 = av204 := eav10.trans eav204.symm
      refine cx_fpasteM21 (ob := q) (a2 := av4) (a4 := av8) (a5 := av10) (rest := [.int an193]) C1  hM hP hD hS hl.1 (Nat.le_of_ble_eq_true rfl) ⟨by omega, by omega⟩ dL_law_1342 (fun an205 w206  H locs hq2 hM hP hD hS => ?_)
      have hP := P_perm (List.perm_append_comm_assoc w206 w194 tl) hP
      have hD := D_perm (List.perm_append_comm_assoc w206 w194 tl) hD
      have hEQ : an193 = an205 := by
        have u2 : Int32.toInt (-2) = -2 := by decide
        have u3 : Int32.toInt (-3) = -3 := by decide
        have u6 : Int32.toInt (-6) = -6 := by decide
        have u7 : Int32.toInt (-7) = -7 := by decide
        have u8 : Int32.toInt (-8) = -8 := by decide
        have u0 : Int32.toInt 0 = 0 := by decide
        apply Int32.toInt_inj.mp
        unfold sR at r1 r2 r3 r4
        rcases hq with ⟨rfl, hz⟩ | ⟨rfl, hz⟩ | ⟨rfl, hz⟩ | ⟨rfl, hz⟩ <;> rcases hq2 with ⟨rfl, hz⟩ | ⟨rfl, hz⟩ | ⟨rfl, hz⟩ | ⟨rfl, hz⟩ <;> first | rfl | omega
      subst hEQ
      refine lv_icmp_eq (tgt := 1350) hx hb dL_law_1345 (by decide) (fun _ => ?_) (fun c9 => absurd rfl c9)
      exact K _ _ _ _ ⟨w194, w206, tl, ts, fl0, wi0, sz0, fl1, wi1, sz1, fl2, wi2, sz2, fl3, wi3, sz3, f, ta, fm, fw, fh, hB, hM, hI, ⟨r0, r1, r2, r3, r4, i0, i1, i2⟩, hP, hD, hS, hl, by omega, by omega⟩
    · obtain rfl : 2 = av6 := h9.symm
      refine cx_fpaste22 (ob := x) (a2 := av4) (a4 := av8) (a5 := av10) (rest := []) C1  hB hP hD hS hl.1 (Nat.le_of_ble_eq_true rfl) ⟨by omega, by omega⟩ dL_law_1313 (fun an207 w208  H locs hq hB hP hD hS => ?_)
      have hP := P_perm (List.perm_append_comm_assoc w208 wm tl) hP
      have hD := D_perm (List.perm_append_comm_assoc w208 wm tl) hD
      refine lv_aload_n hx hb dL_law_1316 rfl (lv_at hl 1 rfl) ?_
      refine lv_aload_n hx hb dL_law_1317 rfl (lv_at hl 3 rfl) ?_
      refine lv_iload_n hx hb dL_law_1318 rfl (lv_at hl 0 rfl) ?_
      refine lv_iconst (v := 1) hx hb dL_law_1319 (by decide) ?_
      refine lv_iadd hx hb dL_law_1320 ?_
      refine lv_topi (fun jv209 ejv209 => ?_)
      obtain rfl : jv1 = jv209 := ejv1.trans ejv209.symm
      refine va_sld hx hb hX hbl hbA hS (sl_in (c := 1) ejv1 (by decide) (by decide) hi hL) dL_law_1321 ?_
      refine lv_topi (fun av210 eav210 => ?_)
      obtain rfl : 2 = av210 := eav2.trans eav210.symm
      refine lv_aload_n hx hb dL_law_1322 rfl (lv_at hl 3 rfl) ?_
      refine lv_iload_n hx hb dL_law_1323 rfl (lv_at hl 0 rfl) ?_
      refine lv_iconst (v := 2) hx hb dL_law_1324 (by decide) ?_
      refine lv_iadd hx hb dL_law_1325 ?_
      refine lv_topi (fun jv211 ejv211 => ?_)
      obtain rfl : jv3 = jv211 := ejv3.trans ejv211.symm
      refine va_sld hx hb hX hbl hbA hS (sl_in (c := 2) ejv3 (by decide) (by decide) hi hL) dL_law_1326 ?_
      refine lv_topi (fun av212 eav212 => ?_)
      obtain rfl : av4 = av212 := eav4.trans eav212.symm
      refine lv_aload_n hx hb dL_law_1327 rfl (lv_at hl 3 rfl) ?_
      refine lv_iload_n hx hb dL_law_1328 rfl (lv_at hl 0 rfl) ?_
      refine lv_iconst (v := 3) hx hb dL_law_1329 (by decide) ?_
      refine lv_iadd hx hb dL_law_1330 ?_
      refine lv_topi (fun jv213 ejv213 => ?_)
      obtain rfl : jv5 = jv213 := ejv5.trans ejv213.symm
      refine va_sld hx hb hX hbl hbA hS (sl_in (c := 3) ejv5 (by decide) (by decide) hi hL) dL_law_1331 ?_
      refine lv_topi (fun av214 eav214 => ?_)
      obtain rfl : 2 = av214 := eav6.trans eav214.symm
      refine lv_aload_n hx hb dL_law_1332 rfl (lv_at hl 3 rfl) ?_
      refine lv_iload_n hx hb dL_law_1333 rfl (lv_at hl 0 rfl) ?_
      refine lv_iconst (v := 4) hx hb dL_law_1334 (by decide) ?_
      refine lv_iadd hx hb dL_law_1335 ?_
      refine lv_topi (fun jv215 ejv215 => ?_)
      obtain rfl : jv7 = jv215 := ejv7.trans ejv215.symm
      refine va_sld hx hb hX hbl hbA hS (sl_in (c := 4) ejv7 (by decide) (by decide) hi hL) dL_law_1336 ?_
      refine lv_topi (fun av216 eav216 => ?_)
      obtain rfl : av8 = av216 := eav8.trans eav216.symm
      refine lv_aload_n hx hb dL_law_1337 rfl (lv_at hl 3 rfl) ?_
      refine lv_iload_n hx hb dL_law_1338 rfl (lv_at hl 0 rfl) ?_
      refine lv_iconst (v := 5) hx hb dL_law_1339 (by decide) ?_
      refine lv_iadd hx hb dL_law_1340 ?_
      refine lv_topi (fun jv217 ejv217 => ?_)
      obtain rfl : jv9 = jv217 := ejv9.trans ejv217.symm
      refine va_sld hx hb hX hbl hbA hS (sl_in (c := 5) ejv9 (by decide) (by decide) hi hL) dL_law_1341 ?_
      refine lv_topi (fun av218 eav218 => ?_)
      obtain rfl : av10 = av218 := eav10.trans eav218.symm
      refine cx_fpasteM22 (ob := q) (a2 := av4) (a4 := av8) (a5 := av10) (rest := [.int an207]) C1  hM hP hD hS hl.1 (Nat.le_of_ble_eq_true rfl) ⟨by omega, by omega⟩ dL_law_1342 (fun an219 w220  H locs hq2 hM hP hD hS => ?_)
      have hP := P_perm (List.perm_append_comm_assoc w220 w208 tl) hP
      have hD := D_perm (List.perm_append_comm_assoc w220 w208 tl) hD
      have hEQ : an207 = an219 := by
        have u2 : Int32.toInt (-2) = -2 := by decide
        have u3 : Int32.toInt (-3) = -3 := by decide
        have u6 : Int32.toInt (-6) = -6 := by decide
        have u7 : Int32.toInt (-7) = -7 := by decide
        have u8 : Int32.toInt (-8) = -8 := by decide
        have u0 : Int32.toInt 0 = 0 := by decide
        apply Int32.toInt_inj.mp
        unfold sR at r1 r2 r3 r4
        rcases hq with ⟨rfl, hz⟩ | ⟨rfl, hz⟩ | ⟨rfl, hz⟩ <;> rcases hq2 with ⟨rfl, hz⟩ | ⟨rfl, hz⟩ | ⟨rfl, hz⟩ <;> first | rfl | omega
      subst hEQ
      refine lv_icmp_eq (tgt := 1350) hx hb dL_law_1345 (by decide) (fun _ => ?_) (fun c9 => absurd rfl c9)
      exact K _ _ _ _ ⟨w208, w220, tl, ts, fl0, wi0, sz0, fl1, wi1, sz1, fl2, wi2, sz2, fl3, wi3, sz3, f, ta, fm, fw, fh, hB, hM, hI, ⟨r0, r1, r2, r3, r4, i0, i1, i2⟩, hP, hD, hS, hl, by omega, by omega⟩
    · obtain rfl : 3 = av6 := h9.symm
      refine cx_fpaste23 (ob := x) (a2 := av4) (a4 := av8) (a5 := av10) (rest := []) C1  hB hP hD hS hl.1 (Nat.le_of_ble_eq_true rfl) ⟨by omega, by omega⟩ dL_law_1313 (fun an221 w222  H locs hq hB hP hD hS => ?_)
      have hP := P_perm (List.perm_append_comm_assoc w222 wm tl) hP
      have hD := D_perm (List.perm_append_comm_assoc w222 wm tl) hD
      refine lv_aload_n hx hb dL_law_1316 rfl (lv_at hl 1 rfl) ?_
      refine lv_aload_n hx hb dL_law_1317 rfl (lv_at hl 3 rfl) ?_
      refine lv_iload_n hx hb dL_law_1318 rfl (lv_at hl 0 rfl) ?_
      refine lv_iconst (v := 1) hx hb dL_law_1319 (by decide) ?_
      refine lv_iadd hx hb dL_law_1320 ?_
      refine lv_topi (fun jv223 ejv223 => ?_)
      obtain rfl : jv1 = jv223 := ejv1.trans ejv223.symm
      refine va_sld hx hb hX hbl hbA hS (sl_in (c := 1) ejv1 (by decide) (by decide) hi hL) dL_law_1321 ?_
      refine lv_topi (fun av224 eav224 => ?_)
      obtain rfl : 2 = av224 := eav2.trans eav224.symm
      refine lv_aload_n hx hb dL_law_1322 rfl (lv_at hl 3 rfl) ?_
      refine lv_iload_n hx hb dL_law_1323 rfl (lv_at hl 0 rfl) ?_
      refine lv_iconst (v := 2) hx hb dL_law_1324 (by decide) ?_
      refine lv_iadd hx hb dL_law_1325 ?_
      refine lv_topi (fun jv225 ejv225 => ?_)
      obtain rfl : jv3 = jv225 := ejv3.trans ejv225.symm
      refine va_sld hx hb hX hbl hbA hS (sl_in (c := 2) ejv3 (by decide) (by decide) hi hL) dL_law_1326 ?_
      refine lv_topi (fun av226 eav226 => ?_)
      obtain rfl : av4 = av226 := eav4.trans eav226.symm
      refine lv_aload_n hx hb dL_law_1327 rfl (lv_at hl 3 rfl) ?_
      refine lv_iload_n hx hb dL_law_1328 rfl (lv_at hl 0 rfl) ?_
      refine lv_iconst (v := 3) hx hb dL_law_1329 (by decide) ?_
      refine lv_iadd hx hb dL_law_1330 ?_
      refine lv_topi (fun jv227 ejv227 => ?_)
      obtain rfl : jv5 = jv227 := ejv5.trans ejv227.symm
      refine va_sld hx hb hX hbl hbA hS (sl_in (c := 3) ejv5 (by decide) (by decide) hi hL) dL_law_1331 ?_
      refine lv_topi (fun av228 eav228 => ?_)
      obtain rfl : 3 = av228 := eav6.trans eav228.symm
      refine lv_aload_n hx hb dL_law_1332 rfl (lv_at hl 3 rfl) ?_
      refine lv_iload_n hx hb dL_law_1333 rfl (lv_at hl 0 rfl) ?_
      refine lv_iconst (v := 4) hx hb dL_law_1334 (by decide) ?_
      refine lv_iadd hx hb dL_law_1335 ?_
      refine lv_topi (fun jv229 ejv229 => ?_)
      obtain rfl : jv7 = jv229 := ejv7.trans ejv229.symm
      refine va_sld hx hb hX hbl hbA hS (sl_in (c := 4) ejv7 (by decide) (by decide) hi hL) dL_law_1336 ?_
      refine lv_topi (fun av230 eav230 => ?_)
      obtain rfl : av8 = av230 := eav8.trans eav230.symm
      refine lv_aload_n hx hb dL_law_1337 rfl (lv_at hl 3 rfl) ?_
      refine lv_iload_n hx hb dL_law_1338 rfl (lv_at hl 0 rfl) ?_
      refine lv_iconst (v := 5) hx hb dL_law_1339 (by decide) ?_
      refine lv_iadd hx hb dL_law_1340 ?_
      refine lv_topi (fun jv231 ejv231 => ?_)
      obtain rfl : jv9 = jv231 := ejv9.trans ejv231.symm
      refine va_sld hx hb hX hbl hbA hS (sl_in (c := 5) ejv9 (by decide) (by decide) hi hL) dL_law_1341 ?_
      refine lv_topi (fun av232 eav232 => ?_)
      obtain rfl : av10 = av232 := eav10.trans eav232.symm
      refine cx_fpasteM23 (ob := q) (a2 := av4) (a4 := av8) (a5 := av10) (rest := [.int an221]) C1  hM hP hD hS hl.1 (Nat.le_of_ble_eq_true rfl) ⟨by omega, by omega⟩ dL_law_1342 (fun an233 w234  H locs hq2 hM hP hD hS => ?_)
      have hP := P_perm (List.perm_append_comm_assoc w234 w222 tl) hP
      have hD := D_perm (List.perm_append_comm_assoc w234 w222 tl) hD
      have hEQ : an221 = an233 := by
        have u2 : Int32.toInt (-2) = -2 := by decide
        have u3 : Int32.toInt (-3) = -3 := by decide
        have u6 : Int32.toInt (-6) = -6 := by decide
        have u7 : Int32.toInt (-7) = -7 := by decide
        have u8 : Int32.toInt (-8) = -8 := by decide
        have u0 : Int32.toInt 0 = 0 := by decide
        apply Int32.toInt_inj.mp
        unfold sR at r1 r2 r3 r4
        rcases hq with ⟨rfl, hz⟩ | ⟨rfl, hz⟩ | ⟨rfl, hz⟩ | ⟨rfl, hz⟩ <;> rcases hq2 with ⟨rfl, hz⟩ | ⟨rfl, hz⟩ | ⟨rfl, hz⟩ | ⟨rfl, hz⟩ <;> first | rfl | omega
      subst hEQ
      refine lv_icmp_eq (tgt := 1350) hx hb dL_law_1345 (by decide) (fun _ => ?_) (fun c9 => absurd rfl c9)
      exact K _ _ _ _ ⟨w222, w234, tl, ts, fl0, wi0, sz0, fl1, wi1, sz1, fl2, wi2, sz2, fl3, wi3, sz3, f, ta, fm, fw, fh, hB, hM, hI, ⟨r0, r1, r2, r3, r4, i0, i1, i2⟩, hP, hD, hS, hl, by omega, by omega⟩
    · have hav6 := h9
      refine cx_spasteTlo (ob := x) (a1 := 2) (a2 := av4) (a3 := av6) (a4 := av8) (a5 := av10) (rest := []) C1 (by decide) hav6 hB hP hD hS hl.1 (Nat.le_of_ble_eq_true rfl) ⟨by omega, by omega⟩ dL_law_1313 (fun an235 w236  H locs hq hB hP hD hS => ?_)
      have hP := P_perm (List.perm_append_comm_assoc w236 wm tl) hP
      have hD := D_perm (List.perm_append_comm_assoc w236 wm tl) hD
      refine lv_aload_n hx hb dL_law_1316 rfl (lv_at hl 1 rfl) ?_
      refine lv_aload_n hx hb dL_law_1317 rfl (lv_at hl 3 rfl) ?_
      refine lv_iload_n hx hb dL_law_1318 rfl (lv_at hl 0 rfl) ?_
      refine lv_iconst (v := 1) hx hb dL_law_1319 (by decide) ?_
      refine lv_iadd hx hb dL_law_1320 ?_
      refine lv_topi (fun jv237 ejv237 => ?_)
      obtain rfl : jv1 = jv237 := ejv1.trans ejv237.symm
      refine va_sld hx hb hX hbl hbA hS (sl_in (c := 1) ejv1 (by decide) (by decide) hi hL) dL_law_1321 ?_
      refine lv_topi (fun av238 eav238 => ?_)
      obtain rfl : 2 = av238 := eav2.trans eav238.symm
      refine lv_aload_n hx hb dL_law_1322 rfl (lv_at hl 3 rfl) ?_
      refine lv_iload_n hx hb dL_law_1323 rfl (lv_at hl 0 rfl) ?_
      refine lv_iconst (v := 2) hx hb dL_law_1324 (by decide) ?_
      refine lv_iadd hx hb dL_law_1325 ?_
      refine lv_topi (fun jv239 ejv239 => ?_)
      obtain rfl : jv3 = jv239 := ejv3.trans ejv239.symm
      refine va_sld hx hb hX hbl hbA hS (sl_in (c := 2) ejv3 (by decide) (by decide) hi hL) dL_law_1326 ?_
      refine lv_topi (fun av240 eav240 => ?_)
      obtain rfl : av4 = av240 := eav4.trans eav240.symm
      refine lv_aload_n hx hb dL_law_1327 rfl (lv_at hl 3 rfl) ?_
      refine lv_iload_n hx hb dL_law_1328 rfl (lv_at hl 0 rfl) ?_
      refine lv_iconst (v := 3) hx hb dL_law_1329 (by decide) ?_
      refine lv_iadd hx hb dL_law_1330 ?_
      refine lv_topi (fun jv241 ejv241 => ?_)
      obtain rfl : jv5 = jv241 := ejv5.trans ejv241.symm
      refine va_sld hx hb hX hbl hbA hS (sl_in (c := 3) ejv5 (by decide) (by decide) hi hL) dL_law_1331 ?_
      refine lv_topi (fun av242 eav242 => ?_)
      obtain rfl : av6 = av242 := eav6.trans eav242.symm
      refine lv_aload_n hx hb dL_law_1332 rfl (lv_at hl 3 rfl) ?_
      refine lv_iload_n hx hb dL_law_1333 rfl (lv_at hl 0 rfl) ?_
      refine lv_iconst (v := 4) hx hb dL_law_1334 (by decide) ?_
      refine lv_iadd hx hb dL_law_1335 ?_
      refine lv_topi (fun jv243 ejv243 => ?_)
      obtain rfl : jv7 = jv243 := ejv7.trans ejv243.symm
      refine va_sld hx hb hX hbl hbA hS (sl_in (c := 4) ejv7 (by decide) (by decide) hi hL) dL_law_1336 ?_
      refine lv_topi (fun av244 eav244 => ?_)
      obtain rfl : av8 = av244 := eav8.trans eav244.symm
      refine lv_aload_n hx hb dL_law_1337 rfl (lv_at hl 3 rfl) ?_
      refine lv_iload_n hx hb dL_law_1338 rfl (lv_at hl 0 rfl) ?_
      refine lv_iconst (v := 5) hx hb dL_law_1339 (by decide) ?_
      refine lv_iadd hx hb dL_law_1340 ?_
      refine lv_topi (fun jv245 ejv245 => ?_)
      obtain rfl : jv9 = jv245 := ejv9.trans ejv245.symm
      refine va_sld hx hb hX hbl hbA hS (sl_in (c := 5) ejv9 (by decide) (by decide) hi hL) dL_law_1341 ?_
      refine lv_topi (fun av246 eav246 => ?_)
      obtain rfl : av10 = av246 := eav10.trans eav246.symm
      refine cx_spasteMTlo (ob := q) (a1 := 2) (a2 := av4) (a3 := av6) (a4 := av8) (a5 := av10) (rest := [.int an235]) C1 (by decide) hav6 hM hP hD hS hl.1 (Nat.le_of_ble_eq_true rfl) ⟨by omega, by omega⟩ dL_law_1342 (fun an247 w248  H locs hq2 hM hP hD hS => ?_)
      have hP := P_perm (List.perm_append_comm_assoc w248 w236 tl) hP
      have hD := D_perm (List.perm_append_comm_assoc w248 w236 tl) hD
      have hEQ : an235 = an247 := by
        have u2 : Int32.toInt (-2) = -2 := by decide
        have u3 : Int32.toInt (-3) = -3 := by decide
        have u6 : Int32.toInt (-6) = -6 := by decide
        have u7 : Int32.toInt (-7) = -7 := by decide
        have u8 : Int32.toInt (-8) = -8 := by decide
        have u0 : Int32.toInt 0 = 0 := by decide
        apply Int32.toInt_inj.mp
        unfold sR at r1 r2 r3 r4
        rcases hq with ⟨rfl, hz⟩ <;> rcases hq2 with ⟨rfl, hz⟩ <;> first | rfl | omega
      subst hEQ
      refine lv_icmp_eq (tgt := 1350) hx hb dL_law_1345 (by decide) (fun _ => ?_) (fun c9 => absurd rfl c9)
      exact K _ _ _ _ ⟨w236, w248, tl, ts, fl0, wi0, sz0, fl1, wi1, sz1, fl2, wi2, sz2, fl3, wi3, sz3, f, ta, fm, fw, fh, hB, hM, hI, ⟨r0, r1, r2, r3, r4, i0, i1, i2⟩, hP, hD, hS, hl, by omega, by omega⟩
    · have hav6 := h9
      refine cx_spasteThi (ob := x) (a1 := 2) (a2 := av4) (a3 := av6) (a4 := av8) (a5 := av10) (rest := []) C1 (by decide) hav6 hB hP hD hS hl.1 (Nat.le_of_ble_eq_true rfl) ⟨by omega, by omega⟩ dL_law_1313 (fun an249 w250  H locs hq hB hP hD hS => ?_)
      have hP := P_perm (List.perm_append_comm_assoc w250 wm tl) hP
      have hD := D_perm (List.perm_append_comm_assoc w250 wm tl) hD
      refine lv_aload_n hx hb dL_law_1316 rfl (lv_at hl 1 rfl) ?_
      refine lv_aload_n hx hb dL_law_1317 rfl (lv_at hl 3 rfl) ?_
      refine lv_iload_n hx hb dL_law_1318 rfl (lv_at hl 0 rfl) ?_
      refine lv_iconst (v := 1) hx hb dL_law_1319 (by decide) ?_
      refine lv_iadd hx hb dL_law_1320 ?_
      refine lv_topi (fun jv251 ejv251 => ?_)
      obtain rfl : jv1 = jv251 := ejv1.trans ejv251.symm
      refine va_sld hx hb hX hbl hbA hS (sl_in (c := 1) ejv1 (by decide) (by decide) hi hL) dL_law_1321 ?_
      refine lv_topi (fun av252 eav252 => ?_)
      obtain rfl : 2 = av252 := eav2.trans eav252.symm
      refine lv_aload_n hx hb dL_law_1322 rfl (lv_at hl 3 rfl) ?_
      refine lv_iload_n hx hb dL_law_1323 rfl (lv_at hl 0 rfl) ?_
      refine lv_iconst (v := 2) hx hb dL_law_1324 (by decide) ?_
      refine lv_iadd hx hb dL_law_1325 ?_
      refine lv_topi (fun jv253 ejv253 => ?_)
      obtain rfl : jv3 = jv253 := ejv3.trans ejv253.symm
      refine va_sld hx hb hX hbl hbA hS (sl_in (c := 2) ejv3 (by decide) (by decide) hi hL) dL_law_1326 ?_
      refine lv_topi (fun av254 eav254 => ?_)
      obtain rfl : av4 = av254 := eav4.trans eav254.symm
      refine lv_aload_n hx hb dL_law_1327 rfl (lv_at hl 3 rfl) ?_
      refine lv_iload_n hx hb dL_law_1328 rfl (lv_at hl 0 rfl) ?_
      refine lv_iconst (v := 3) hx hb dL_law_1329 (by decide) ?_
      refine lv_iadd hx hb dL_law_1330 ?_
      refine lv_topi (fun jv255 ejv255 => ?_)
      obtain rfl : jv5 = jv255 := ejv5.trans ejv255.symm
      refine va_sld hx hb hX hbl hbA hS (sl_in (c := 3) ejv5 (by decide) (by decide) hi hL) dL_law_1331 ?_
      refine lv_topi (fun av256 eav256 => ?_)
      obtain rfl : av6 = av256 := eav6.trans eav256.symm
      refine lv_aload_n hx hb dL_law_1332 rfl (lv_at hl 3 rfl) ?_
      refine lv_iload_n hx hb dL_law_1333 rfl (lv_at hl 0 rfl) ?_
      refine lv_iconst (v := 4) hx hb dL_law_1334 (by decide) ?_
      refine lv_iadd hx hb dL_law_1335 ?_
      refine lv_topi (fun jv257 ejv257 => ?_)
      obtain rfl : jv7 = jv257 := ejv7.trans ejv257.symm
      refine va_sld hx hb hX hbl hbA hS (sl_in (c := 4) ejv7 (by decide) (by decide) hi hL) dL_law_1336 ?_
      refine lv_topi (fun av258 eav258 => ?_)
      obtain rfl : av8 = av258 := eav8.trans eav258.symm
      refine lv_aload_n hx hb dL_law_1337 rfl (lv_at hl 3 rfl) ?_
      refine lv_iload_n hx hb dL_law_1338 rfl (lv_at hl 0 rfl) ?_
      refine lv_iconst (v := 5) hx hb dL_law_1339 (by decide) ?_
      refine lv_iadd hx hb dL_law_1340 ?_
      refine lv_topi (fun jv259 ejv259 => ?_)
      obtain rfl : jv9 = jv259 := ejv9.trans ejv259.symm
      refine va_sld hx hb hX hbl hbA hS (sl_in (c := 5) ejv9 (by decide) (by decide) hi hL) dL_law_1341 ?_
      refine lv_topi (fun av260 eav260 => ?_)
      obtain rfl : av10 = av260 := eav10.trans eav260.symm
      refine cx_spasteMThi (ob := q) (a1 := 2) (a2 := av4) (a3 := av6) (a4 := av8) (a5 := av10) (rest := [.int an249]) C1 (by decide) hav6 hM hP hD hS hl.1 (Nat.le_of_ble_eq_true rfl) ⟨by omega, by omega⟩ dL_law_1342 (fun an261 w262  H locs hq2 hM hP hD hS => ?_)
      have hP := P_perm (List.perm_append_comm_assoc w262 w250 tl) hP
      have hD := D_perm (List.perm_append_comm_assoc w262 w250 tl) hD
      have hEQ : an249 = an261 := by
        have u2 : Int32.toInt (-2) = -2 := by decide
        have u3 : Int32.toInt (-3) = -3 := by decide
        have u6 : Int32.toInt (-6) = -6 := by decide
        have u7 : Int32.toInt (-7) = -7 := by decide
        have u8 : Int32.toInt (-8) = -8 := by decide
        have u0 : Int32.toInt 0 = 0 := by decide
        apply Int32.toInt_inj.mp
        unfold sR at r1 r2 r3 r4
        rcases hq with ⟨rfl, hz⟩ <;> rcases hq2 with ⟨rfl, hz⟩ <;> first | rfl | omega
      subst hEQ
      refine lv_icmp_eq (tgt := 1350) hx hb dL_law_1345 (by decide) (fun _ => ?_) (fun c9 => absurd rfl c9)
      exact K _ _ _ _ ⟨w250, w262, tl, ts, fl0, wi0, sz0, fl1, wi1, sz1, fl2, wi2, sz2, fl3, wi3, sz3, f, ta, fm, fw, fh, hB, hM, hI, ⟨r0, r1, r2, r3, r4, i0, i1, i2⟩, hP, hD, hS, hl, by omega, by omega⟩
  · obtain rfl : 3 = av2 := h9.symm
    rcases so_cases av6 with h9 | h9 | h9 | h9 | h9 | h9
    · obtain rfl : 0 = av6 := h9.symm
      refine cx_fpaste30 (ob := x) (a2 := av4) (a4 := av8) (a5 := av10) (rest := []) C1  hB hP hD hS hl.1 (Nat.le_of_ble_eq_true rfl) ⟨by omega, by omega⟩ dL_law_1313 (fun an263 w264  H locs hq hB hP hD hS => ?_)
      have hP := P_perm (List.perm_append_comm_assoc w264 wm tl) hP
      have hD := D_perm (List.perm_append_comm_assoc w264 wm tl) hD
      refine lv_aload_n hx hb dL_law_1316 rfl (lv_at hl 1 rfl) ?_
      refine lv_aload_n hx hb dL_law_1317 rfl (lv_at hl 3 rfl) ?_
      refine lv_iload_n hx hb dL_law_1318 rfl (lv_at hl 0 rfl) ?_
      refine lv_iconst (v := 1) hx hb dL_law_1319 (by decide) ?_
      refine lv_iadd hx hb dL_law_1320 ?_
      refine lv_topi (fun jv265 ejv265 => ?_)
      obtain rfl : jv1 = jv265 := ejv1.trans ejv265.symm
      refine va_sld hx hb hX hbl hbA hS (sl_in (c := 1) ejv1 (by decide) (by decide) hi hL) dL_law_1321 ?_
      refine lv_topi (fun av266 eav266 => ?_)
      obtain rfl : 3 = av266 := eav2.trans eav266.symm
      refine lv_aload_n hx hb dL_law_1322 rfl (lv_at hl 3 rfl) ?_
      refine lv_iload_n hx hb dL_law_1323 rfl (lv_at hl 0 rfl) ?_
      refine lv_iconst (v := 2) hx hb dL_law_1324 (by decide) ?_
      refine lv_iadd hx hb dL_law_1325 ?_
      refine lv_topi (fun jv267 ejv267 => ?_)
      obtain rfl : jv3 = jv267 := ejv3.trans ejv267.symm
      refine va_sld hx hb hX hbl hbA hS (sl_in (c := 2) ejv3 (by decide) (by decide) hi hL) dL_law_1326 ?_
      refine lv_topi (fun av268 eav268 => ?_)
      obtain rfl : av4 = av268 := eav4.trans eav268.symm
      refine lv_aload_n hx hb dL_law_1327 rfl (lv_at hl 3 rfl) ?_
      refine lv_iload_n hx hb dL_law_1328 rfl (lv_at hl 0 rfl) ?_
      refine lv_iconst (v := 3) hx hb dL_law_1329 (by decide) ?_
      refine lv_iadd hx hb dL_law_1330 ?_
      refine lv_topi (fun jv269 ejv269 => ?_)
      obtain rfl : jv5 = jv269 := ejv5.trans ejv269.symm
      refine va_sld hx hb hX hbl hbA hS (sl_in (c := 3) ejv5 (by decide) (by decide) hi hL) dL_law_1331 ?_
      refine lv_topi (fun av270 eav270 => ?_)
      obtain rfl : 0 = av270 := eav6.trans eav270.symm
      refine lv_aload_n hx hb dL_law_1332 rfl (lv_at hl 3 rfl) ?_
      refine lv_iload_n hx hb dL_law_1333 rfl (lv_at hl 0 rfl) ?_
      refine lv_iconst (v := 4) hx hb dL_law_1334 (by decide) ?_
      refine lv_iadd hx hb dL_law_1335 ?_
      refine lv_topi (fun jv271 ejv271 => ?_)
      obtain rfl : jv7 = jv271 := ejv7.trans ejv271.symm
      refine va_sld hx hb hX hbl hbA hS (sl_in (c := 4) ejv7 (by decide) (by decide) hi hL) dL_law_1336 ?_
      refine lv_topi (fun av272 eav272 => ?_)
      obtain rfl : av8 = av272 := eav8.trans eav272.symm
      refine lv_aload_n hx hb dL_law_1337 rfl (lv_at hl 3 rfl) ?_
      refine lv_iload_n hx hb dL_law_1338 rfl (lv_at hl 0 rfl) ?_
      refine lv_iconst (v := 5) hx hb dL_law_1339 (by decide) ?_
      refine lv_iadd hx hb dL_law_1340 ?_
      refine lv_topi (fun jv273 ejv273 => ?_)
      obtain rfl : jv9 = jv273 := ejv9.trans ejv273.symm
      refine va_sld hx hb hX hbl hbA hS (sl_in (c := 5) ejv9 (by decide) (by decide) hi hL) dL_law_1341 ?_
      refine lv_topi (fun av274 eav274 => ?_)
      obtain rfl : av10 = av274 := eav10.trans eav274.symm
      refine cx_fpasteM30 (ob := q) (a2 := av4) (a4 := av8) (a5 := av10) (rest := [.int an263]) C1  hM hP hD hS hl.1 (Nat.le_of_ble_eq_true rfl) ⟨by omega, by omega⟩ dL_law_1342 (fun an275 w276  H locs hq2 hM hP hD hS => ?_)
      have hP := P_perm (List.perm_append_comm_assoc w276 w264 tl) hP
      have hD := D_perm (List.perm_append_comm_assoc w276 w264 tl) hD
      have hEQ : an263 = an275 := by
        have u2 : Int32.toInt (-2) = -2 := by decide
        have u3 : Int32.toInt (-3) = -3 := by decide
        have u6 : Int32.toInt (-6) = -6 := by decide
        have u7 : Int32.toInt (-7) = -7 := by decide
        have u8 : Int32.toInt (-8) = -8 := by decide
        have u0 : Int32.toInt 0 = 0 := by decide
        apply Int32.toInt_inj.mp
        unfold sR at r1 r2 r3 r4
        rcases hq with ⟨rfl, hz⟩ | ⟨rfl, hz⟩ | ⟨rfl, hz⟩ | ⟨rfl, hz⟩ <;> rcases hq2 with ⟨rfl, hz⟩ | ⟨rfl, hz⟩ | ⟨rfl, hz⟩ | ⟨rfl, hz⟩ <;> first | rfl | omega
      subst hEQ
      refine lv_icmp_eq (tgt := 1350) hx hb dL_law_1345 (by decide) (fun _ => ?_) (fun c9 => absurd rfl c9)
      exact K _ _ _ _ ⟨w264, w276, tl, ts, fl0, wi0, sz0, fl1, wi1, sz1, fl2, wi2, sz2, fl3, wi3, sz3, f, ta, fm, fw, fh, hB, hM, hI, ⟨r0, r1, r2, r3, r4, i0, i1, i2⟩, hP, hD, hS, hl, by omega, by omega⟩
    · obtain rfl : 1 = av6 := h9.symm
      refine cx_fpaste31 (ob := x) (a2 := av4) (a4 := av8) (a5 := av10) (rest := []) C1  hB hP hD hS hl.1 (Nat.le_of_ble_eq_true rfl) ⟨by omega, by omega⟩ dL_law_1313 (fun an277 w278  H locs hq hB hP hD hS => ?_)
      have hP := P_perm (List.perm_append_comm_assoc w278 wm tl) hP
      have hD := D_perm (List.perm_append_comm_assoc w278 wm tl) hD
      refine lv_aload_n hx hb dL_law_1316 rfl (lv_at hl 1 rfl) ?_
      refine lv_aload_n hx hb dL_law_1317 rfl (lv_at hl 3 rfl) ?_
      refine lv_iload_n hx hb dL_law_1318 rfl (lv_at hl 0 rfl) ?_
      refine lv_iconst (v := 1) hx hb dL_law_1319 (by decide) ?_
      refine lv_iadd hx hb dL_law_1320 ?_
      refine lv_topi (fun jv279 ejv279 => ?_)
      obtain rfl : jv1 = jv279 := ejv1.trans ejv279.symm
      refine va_sld hx hb hX hbl hbA hS (sl_in (c := 1) ejv1 (by decide) (by decide) hi hL) dL_law_1321 ?_
      refine lv_topi (fun av280 eav280 => ?_)
      obtain rfl : 3 = av280 := eav2.trans eav280.symm
      refine lv_aload_n hx hb dL_law_1322 rfl (lv_at hl 3 rfl) ?_
      refine lv_iload_n hx hb dL_law_1323 rfl (lv_at hl 0 rfl) ?_
      refine lv_iconst (v := 2) hx hb dL_law_1324 (by decide) ?_
      refine lv_iadd hx hb dL_law_1325 ?_
      refine lv_topi (fun jv281 ejv281 => ?_)
      obtain rfl : jv3 = jv281 := ejv3.trans ejv281.symm
      refine va_sld hx hb hX hbl hbA hS (sl_in (c := 2) ejv3 (by decide) (by decide) hi hL) dL_law_1326 ?_
      refine lv_topi (fun av282 eav282 => ?_)
      obtain rfl : av4 = av282 := eav4.trans eav282.symm
      refine lv_aload_n hx hb dL_law_1327 rfl (lv_at hl 3 rfl) ?_
      refine lv_iload_n hx hb dL_law_1328 rfl (lv_at hl 0 rfl) ?_
      refine lv_iconst (v := 3) hx hb dL_law_1329 (by decide) ?_
      refine lv_iadd hx hb dL_law_1330 ?_
      refine lv_topi (fun jv283 ejv283 => ?_)
      obtain rfl : jv5 = jv283 := ejv5.trans ejv283.symm
      refine va_sld hx hb hX hbl hbA hS (sl_in (c := 3) ejv5 (by decide) (by decide) hi hL) dL_law_1331 ?_
      refine lv_topi (fun av284 eav284 => ?_)
      obtain rfl : 1 = av284 := eav6.trans eav284.symm
      refine lv_aload_n hx hb dL_law_1332 rfl (lv_at hl 3 rfl) ?_
      refine lv_iload_n hx hb dL_law_1333 rfl (lv_at hl 0 rfl) ?_
      refine lv_iconst (v := 4) hx hb dL_law_1334 (by decide) ?_
      refine lv_iadd hx hb dL_law_1335 ?_
      refine lv_topi (fun jv285 ejv285 => ?_)
      obtain rfl : jv7 = jv285 := ejv7.trans ejv285.symm
      refine va_sld hx hb hX hbl hbA hS (sl_in (c := 4) ejv7 (by decide) (by decide) hi hL) dL_law_1336 ?_
      refine lv_topi (fun av286 eav286 => ?_)
      obtain rfl : av8 = av286 := eav8.trans eav286.symm
      refine lv_aload_n hx hb dL_law_1337 rfl (lv_at hl 3 rfl) ?_
      refine lv_iload_n hx hb dL_law_1338 rfl (lv_at hl 0 rfl) ?_
      refine lv_iconst (v := 5) hx hb dL_law_1339 (by decide) ?_
      refine lv_iadd hx hb dL_law_1340 ?_
      refine lv_topi (fun jv287 ejv287 => ?_)
      obtain rfl : jv9 = jv287 := ejv9.trans ejv287.symm
      refine va_sld hx hb hX hbl hbA hS (sl_in (c := 5) ejv9 (by decide) (by decide) hi hL) dL_law_1341 ?_
      refine lv_topi (fun av288 eav288 => ?_)
      obtain rfl : av10 = av288 := eav10.trans eav288.symm
      refine cx_fpasteM31 (ob := q) (a2 := av4) (a4 := av8) (a5 := av10) (rest := [.int an277]) C1  hM hP hD hS hl.1 (Nat.le_of_ble_eq_true rfl) ⟨by omega, by omega⟩ dL_law_1342 (fun an289 w290  H locs hq2 hM hP hD hS => ?_)
      have hP := P_perm (List.perm_append_comm_assoc w290 w278 tl) hP
      have hD := D_perm (List.perm_append_comm_assoc w290 w278 tl) hD
      have hEQ : an277 = an289 := by
        have u2 : Int32.toInt (-2) = -2 := by decide
        have u3 : Int32.toInt (-3) = -3 := by decide
        have u6 : Int32.toInt (-6) = -6 := by decide
        have u7 : Int32.toInt (-7) = -7 := by decide
        have u8 : Int32.toInt (-8) = -8 := by decide
        have u0 : Int32.toInt 0 = 0 := by decide
        apply Int32.toInt_inj.mp
        unfold sR at r1 r2 r3 r4
        rcases hq with ⟨rfl, hz⟩ | ⟨rfl, hz⟩ | ⟨rfl, hz⟩ | ⟨rfl, hz⟩ <;> rcases hq2 with ⟨rfl, hz⟩ | ⟨rfl, hz⟩ | ⟨rfl, hz⟩ | ⟨rfl, hz⟩ <;> first | rfl | omega
      subst hEQ
      refine lv_icmp_eq (tgt := 1350) hx hb dL_law_1345 (by decide) (fun _ => ?_) (fun c9 => absurd rfl c9)
      exact K _ _ _ _ ⟨w278, w290, tl, ts, fl0, wi0, sz0, fl1, wi1, sz1, fl2, wi2, sz2, fl3, wi3, sz3, f, ta, fm, fw, fh, hB, hM, hI, ⟨r0, r1, r2, r3, r4, i0, i1, i2⟩, hP, hD, hS, hl, by omega, by omega⟩
    · obtain rfl : 2 = av6 := h9.symm
      refine cx_fpaste32 (ob := x) (a2 := av4) (a4 := av8) (a5 := av10) (rest := []) C1  hB hP hD hS hl.1 (Nat.le_of_ble_eq_true rfl) ⟨by omega, by omega⟩ dL_law_1313 (fun an291 w292  H locs hq hB hP hD hS => ?_)
      have hP := P_perm (List.perm_append_comm_assoc w292 wm tl) hP
      have hD := D_perm (List.perm_append_comm_assoc w292 wm tl) hD
      refine lv_aload_n hx hb dL_law_1316 rfl (lv_at hl 1 rfl) ?_
      refine lv_aload_n hx hb dL_law_1317 rfl (lv_at hl 3 rfl) ?_
      refine lv_iload_n hx hb dL_law_1318 rfl (lv_at hl 0 rfl) ?_
      refine lv_iconst (v := 1) hx hb dL_law_1319 (by decide) ?_
      refine lv_iadd hx hb dL_law_1320 ?_
      refine lv_topi (fun jv293 ejv293 => ?_)
      obtain rfl : jv1 = jv293 := ejv1.trans ejv293.symm
      refine va_sld hx hb hX hbl hbA hS (sl_in (c := 1) ejv1 (by decide) (by decide) hi hL) dL_law_1321 ?_
      refine lv_topi (fun av294 eav294 => ?_)
      obtain rfl : 3 = av294 := eav2.trans eav294.symm
      refine lv_aload_n hx hb dL_law_1322 rfl (lv_at hl 3 rfl) ?_
      refine lv_iload_n hx hb dL_law_1323 rfl (lv_at hl 0 rfl) ?_
      refine lv_iconst (v := 2) hx hb dL_law_1324 (by decide) ?_
      refine lv_iadd hx hb dL_law_1325 ?_
      refine lv_topi (fun jv295 ejv295 => ?_)
      obtain rfl : jv3 = jv295 := ejv3.trans ejv295.symm
      refine va_sld hx hb hX hbl hbA hS (sl_in (c := 2) ejv3 (by decide) (by decide) hi hL) dL_law_1326 ?_
      refine lv_topi (fun av296 eav296 => ?_)
      obtain rfl : av4 = av296 := eav4.trans eav296.symm
      refine lv_aload_n hx hb dL_law_1327 rfl (lv_at hl 3 rfl) ?_
      refine lv_iload_n hx hb dL_law_1328 rfl (lv_at hl 0 rfl) ?_
      refine lv_iconst (v := 3) hx hb dL_law_1329 (by decide) ?_
      refine lv_iadd hx hb dL_law_1330 ?_
      refine lv_topi (fun jv297 ejv297 => ?_)
      obtain rfl : jv5 = jv297 := ejv5.trans ejv297.symm
      refine va_sld hx hb hX hbl hbA hS (sl_in (c := 3) ejv5 (by decide) (by decide) hi hL) dL_law_1331 ?_
      refine lv_topi (fun av298 eav298 => ?_)
      obtain rfl : 2 = av298 := eav6.trans eav298.symm
      refine lv_aload_n hx hb dL_law_1332 rfl (lv_at hl 3 rfl) ?_
      refine lv_iload_n hx hb dL_law_1333 rfl (lv_at hl 0 rfl) ?_
      refine lv_iconst (v := 4) hx hb dL_law_1334 (by decide) ?_
      refine lv_iadd hx hb dL_law_1335 ?_
      refine lv_topi (fun jv299 ejv299 => ?_)
      obtain rfl : jv7 = jv299 := ejv7.trans ejv299.symm
      refine va_sld hx hb hX hbl hbA hS (sl_in (c := 4) ejv7 (by decide) (by decide) hi hL) dL_law_1336 ?_
      refine lv_topi (fun av300 eav300 => ?_)
      obtain rfl : av8 = av300 := eav8.trans eav300.symm
      refine lv_aload_n hx hb dL_law_1337 rfl (lv_at hl 3 rfl) ?_
      refine lv_iload_n hx hb dL_law_1338 rfl (lv_at hl 0 rfl) ?_
      refine lv_iconst (v := 5) hx hb dL_law_1339 (by decide) ?_
      refine lv_iadd hx hb dL_law_1340 ?_
      refine lv_topi (fun jv301 ejv301 => ?_)
      obtain rfl : jv9 = jv301 := ejv9.trans ejv301.symm
      refine va_sld hx hb hX hbl hbA hS (sl_in (c := 5) ejv9 (by decide) (by decide) hi hL) dL_law_1341 ?_
      refine lv_topi (fun av302 eav302 => ?_)
      obtain rfl : av10 = av302 := eav10.trans eav302.symm
      refine cx_fpasteM32 (ob := q) (a2 := av4) (a4 := av8) (a5 := av10) (rest := [.int an291]) C1  hM hP hD hS hl.1 (Nat.le_of_ble_eq_true rfl) ⟨by omega, by omega⟩ dL_law_1342 (fun an303 w304  H locs hq2 hM hP hD hS => ?_)
      have hP := P_perm (List.perm_append_comm_assoc w304 w292 tl) hP
      have hD := D_perm (List.perm_append_comm_assoc w304 w292 tl) hD
      have hEQ : an291 = an303 := by
        have u2 : Int32.toInt (-2) = -2 := by decide
        have u3 : Int32.toInt (-3) = -3 := by decide
        have u6 : Int32.toInt (-6) = -6 := by decide
        have u7 : Int32.toInt (-7) = -7 := by decide
        have u8 : Int32.toInt (-8) = -8 := by decide
        have u0 : Int32.toInt 0 = 0 := by decide
        apply Int32.toInt_inj.mp
        unfold sR at r1 r2 r3 r4
        rcases hq with ⟨rfl, hz⟩ | ⟨rfl, hz⟩ | ⟨rfl, hz⟩ | ⟨rfl, hz⟩ <;> rcases hq2 with ⟨rfl, hz⟩ | ⟨rfl, hz⟩ | ⟨rfl, hz⟩ | ⟨rfl, hz⟩ <;> first | rfl | omega
      subst hEQ
      refine lv_icmp_eq (tgt := 1350) hx hb dL_law_1345 (by decide) (fun _ => ?_) (fun c9 => absurd rfl c9)
      exact K _ _ _ _ ⟨w292, w304, tl, ts, fl0, wi0, sz0, fl1, wi1, sz1, fl2, wi2, sz2, fl3, wi3, sz3, f, ta, fm, fw, fh, hB, hM, hI, ⟨r0, r1, r2, r3, r4, i0, i1, i2⟩, hP, hD, hS, hl, by omega, by omega⟩
    · obtain rfl : 3 = av6 := h9.symm
      refine cx_fpaste33 (ob := x) (a2 := av4) (a4 := av8) (a5 := av10) (rest := []) C1  hB hP hD hS hl.1 (Nat.le_of_ble_eq_true rfl) ⟨by omega, by omega⟩ dL_law_1313 (fun an305 w306  H locs hq hB hP hD hS => ?_)
      have hP := P_perm (List.perm_append_comm_assoc w306 wm tl) hP
      have hD := D_perm (List.perm_append_comm_assoc w306 wm tl) hD
      refine lv_aload_n hx hb dL_law_1316 rfl (lv_at hl 1 rfl) ?_
      refine lv_aload_n hx hb dL_law_1317 rfl (lv_at hl 3 rfl) ?_
      refine lv_iload_n hx hb dL_law_1318 rfl (lv_at hl 0 rfl) ?_
      refine lv_iconst (v := 1) hx hb dL_law_1319 (by decide) ?_
      refine lv_iadd hx hb dL_law_1320 ?_
      refine lv_topi (fun jv307 ejv307 => ?_)
      obtain rfl : jv1 = jv307 := ejv1.trans ejv307.symm
      refine va_sld hx hb hX hbl hbA hS (sl_in (c := 1) ejv1 (by decide) (by decide) hi hL) dL_law_1321 ?_
      refine lv_topi (fun av308 eav308 => ?_)
      obtain rfl : 3 = av308 := eav2.trans eav308.symm
      refine lv_aload_n hx hb dL_law_1322 rfl (lv_at hl 3 rfl) ?_
      refine lv_iload_n hx hb dL_law_1323 rfl (lv_at hl 0 rfl) ?_
      refine lv_iconst (v := 2) hx hb dL_law_1324 (by decide) ?_
      refine lv_iadd hx hb dL_law_1325 ?_
      refine lv_topi (fun jv309 ejv309 => ?_)
      obtain rfl : jv3 = jv309 := ejv3.trans ejv309.symm
      refine va_sld hx hb hX hbl hbA hS (sl_in (c := 2) ejv3 (by decide) (by decide) hi hL) dL_law_1326 ?_
      refine lv_topi (fun av310 eav310 => ?_)
      obtain rfl : av4 = av310 := eav4.trans eav310.symm
      refine lv_aload_n hx hb dL_law_1327 rfl (lv_at hl 3 rfl) ?_
      refine lv_iload_n hx hb dL_law_1328 rfl (lv_at hl 0 rfl) ?_
      refine lv_iconst (v := 3) hx hb dL_law_1329 (by decide) ?_
      refine lv_iadd hx hb dL_law_1330 ?_
      refine lv_topi (fun jv311 ejv311 => ?_)
      obtain rfl : jv5 = jv311 := ejv5.trans ejv311.symm
      refine va_sld hx hb hX hbl hbA hS (sl_in (c := 3) ejv5 (by decide) (by decide) hi hL) dL_law_1331 ?_
      refine lv_topi (fun av312 eav312 => ?_)
      obtain rfl : 3 = av312 := eav6.trans eav312.symm
      refine lv_aload_n hx hb dL_law_1332 rfl (lv_at hl 3 rfl) ?_
      refine lv_iload_n hx hb dL_law_1333 rfl (lv_at hl 0 rfl) ?_
      refine lv_iconst (v := 4) hx hb dL_law_1334 (by decide) ?_
      refine lv_iadd hx hb dL_law_1335 ?_
      refine lv_topi (fun jv313 ejv313 => ?_)
      obtain rfl : jv7 = jv313 := ejv7.trans ejv313.symm
      refine va_sld hx hb hX hbl hbA hS (sl_in (c := 4) ejv7 (by decide) (by decide) hi hL) dL_law_1336 ?_
      refine lv_topi (fun av314 eav314 => ?_)
      obtain rfl : av8 = av314 := eav8.trans eav314.symm
      refine lv_aload_n hx hb dL_law_1337 rfl (lv_at hl 3 rfl) ?_
      refine lv_iload_n hx hb dL_law_1338 rfl (lv_at hl 0 rfl) ?_
      refine lv_iconst (v := 5) hx hb dL_law_1339 (by decide) ?_
      refine lv_iadd hx hb dL_law_1340 ?_
      refine lv_topi (fun jv315 ejv315 => ?_)
      obtain rfl : jv9 = jv315 := ejv9.trans ejv315.symm
      refine va_sld hx hb hX hbl hbA hS (sl_in (c := 5) ejv9 (by decide) (by decide) hi hL) dL_law_1341 ?_
      refine lv_topi (fun av316 eav316 => ?_)
      obtain rfl : av10 = av316 := eav10.trans eav316.symm
      refine cx_fpasteM33 (ob := q) (a2 := av4) (a4 := av8) (a5 := av10) (rest := [.int an305]) C1  hM hP hD hS hl.1 (Nat.le_of_ble_eq_true rfl) ⟨by omega, by omega⟩ dL_law_1342 (fun an317 w318  H locs hq2 hM hP hD hS => ?_)
      have hP := P_perm (List.perm_append_comm_assoc w318 w306 tl) hP
      have hD := D_perm (List.perm_append_comm_assoc w318 w306 tl) hD
      have hEQ : an305 = an317 := by
        have u2 : Int32.toInt (-2) = -2 := by decide
        have u3 : Int32.toInt (-3) = -3 := by decide
        have u6 : Int32.toInt (-6) = -6 := by decide
        have u7 : Int32.toInt (-7) = -7 := by decide
        have u8 : Int32.toInt (-8) = -8 := by decide
        have u0 : Int32.toInt 0 = 0 := by decide
        apply Int32.toInt_inj.mp
        unfold sR at r1 r2 r3 r4
        rcases hq with ⟨rfl, hz⟩ | ⟨rfl, hz⟩ | ⟨rfl, hz⟩ <;> rcases hq2 with ⟨rfl, hz⟩ | ⟨rfl, hz⟩ | ⟨rfl, hz⟩ <;> first | rfl | omega
      subst hEQ
      refine lv_icmp_eq (tgt := 1350) hx hb dL_law_1345 (by decide) (fun _ => ?_) (fun c9 => absurd rfl c9)
      exact K _ _ _ _ ⟨w306, w318, tl, ts, fl0, wi0, sz0, fl1, wi1, sz1, fl2, wi2, sz2, fl3, wi3, sz3, f, ta, fm, fw, fh, hB, hM, hI, ⟨r0, r1, r2, r3, r4, i0, i1, i2⟩, hP, hD, hS, hl, by omega, by omega⟩
    · have hav6 := h9
      refine cx_spasteTlo (ob := x) (a1 := 3) (a2 := av4) (a3 := av6) (a4 := av8) (a5 := av10) (rest := []) C1 (by decide) hav6 hB hP hD hS hl.1 (Nat.le_of_ble_eq_true rfl) ⟨by omega, by omega⟩ dL_law_1313 (fun an319 w320  H locs hq hB hP hD hS => ?_)
      have hP := P_perm (List.perm_append_comm_assoc w320 wm tl) hP
      have hD := D_perm (List.perm_append_comm_assoc w320 wm tl) hD
      refine lv_aload_n hx hb dL_law_1316 rfl (lv_at hl 1 rfl) ?_
      refine lv_aload_n hx hb dL_law_1317 rfl (lv_at hl 3 rfl) ?_
      refine lv_iload_n hx hb dL_law_1318 rfl (lv_at hl 0 rfl) ?_
      refine lv_iconst (v := 1) hx hb dL_law_1319 (by decide) ?_
      refine lv_iadd hx hb dL_law_1320 ?_
      refine lv_topi (fun jv321 ejv321 => ?_)
      obtain rfl : jv1 = jv321 := ejv1.trans ejv321.symm
      refine va_sld hx hb hX hbl hbA hS (sl_in (c := 1) ejv1 (by decide) (by decide) hi hL) dL_law_1321 ?_
      refine lv_topi (fun av322 eav322 => ?_)
      obtain rfl : 3 = av322 := eav2.trans eav322.symm
      refine lv_aload_n hx hb dL_law_1322 rfl (lv_at hl 3 rfl) ?_
      refine lv_iload_n hx hb dL_law_1323 rfl (lv_at hl 0 rfl) ?_
      refine lv_iconst (v := 2) hx hb dL_law_1324 (by decide) ?_
      refine lv_iadd hx hb dL_law_1325 ?_
      refine lv_topi (fun jv323 ejv323 => ?_)
      obtain rfl : jv3 = jv323 := ejv3.trans ejv323.symm
      refine va_sld hx hb hX hbl hbA hS (sl_in (c := 2) ejv3 (by decide) (by decide) hi hL) dL_law_1326 ?_
      refine lv_topi (fun av324 eav324 => ?_)
      obtain rfl : av4 = av324 := eav4.trans eav324.symm
      refine lv_aload_n hx hb dL_law_1327 rfl (lv_at hl 3 rfl) ?_
      refine lv_iload_n hx hb dL_law_1328 rfl (lv_at hl 0 rfl) ?_
      refine lv_iconst (v := 3) hx hb dL_law_1329 (by decide) ?_
      refine lv_iadd hx hb dL_law_1330 ?_
      refine lv_topi (fun jv325 ejv325 => ?_)
      obtain rfl : jv5 = jv325 := ejv5.trans ejv325.symm
      refine va_sld hx hb hX hbl hbA hS (sl_in (c := 3) ejv5 (by decide) (by decide) hi hL) dL_law_1331 ?_
      refine lv_topi (fun av326 eav326 => ?_)
      obtain rfl : av6 = av326 := eav6.trans eav326.symm
      refine lv_aload_n hx hb dL_law_1332 rfl (lv_at hl 3 rfl) ?_
      refine lv_iload_n hx hb dL_law_1333 rfl (lv_at hl 0 rfl) ?_
      refine lv_iconst (v := 4) hx hb dL_law_1334 (by decide) ?_
      refine lv_iadd hx hb dL_law_1335 ?_
      refine lv_topi (fun jv327 ejv327 => ?_)
      obtain rfl : jv7 = jv327 := ejv7.trans ejv327.symm
      refine va_sld hx hb hX hbl hbA hS (sl_in (c := 4) ejv7 (by decide) (by decide) hi hL) dL_law_1336 ?_
      refine lv_topi (fun av328 eav328 => ?_)
      obtain rfl : av8 = av328 := eav8.trans eav328.symm
      refine lv_aload_n hx hb dL_law_1337 rfl (lv_at hl 3 rfl) ?_
      refine lv_iload_n hx hb dL_law_1338 rfl (lv_at hl 0 rfl) ?_
      refine lv_iconst (v := 5) hx hb dL_law_1339 (by decide) ?_
      refine lv_iadd hx hb dL_law_1340 ?_
      refine lv_topi (fun jv329 ejv329 => ?_)
      obtain rfl : jv9 = jv329 := ejv9.trans ejv329.symm
      refine va_sld hx hb hX hbl hbA hS (sl_in (c := 5) ejv9 (by decide) (by decide) hi hL) dL_law_1341 ?_
      refine lv_topi (fun av330 eav330 => ?_)
      obtain rfl : av10 = av330 := eav10.trans eav330.symm
      refine cx_spasteMTlo (ob := q) (a1 := 3) (a2 := av4) (a3 := av6) (a4 := av8) (a5 := av10) (rest := [.int an319]) C1 (by decide) hav6 hM hP hD hS hl.1 (Nat.le_of_ble_eq_true rfl) ⟨by omega, by omega⟩ dL_law_1342 (fun an331 w332  H locs hq2 hM hP hD hS => ?_)
      have hP := P_perm (List.perm_append_comm_assoc w332 w320 tl) hP
      have hD := D_perm (List.perm_append_comm_assoc w332 w320 tl) hD
      have hEQ : an319 = an331 := by
        have u2 : Int32.toInt (-2) = -2 := by decide
        have u3 : Int32.toInt (-3) = -3 := by decide
        have u6 : Int32.toInt (-6) = -6 := by decide
        have u7 : Int32.toInt (-7) = -7 := by decide
        have u8 : Int32.toInt (-8) = -8 := by decide
        have u0 : Int32.toInt 0 = 0 := by decide
        apply Int32.toInt_inj.mp
        unfold sR at r1 r2 r3 r4
        rcases hq with ⟨rfl, hz⟩ <;> rcases hq2 with ⟨rfl, hz⟩ <;> first | rfl | omega
      subst hEQ
      refine lv_icmp_eq (tgt := 1350) hx hb dL_law_1345 (by decide) (fun _ => ?_) (fun c9 => absurd rfl c9)
      exact K _ _ _ _ ⟨w320, w332, tl, ts, fl0, wi0, sz0, fl1, wi1, sz1, fl2, wi2, sz2, fl3, wi3, sz3, f, ta, fm, fw, fh, hB, hM, hI, ⟨r0, r1, r2, r3, r4, i0, i1, i2⟩, hP, hD, hS, hl, by omega, by omega⟩
    · have hav6 := h9
      refine cx_spasteThi (ob := x) (a1 := 3) (a2 := av4) (a3 := av6) (a4 := av8) (a5 := av10) (rest := []) C1 (by decide) hav6 hB hP hD hS hl.1 (Nat.le_of_ble_eq_true rfl) ⟨by omega, by omega⟩ dL_law_1313 (fun an333 w334  H locs hq hB hP hD hS => ?_)
      have hP := P_perm (List.perm_append_comm_assoc w334 wm tl) hP
      have hD := D_perm (List.perm_append_comm_assoc w334 wm tl) hD
      refine lv_aload_n hx hb dL_law_1316 rfl (lv_at hl 1 rfl) ?_
      refine lv_aload_n hx hb dL_law_1317 rfl (lv_at hl 3 rfl) ?_
      refine lv_iload_n hx hb dL_law_1318 rfl (lv_at hl 0 rfl) ?_
      refine lv_iconst (v := 1) hx hb dL_law_1319 (by decide) ?_
      refine lv_iadd hx hb dL_law_1320 ?_
      refine lv_topi (fun jv335 ejv335 => ?_)
      obtain rfl : jv1 = jv335 := ejv1.trans ejv335.symm
      refine va_sld hx hb hX hbl hbA hS (sl_in (c := 1) ejv1 (by decide) (by decide) hi hL) dL_law_1321 ?_
      refine lv_topi (fun av336 eav336 => ?_)
      obtain rfl : 3 = av336 := eav2.trans eav336.symm
      refine lv_aload_n hx hb dL_law_1322 rfl (lv_at hl 3 rfl) ?_
      refine lv_iload_n hx hb dL_law_1323 rfl (lv_at hl 0 rfl) ?_
      refine lv_iconst (v := 2) hx hb dL_law_1324 (by decide) ?_
      refine lv_iadd hx hb dL_law_1325 ?_
      refine lv_topi (fun jv337 ejv337 => ?_)
      obtain rfl : jv3 = jv337 := ejv3.trans ejv337.symm
      refine va_sld hx hb hX hbl hbA hS (sl_in (c := 2) ejv3 (by decide) (by decide) hi hL) dL_law_1326 ?_
      refine lv_topi (fun av338 eav338 => ?_)
      obtain rfl : av4 = av338 := eav4.trans eav338.symm
      refine lv_aload_n hx hb dL_law_1327 rfl (lv_at hl 3 rfl) ?_
      refine lv_iload_n hx hb dL_law_1328 rfl (lv_at hl 0 rfl) ?_
      refine lv_iconst (v := 3) hx hb dL_law_1329 (by decide) ?_
      refine lv_iadd hx hb dL_law_1330 ?_
      refine lv_topi (fun jv339 ejv339 => ?_)
      obtain rfl : jv5 = jv339 := ejv5.trans ejv339.symm
      refine va_sld hx hb hX hbl hbA hS (sl_in (c := 3) ejv5 (by decide) (by decide) hi hL) dL_law_1331 ?_
      refine lv_topi (fun av340 eav340 => ?_)
      obtain rfl : av6 = av340 := eav6.trans eav340.symm
      refine lv_aload_n hx hb dL_law_1332 rfl (lv_at hl 3 rfl) ?_
      refine lv_iload_n hx hb dL_law_1333 rfl (lv_at hl 0 rfl) ?_
      refine lv_iconst (v := 4) hx hb dL_law_1334 (by decide) ?_
      refine lv_iadd hx hb dL_law_1335 ?_
      refine lv_topi (fun jv341 ejv341 => ?_)
      obtain rfl : jv7 = jv341 := ejv7.trans ejv341.symm
      refine va_sld hx hb hX hbl hbA hS (sl_in (c := 4) ejv7 (by decide) (by decide) hi hL) dL_law_1336 ?_
      refine lv_topi (fun av342 eav342 => ?_)
      obtain rfl : av8 = av342 := eav8.trans eav342.symm
      refine lv_aload_n hx hb dL_law_1337 rfl (lv_at hl 3 rfl) ?_
      refine lv_iload_n hx hb dL_law_1338 rfl (lv_at hl 0 rfl) ?_
      refine lv_iconst (v := 5) hx hb dL_law_1339 (by decide) ?_
      refine lv_iadd hx hb dL_law_1340 ?_
      refine lv_topi (fun jv343 ejv343 => ?_)
      obtain rfl : jv9 = jv343 := ejv9.trans ejv343.symm
      refine va_sld hx hb hX hbl hbA hS (sl_in (c := 5) ejv9 (by decide) (by decide) hi hL) dL_law_1341 ?_
      refine lv_topi (fun av344 eav344 => ?_)
      obtain rfl : av10 = av344 := eav10.trans eav344.symm
      refine cx_spasteMThi (ob := q) (a1 := 3) (a2 := av4) (a3 := av6) (a4 := av8) (a5 := av10) (rest := [.int an333]) C1 (by decide) hav6 hM hP hD hS hl.1 (Nat.le_of_ble_eq_true rfl) ⟨by omega, by omega⟩ dL_law_1342 (fun an345 w346  H locs hq2 hM hP hD hS => ?_)
      have hP := P_perm (List.perm_append_comm_assoc w346 w334 tl) hP
      have hD := D_perm (List.perm_append_comm_assoc w346 w334 tl) hD
      have hEQ : an333 = an345 := by
        have u2 : Int32.toInt (-2) = -2 := by decide
        have u3 : Int32.toInt (-3) = -3 := by decide
        have u6 : Int32.toInt (-6) = -6 := by decide
        have u7 : Int32.toInt (-7) = -7 := by decide
        have u8 : Int32.toInt (-8) = -8 := by decide
        have u0 : Int32.toInt 0 = 0 := by decide
        apply Int32.toInt_inj.mp
        unfold sR at r1 r2 r3 r4
        rcases hq with ⟨rfl, hz⟩ <;> rcases hq2 with ⟨rfl, hz⟩ <;> first | rfl | omega
      subst hEQ
      refine lv_icmp_eq (tgt := 1350) hx hb dL_law_1345 (by decide) (fun _ => ?_) (fun c9 => absurd rfl c9)
      exact K _ _ _ _ ⟨w334, w346, tl, ts, fl0, wi0, sz0, fl1, wi1, sz1, fl2, wi2, sz2, fl3, wi3, sz3, f, ta, fm, fw, fh, hB, hM, hI, ⟨r0, r1, r2, r3, r4, i0, i1, i2⟩, hP, hD, hS, hl, by omega, by omega⟩
  · have hav2 := h9
    refine cx_spastelo (ob := x) (a1 := av2) (a2 := av4) (a3 := av6) (a4 := av8) (a5 := av10) (rest := []) C1 hav2 hB hP hD hS hl.1 (Nat.le_of_ble_eq_true rfl) ⟨by omega, by omega⟩ dL_law_1313 (fun an347 w348  H locs hq hB hP hD hS => ?_)
    have hP := P_perm (List.perm_append_comm_assoc w348 wm tl) hP
    have hD := D_perm (List.perm_append_comm_assoc w348 wm tl) hD
    refine lv_aload_n hx hb dL_law_1316 rfl (lv_at hl 1 rfl) ?_
    refine lv_aload_n hx hb dL_law_1317 rfl (lv_at hl 3 rfl) ?_
    refine lv_iload_n hx hb dL_law_1318 rfl (lv_at hl 0 rfl) ?_
    refine lv_iconst (v := 1) hx hb dL_law_1319 (by decide) ?_
    refine lv_iadd hx hb dL_law_1320 ?_
    refine lv_topi (fun jv349 ejv349 => ?_)
    obtain rfl : jv1 = jv349 := ejv1.trans ejv349.symm
    refine va_sld hx hb hX hbl hbA hS (sl_in (c := 1) ejv1 (by decide) (by decide) hi hL) dL_law_1321 ?_
    refine lv_topi (fun av350 eav350 => ?_)
    obtain rfl : av2 = av350 := eav2.trans eav350.symm
    refine lv_aload_n hx hb dL_law_1322 rfl (lv_at hl 3 rfl) ?_
    refine lv_iload_n hx hb dL_law_1323 rfl (lv_at hl 0 rfl) ?_
    refine lv_iconst (v := 2) hx hb dL_law_1324 (by decide) ?_
    refine lv_iadd hx hb dL_law_1325 ?_
    refine lv_topi (fun jv351 ejv351 => ?_)
    obtain rfl : jv3 = jv351 := ejv3.trans ejv351.symm
    refine va_sld hx hb hX hbl hbA hS (sl_in (c := 2) ejv3 (by decide) (by decide) hi hL) dL_law_1326 ?_
    refine lv_topi (fun av352 eav352 => ?_)
    obtain rfl : av4 = av352 := eav4.trans eav352.symm
    refine lv_aload_n hx hb dL_law_1327 rfl (lv_at hl 3 rfl) ?_
    refine lv_iload_n hx hb dL_law_1328 rfl (lv_at hl 0 rfl) ?_
    refine lv_iconst (v := 3) hx hb dL_law_1329 (by decide) ?_
    refine lv_iadd hx hb dL_law_1330 ?_
    refine lv_topi (fun jv353 ejv353 => ?_)
    obtain rfl : jv5 = jv353 := ejv5.trans ejv353.symm
    refine va_sld hx hb hX hbl hbA hS (sl_in (c := 3) ejv5 (by decide) (by decide) hi hL) dL_law_1331 ?_
    refine lv_topi (fun av354 eav354 => ?_)
    obtain rfl : av6 = av354 := eav6.trans eav354.symm
    refine lv_aload_n hx hb dL_law_1332 rfl (lv_at hl 3 rfl) ?_
    refine lv_iload_n hx hb dL_law_1333 rfl (lv_at hl 0 rfl) ?_
    refine lv_iconst (v := 4) hx hb dL_law_1334 (by decide) ?_
    refine lv_iadd hx hb dL_law_1335 ?_
    refine lv_topi (fun jv355 ejv355 => ?_)
    obtain rfl : jv7 = jv355 := ejv7.trans ejv355.symm
    refine va_sld hx hb hX hbl hbA hS (sl_in (c := 4) ejv7 (by decide) (by decide) hi hL) dL_law_1336 ?_
    refine lv_topi (fun av356 eav356 => ?_)
    obtain rfl : av8 = av356 := eav8.trans eav356.symm
    refine lv_aload_n hx hb dL_law_1337 rfl (lv_at hl 3 rfl) ?_
    refine lv_iload_n hx hb dL_law_1338 rfl (lv_at hl 0 rfl) ?_
    refine lv_iconst (v := 5) hx hb dL_law_1339 (by decide) ?_
    refine lv_iadd hx hb dL_law_1340 ?_
    refine lv_topi (fun jv357 ejv357 => ?_)
    obtain rfl : jv9 = jv357 := ejv9.trans ejv357.symm
    refine va_sld hx hb hX hbl hbA hS (sl_in (c := 5) ejv9 (by decide) (by decide) hi hL) dL_law_1341 ?_
    refine lv_topi (fun av358 eav358 => ?_)
    obtain rfl : av10 = av358 := eav10.trans eav358.symm
    refine cx_spasteMlo (ob := q) (a1 := av2) (a2 := av4) (a3 := av6) (a4 := av8) (a5 := av10) (rest := [.int an347]) C1 hav2 hM hP hD hS hl.1 (Nat.le_of_ble_eq_true rfl) ⟨by omega, by omega⟩ dL_law_1342 (fun an359 w360  H locs hq2 hM hP hD hS => ?_)
    have hP := P_perm (List.perm_append_comm_assoc w360 w348 tl) hP
    have hD := D_perm (List.perm_append_comm_assoc w360 w348 tl) hD
    have hEQ : an347 = an359 := by
      have u2 : Int32.toInt (-2) = -2 := by decide
      have u3 : Int32.toInt (-3) = -3 := by decide
      have u6 : Int32.toInt (-6) = -6 := by decide
      have u7 : Int32.toInt (-7) = -7 := by decide
      have u8 : Int32.toInt (-8) = -8 := by decide
      have u0 : Int32.toInt 0 = 0 := by decide
      apply Int32.toInt_inj.mp
      unfold sR at r1 r2 r3 r4
      rcases hq with ⟨rfl, hz⟩ <;> rcases hq2 with ⟨rfl, hz⟩ <;> first | rfl | omega
    subst hEQ
    refine lv_icmp_eq (tgt := 1350) hx hb dL_law_1345 (by decide) (fun _ => ?_) (fun c9 => absurd rfl c9)
    exact K _ _ _ _ ⟨w348, w360, tl, ts, fl0, wi0, sz0, fl1, wi1, sz1, fl2, wi2, sz2, fl3, wi3, sz3, f, ta, fm, fw, fh, hB, hM, hI, ⟨r0, r1, r2, r3, r4, i0, i1, i2⟩, hP, hD, hS, hl, by omega, by omega⟩
  · have hav2 := h9
    refine cx_spastehi (ob := x) (a1 := av2) (a2 := av4) (a3 := av6) (a4 := av8) (a5 := av10) (rest := []) C1 hav2 hB hP hD hS hl.1 (Nat.le_of_ble_eq_true rfl) ⟨by omega, by omega⟩ dL_law_1313 (fun an361 w362  H locs hq hB hP hD hS => ?_)
    have hP := P_perm (List.perm_append_comm_assoc w362 wm tl) hP
    have hD := D_perm (List.perm_append_comm_assoc w362 wm tl) hD
    refine lv_aload_n hx hb dL_law_1316 rfl (lv_at hl 1 rfl) ?_
    refine lv_aload_n hx hb dL_law_1317 rfl (lv_at hl 3 rfl) ?_
    refine lv_iload_n hx hb dL_law_1318 rfl (lv_at hl 0 rfl) ?_
    refine lv_iconst (v := 1) hx hb dL_law_1319 (by decide) ?_
    refine lv_iadd hx hb dL_law_1320 ?_
    refine lv_topi (fun jv363 ejv363 => ?_)
    obtain rfl : jv1 = jv363 := ejv1.trans ejv363.symm
    refine va_sld hx hb hX hbl hbA hS (sl_in (c := 1) ejv1 (by decide) (by decide) hi hL) dL_law_1321 ?_
    refine lv_topi (fun av364 eav364 => ?_)
    obtain rfl : av2 = av364 := eav2.trans eav364.symm
    refine lv_aload_n hx hb dL_law_1322 rfl (lv_at hl 3 rfl) ?_
    refine lv_iload_n hx hb dL_law_1323 rfl (lv_at hl 0 rfl) ?_
    refine lv_iconst (v := 2) hx hb dL_law_1324 (by decide) ?_
    refine lv_iadd hx hb dL_law_1325 ?_
    refine lv_topi (fun jv365 ejv365 => ?_)
    obtain rfl : jv3 = jv365 := ejv3.trans ejv365.symm
    refine va_sld hx hb hX hbl hbA hS (sl_in (c := 2) ejv3 (by decide) (by decide) hi hL) dL_law_1326 ?_
    refine lv_topi (fun av366 eav366 => ?_)
    obtain rfl : av4 = av366 := eav4.trans eav366.symm
    refine lv_aload_n hx hb dL_law_1327 rfl (lv_at hl 3 rfl) ?_
    refine lv_iload_n hx hb dL_law_1328 rfl (lv_at hl 0 rfl) ?_
    refine lv_iconst (v := 3) hx hb dL_law_1329 (by decide) ?_
    refine lv_iadd hx hb dL_law_1330 ?_
    refine lv_topi (fun jv367 ejv367 => ?_)
    obtain rfl : jv5 = jv367 := ejv5.trans ejv367.symm
    refine va_sld hx hb hX hbl hbA hS (sl_in (c := 3) ejv5 (by decide) (by decide) hi hL) dL_law_1331 ?_
    refine lv_topi (fun av368 eav368 => ?_)
    obtain rfl : av6 = av368 := eav6.trans eav368.symm
    refine lv_aload_n hx hb dL_law_1332 rfl (lv_at hl 3 rfl) ?_
    refine lv_iload_n hx hb dL_law_1333 rfl (lv_at hl 0 rfl) ?_
    refine lv_iconst (v := 4) hx hb dL_law_1334 (by decide) ?_
    refine lv_iadd hx hb dL_law_1335 ?_
    refine lv_topi (fun jv369 ejv369 => ?_)
    obtain rfl : jv7 = jv369 := ejv7.trans ejv369.symm
    refine va_sld hx hb hX hbl hbA hS (sl_in (c := 4) ejv7 (by decide) (by decide) hi hL) dL_law_1336 ?_
    refine lv_topi (fun av370 eav370 => ?_)
    obtain rfl : av8 = av370 := eav8.trans eav370.symm
    refine lv_aload_n hx hb dL_law_1337 rfl (lv_at hl 3 rfl) ?_
    refine lv_iload_n hx hb dL_law_1338 rfl (lv_at hl 0 rfl) ?_
    refine lv_iconst (v := 5) hx hb dL_law_1339 (by decide) ?_
    refine lv_iadd hx hb dL_law_1340 ?_
    refine lv_topi (fun jv371 ejv371 => ?_)
    obtain rfl : jv9 = jv371 := ejv9.trans ejv371.symm
    refine va_sld hx hb hX hbl hbA hS (sl_in (c := 5) ejv9 (by decide) (by decide) hi hL) dL_law_1341 ?_
    refine lv_topi (fun av372 eav372 => ?_)
    obtain rfl : av10 = av372 := eav10.trans eav372.symm
    refine cx_spasteMhi (ob := q) (a1 := av2) (a2 := av4) (a3 := av6) (a4 := av8) (a5 := av10) (rest := [.int an361]) C1 hav2 hM hP hD hS hl.1 (Nat.le_of_ble_eq_true rfl) ⟨by omega, by omega⟩ dL_law_1342 (fun an373 w374  H locs hq2 hM hP hD hS => ?_)
    have hP := P_perm (List.perm_append_comm_assoc w374 w362 tl) hP
    have hD := D_perm (List.perm_append_comm_assoc w374 w362 tl) hD
    have hEQ : an361 = an373 := by
      have u2 : Int32.toInt (-2) = -2 := by decide
      have u3 : Int32.toInt (-3) = -3 := by decide
      have u6 : Int32.toInt (-6) = -6 := by decide
      have u7 : Int32.toInt (-7) = -7 := by decide
      have u8 : Int32.toInt (-8) = -8 := by decide
      have u0 : Int32.toInt 0 = 0 := by decide
      apply Int32.toInt_inj.mp
      unfold sR at r1 r2 r3 r4
      rcases hq with ⟨rfl, hz⟩ <;> rcases hq2 with ⟨rfl, hz⟩ <;> first | rfl | omega
    subst hEQ
    refine lv_icmp_eq (tgt := 1350) hx hb dL_law_1345 (by decide) (fun _ => ?_) (fun c9 => absurd rfl c9)
    exact K _ _ _ _ ⟨w362, w374, tl, ts, fl0, wi0, sz0, fl1, wi1, sz1, fl2, wi2, sz2, fl3, wi3, sz3, f, ta, fm, fw, fh, hB, hM, hI, ⟨r0, r1, r2, r3, r4, i0, i1, i2⟩, hP, hD, hS, hl, by omega, by omega⟩
