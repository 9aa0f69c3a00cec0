set_option maxHeartbeats 4000000 in
set_option maxRecDepth 100000 in
theorem law_30 {p : Program} {e : Env} {s : State} {m : MethodId} {below : List Frame} {meth : Method} {c : Code} {l : Launch} {b L : Nat} {xs : Nat → Int32} {A : Nat → Prop} {G : va_G} {y : Nat → ClassId} {aK aV : Nat → Nat} {H : Heap} {locs : List Loc} {cells slots : Nat} {ls : Array Slot} {Q : State → Prop} (C0 : lawC p s m meth c b L xs A G y aK aV) {x q : Nat} {i : Int32} (hi : 0 ≤ i.toInt ∧ i.toInt + 6 ≤ (L : Int)) (I : LI s b A G y x q i H locs ls cells slots) (K : ∀ H1 locs1 cells1 slots1, LI s b A G y x q i H1 locs1 ls cells1 slots1 → W p l e room_1 s m #[Value.ref b] below meth c H1 locs1 cells1 slots1 Q (F0 m 1350 ls [])) : W p l e room_1 s m #[Value.ref b] below meth c H locs cells slots Q (F0 m 1102 ls []) := by
  have C1 := C0
  obtain ⟨hx, hb, hr, hml, hown, hw0, hX, hbl, hbA, hA, hAf, hlocks, hK, hE, hL⟩ := C0
  obtain ⟨w, wm, tl, ts, fl0, wi0, sz0, fl1, wi1, sz1, fl2, wi2, sz2, fl3, wi3, sz3, tp, rf, rp, f, ta, fm, fw, fh, tq, fk, fp, hB, hM, hI, hR, hP, hD, hS, hl, hc1, hc2⟩ := I
  obtain ⟨r0, r1, r2, r3, r4, i0, i1, i2, ttp, ttf, ttq⟩ := hR
  refine lv_aload_n hx hb dL_law_1102 rfl (lv_at hl 2 rfl) ?_
  refine lv_aload_n hx hb dL_law_1103 rfl (lv_at hl 3 rfl) ?_
  refine lv_iload_n hx hb dL_law_1104 rfl (lv_at hl 0 rfl) ?_
  refine lv_iconst (v := 1) hx hb dL_law_1105 (by decide) ?_
  refine lv_iadd hx hb dL_law_1106 ?_
  refine lv_topi (fun jv1 ejv1 => ?_)
  refine va_sld hx hb hX hbl hbA hS (sl_in (c := 1) ejv1 (by decide) (by decide) hi hL) dL_law_1107 ?_
  refine lv_topi (fun av2 eav2 => ?_)
  refine cx_sX9_count (ob := x) (a1 := av2) (rest := []) C1  hB hP hD hS hl.1 (Nat.le_of_ble_eq_true rfl) ⟨by omega, by omega⟩ dL_law_1108 (fun an3 w4  H locs hq hB hP hD hS => ?_)
  have hP := P_perm (List.perm_append_comm_assoc w4 wm tl) hP
  have hD := D_perm (List.perm_append_comm_assoc w4 wm tl) hD
  refine lv_pop hx hb dL_law_1111 rfl ?_
  refine lv_aload_n hx hb dL_law_1112 rfl (lv_at hl 1 rfl) ?_
  refine lv_aload_n hx hb dL_law_1113 rfl (lv_at hl 3 rfl) ?_
  refine lv_iload_n hx hb dL_law_1114 rfl (lv_at hl 0 rfl) ?_
  refine lv_iconst (v := 1) hx hb dL_law_1115 (by decide) ?_
  refine lv_iadd hx hb dL_law_1116 ?_
  refine lv_topi (fun jv5 ejv5 => ?_)
  obtain rfl : jv1 = jv5 := ejv1.trans ejv5.symm
  refine va_sld hx hb hX hbl hbA hS (sl_in (c := 1) ejv1 (by decide) (by decide) hi hL) dL_law_1117 ?_
  refine lv_topi (fun av6 eav6 => ?_)
  obtain rfl : av2 = av6 := eav2.trans eav6.symm
  refine cx_sX10_count (ob := q) (a1 := av2) (rest := []) C1  hM hP hD hS hl.1 (Nat.le_of_ble_eq_true rfl) ⟨by omega, by omega⟩ dL_law_1118 (fun an7 w8  H locs hq2 hM hP hD hS => ?_)
  have hP := P_perm (List.perm_append_comm_assoc w8 w4 tl) hP
  have hD := D_perm (List.perm_append_comm_assoc w8 w4 tl) hD
  refine lv_pop hx hb dL_law_1121 rfl ?_
  refine lv_goto (tgt := 1350) hx hb dL_law_1122 (by decide) ?_
  exact K _ _ _ _ ⟨w4, w8, tl, ts, fl0, wi0, sz0, fl1, wi1, sz1, fl2, wi2, sz2, fl3, wi3, sz3, tp, rf, rp, f, ta, fm, fw, fh, tq, fk, fp, hB, hM, hI, ⟨r0, r1, r2, r3, r4, i0, i1, i2, ttp, ttf, ttq⟩, hP, hD, hS, hl, by omega, by omega⟩

set_option maxHeartbeats 4000000 in
set_option maxRecDepth 100000 in
theorem law_31 {p : Program} {e : Env} {s : State} {m : MethodId} {below : List Frame} {meth : Method} {c : Code} {l : Launch} {b L : Nat} {xs : Nat → Int32} {A : Nat → Prop} {G : va_G} {y : Nat → ClassId} {aK aV : Nat → Nat} {H : Heap} {locs : List Loc} {cells slots : Nat} {ls : Array Slot} {Q : State → Prop} (C0 : lawC p s m meth c b L xs A G y aK aV) {x q : Nat} {i : Int32} (hi : 0 ≤ i.toInt ∧ i.toInt + 6 ≤ (L : Int)) (I : LI s b A G y x q i H locs ls cells slots) (K : ∀ H1 locs1 cells1 slots1, LI s b A G y x q i H1 locs1 ls cells1 slots1 → W p l e room_1 s m #[Value.ref b] below meth c H1 locs1 cells1 slots1 Q (F0 m 1350 ls [])) : W p l e room_1 s m #[Value.ref b] below meth c H locs cells slots Q (F0 m 1125 ls []) := by
  have C1 := C0
  obtain ⟨hx, hb, hr, hml, hown, hw0, hX, hbl, hbA, hA, hAf, hlocks, hK, hE, hL⟩ := C0
  obtain ⟨w, wm, tl, ts, fl0, wi0, sz0, fl1, wi1, sz1, fl2, wi2, sz2, fl3, wi3, sz3, tp, rf, rp, f, ta, fm, fw, fh, tq, fk, fp, hB, hM, hI, hR, hP, hD, hS, hl, hc1, hc2⟩ := I
  obtain ⟨r0, r1, r2, r3, r4, i0, i1, i2, ttp, ttf, ttq⟩ := hR
  refine lv_aload_n hx hb dL_law_1125 rfl (lv_at hl 2 rfl) ?_
  refine lv_aload_n hx hb dL_law_1126 rfl (lv_at hl 3 rfl) ?_
  refine lv_iload_n hx hb dL_law_1127 rfl (lv_at hl 0 rfl) ?_
  refine lv_iconst (v := 1) hx hb dL_law_1128 (by decide) ?_
  refine lv_iadd hx hb dL_law_1129 ?_
  refine lv_topi (fun jv1 ejv1 => ?_)
  refine va_sld hx hb hX hbl hbA hS (sl_in (c := 1) ejv1 (by decide) (by decide) hi hL) dL_law_1130 ?_
  refine lv_topi (fun av2 eav2 => ?_)
  rcases im_c5 av2 with h9 | h9 | h9 | h9 | h9
  · obtain rfl : 0 = av2 := h9.symm
    obtain ⟨t0, t1, t2, rfl, j0, j1, j2⟩ := hI
    rcases j0 with ⟨ze, zt⟩ | ⟨z, ze, zt⟩
    · skip
      have hB : BC y x ts fl0 wi0 sz0 fl1 wi1 sz1 fl2 wi2 sz2 fl3 wi3 sz3 tp rf rp (va_up f 0 none) w := by rw [upE ze]; exact hB
      subst zt
      have hn9 : nn f = nn (va_up f 0 (some 0)) + 1 := by simp [nn, n1, va_up, ze] <;> omega
      have hc3 : 1 ≤ nn f := by omega
      refine cx_skeep0n (ob := x) (fim := f) (rest := []) C1 hB hP hD hS hl.1 (Nat.le_of_ble_eq_true rfl) ⟨by omega, by omega⟩ dL_law_1131 (fun an3 w4 f2 tk im2 H locs hq hB hT hP hD hS => ?_)
      obtain ⟨hq0, hf2, -⟩ := hq
      have hq : an3 = 0 ∧ True := ⟨hq0, trivial⟩
      rw [up2] at hf2
      have hP := P_perm ((List.Perm.append_left (w4 ++ tk) (List.Perm.append_left wm (p_0 [] t1 t2))).trans (pk_to (p_0 tk t1 t2)).symm) hP
      have hD := D_perm ((List.Perm.append_left (w4 ++ tk) (List.Perm.append_left wm (p_0 [] t1 t2))).trans (pk_to (p_0 tk t1 t2)).symm) hD
      have gf0 : f2 0 = some im2 := by rw [hf2]; exact va_up_self _ _ _
      have gf2 : f2 1 = f 1 := by rw [hf2]; exact va_up_ne _ _ (by decide)
      have gf3 : f2 2 = f 2 := by rw [hf2]; exact va_up_ne _ _ (by decide)
      have hI : IM y f2 (tk ++ (t1 ++ t2)) := ⟨tk, t1, t2, rfl, Or.inr ⟨im2, gf0, hT⟩, (by rw [gf2]; exact j1), (by rw [gf3]; exact j2)⟩
      have hn8 : nn f = nn f2 + 1 := by simp only [nn, n1, gf0, ze, gf2, gf3]; omega
      have hP := P_perm (List.perm_append_comm_assoc w4 wm (tk ++ (t1 ++ t2))) hP
      have hD := D_perm (List.perm_append_comm_assoc w4 wm (tk ++ (t1 ++ t2))) hD
      refine lv_pop hx hb dL_law_1134 rfl ?_
      refine lv_aload_n hx hb dL_law_1135 rfl (lv_at hl 1 rfl) ?_
      refine lv_aload_n hx hb dL_law_1136 rfl (lv_at hl 3 rfl) ?_
      refine lv_iload_n hx hb dL_law_1137 rfl (lv_at hl 0 rfl) ?_
      refine lv_iconst (v := 1) hx hb dL_law_1138 (by decide) ?_
      refine lv_iadd hx hb dL_law_1139 ?_
      refine lv_topi (fun jv5 ejv5 => ?_)
      obtain rfl : jv1 = jv5 := ejv1.trans ejv5.symm
      refine va_sld hx hb hX hbl hbA hS (sl_in (c := 1) ejv1 (by decide) (by decide) hi hL) dL_law_1140 ?_
      refine lv_topi (fun av6 eav6 => ?_)
      obtain rfl : 0 = av6 := eav2.trans eav6.symm
      refine cx_fkeepM0 (ob := q)  (rest := []) C1  hM hP hD hS hl.1 (Nat.le_of_ble_eq_true rfl) ⟨by omega, by omega⟩ dL_law_1141 (fun an7 w8 fh_9 H locs hq2 hM hP hD hS => ?_)
      have hP := P_perm (List.perm_append_comm_assoc w8 w4 (tk ++ (t1 ++ t2))) hP
      have hD := D_perm (List.perm_append_comm_assoc w8 w4 (tk ++ (t1 ++ t2))) hD
      refine lv_pop hx hb dL_law_1144 rfl ?_
      refine lv_goto (tgt := 1350) hx hb dL_law_1145 (by decide) ?_
      obtain ⟨-, y0, y1, y2, -⟩ := hq2
      have ix0 : iR (f2 0) (fh_9 0).toInt := Or.inr ⟨by rw [gf0]; simp, by omega⟩
      have ix1 : iR (f2 1) (fh_9 1).toInt := by rw [y1, gf2]; exact i1
      have ix2 : iR (f2 2) (fh_9 2).toInt := by rw [y2, gf3]; exact i2
      exact K _ _ _ _ ⟨w4, w8, (tk ++ (t1 ++ t2)), ts, fl0, wi0, sz0, fl1, wi1, sz1, fl2, wi2, sz2, fl3, wi3, sz3, tp, rf, rp, f2, ta, fm, fw, fh_9, tq, fk, fp, hB, hM, hI, ⟨r0, r1, r2, r3, r4, ix0, ix1, ix2, ttp, ttf, ttq⟩, hP, hD, hS, hl, by omega, by omega⟩
    · skip
      have hB : BC y x ts fl0 wi0 sz0 fl1 wi1 sz1 fl2 wi2 sz2 fl3 wi3 sz3 tp rf rp (va_up f 0 (some z)) w := by rw [upE ze]; exact hB
      have hP := P_perm (pk_to (p_0 t0 t1 t2)) hP
      have hD := D_perm (pk_to (p_0 t0 t1 t2)) hD
      refine cx_skeep0s (ob := x) (fim := f) (im := z) (rest := []) C1 hB zt hP hD hS hl.1 (Nat.le_of_ble_eq_true rfl) ⟨by omega, by omega⟩ dL_law_1131 (fun an10 w11 tk H locs hq hB hT hP hD hS => ?_)
      rw [upE ze] at hB
      have hP := P_perm (pk_to (p_0 tk t1 t2)).symm hP
      have hD := D_perm (pk_to (p_0 tk t1 t2)).symm hD
      have hI : IM y f (tk ++ (t1 ++ t2)) := ⟨tk, t1, t2, rfl, Or.inr ⟨z, ze, hT⟩, j1, j2⟩
      have hP := P_perm (List.perm_append_comm_assoc w11 wm (tk ++ (t1 ++ t2))) hP
      have hD := D_perm (List.perm_append_comm_assoc w11 wm (tk ++ (t1 ++ t2))) hD
      refine lv_pop hx hb dL_law_1134 rfl ?_
      refine lv_aload_n hx hb dL_law_1135 rfl (lv_at hl 1 rfl) ?_
      refine lv_aload_n hx hb dL_law_1136 rfl (lv_at hl 3 rfl) ?_
      refine lv_iload_n hx hb dL_law_1137 rfl (lv_at hl 0 rfl) ?_
      refine lv_iconst (v := 1) hx hb dL_law_1138 (by decide) ?_
      refine lv_iadd hx hb dL_law_1139 ?_
      refine lv_topi (fun jv12 ejv12 => ?_)
      obtain rfl : jv1 = jv12 := ejv1.trans ejv12.symm
      refine va_sld hx hb hX hbl hbA hS (sl_in (c := 1) ejv1 (by decide) (by decide) hi hL) dL_law_1140 ?_
      refine lv_topi (fun av13 eav13 => ?_)
      obtain rfl : 0 = av13 := eav2.trans eav13.symm
      refine cx_fkeepM0 (ob := q)  (rest := []) C1  hM hP hD hS hl.1 (Nat.le_of_ble_eq_true rfl) ⟨by omega, by omega⟩ dL_law_1141 (fun an14 w15 fh_16 H locs hq2 hM hP hD hS => ?_)
      have hP := P_perm (List.perm_append_comm_assoc w15 w11 (tk ++ (t1 ++ t2))) hP
      have hD := D_perm (List.perm_append_comm_assoc w15 w11 (tk ++ (t1 ++ t2))) hD
      refine lv_pop hx hb dL_law_1144 rfl ?_
      refine lv_goto (tgt := 1350) hx hb dL_law_1145 (by decide) ?_
      obtain ⟨-, y0, y1, y2, -⟩ := hq2
      have ix0 : iR (f 0) (fh_16 0).toInt := Or.inr ⟨by rw [ze]; simp, by omega⟩
      have ix1 : iR (f 1) (fh_16 1).toInt := by rw [y1]; exact i1
      have ix2 : iR (f 2) (fh_16 2).toInt := by rw [y2]; exact i2
      exact K _ _ _ _ ⟨w11, w15, (tk ++ (t1 ++ t2)), ts, fl0, wi0, sz0, fl1, wi1, sz1, fl2, wi2, sz2, fl3, wi3, sz3, tp, rf, rp, f, ta, fm, fw, fh_16, tq, fk, fp, hB, hM, hI, ⟨r0, r1, r2, r3, r4, ix0, ix1, ix2, ttp, ttf, ttq⟩, hP, hD, hS, hl, by omega, by omega⟩
  · obtain rfl : 1 = av2 := h9.symm
    obtain ⟨t0, t1, t2, rfl, j0, j1, j2⟩ := hI
    rcases j1 with ⟨ze, zt⟩ | ⟨z, ze, zt⟩
    · skip
      have hB : BC y x ts fl0 wi0 sz0 fl1 wi1 sz1 fl2 wi2 sz2 fl3 wi3 sz3 tp rf rp (va_up f 1 none) w := by rw [upE ze]; exact hB
      subst zt
      have hn9 : nn f = nn (va_up f 1 (some 0)) + 1 := by simp [nn, n1, va_up, ze] <;> omega
      have hc3 : 1 ≤ nn f := by omega
      refine cx_skeep1n (ob := x) (fim := f) (rest := []) C1 hB hP hD hS hl.1 (Nat.le_of_ble_eq_true rfl) ⟨by omega, by omega⟩ dL_law_1131 (fun an17 w18 f2 tk im2 H locs hq hB hT hP hD hS => ?_)
      obtain ⟨hq0, hf2, -⟩ := hq
      have hq : an17 = 0 ∧ True := ⟨hq0, trivial⟩
      rw [up2] at hf2
      have hP := P_perm ((List.Perm.append_left (w18 ++ tk) (List.Perm.append_left wm (p_1 t0 [] t2))).trans (pk_to (p_1 t0 tk t2)).symm) hP
      have hD := D_perm ((List.Perm.append_left (w18 ++ tk) (List.Perm.append_left wm (p_1 t0 [] t2))).trans (pk_to (p_1 t0 tk t2)).symm) hD
      have gf0 : f2 1 = some im2 := by rw [hf2]; exact va_up_self _ _ _
      have gf1 : f2 0 = f 0 := by rw [hf2]; exact va_up_ne _ _ (by decide)
      have gf3 : f2 2 = f 2 := by rw [hf2]; exact va_up_ne _ _ (by decide)
      have hI : IM y f2 (t0 ++ (tk ++ t2)) := ⟨t0, tk, t2, rfl, (by rw [gf1]; exact j0), Or.inr ⟨im2, gf0, hT⟩, (by rw [gf3]; exact j2)⟩
      have hn8 : nn f = nn f2 + 1 := by simp only [nn, n1, gf0, ze, gf1, gf3]; omega
      have hP := P_perm (List.perm_append_comm_assoc w18 wm (t0 ++ (tk ++ t2))) hP
      have hD := D_perm (List.perm_append_comm_assoc w18 wm (t0 ++ (tk ++ t2))) hD
      refine lv_pop hx hb dL_law_1134 rfl ?_
      refine lv_aload_n hx hb dL_law_1135 rfl (lv_at hl 1 rfl) ?_
      refine lv_aload_n hx hb dL_law_1136 rfl (lv_at hl 3 rfl) ?_
      refine lv_iload_n hx hb dL_law_1137 rfl (lv_at hl 0 rfl) ?_
      refine lv_iconst (v := 1) hx hb dL_law_1138 (by decide) ?_
      refine lv_iadd hx hb dL_law_1139 ?_
      refine lv_topi (fun jv19 ejv19 => ?_)
      obtain rfl : jv1 = jv19 := ejv1.trans ejv19.symm
      refine va_sld hx hb hX hbl hbA hS (sl_in (c := 1) ejv1 (by decide) (by decide) hi hL) dL_law_1140 ?_
      refine lv_topi (fun av20 eav20 => ?_)
      obtain rfl : 1 = av20 := eav2.trans eav20.symm
      refine cx_fkeepM1 (ob := q)  (rest := []) C1  hM hP hD hS hl.1 (Nat.le_of_ble_eq_true rfl) ⟨by omega, by omega⟩ dL_law_1141 (fun an21 w22 fh_23 H locs hq2 hM hP hD hS => ?_)
      have hP := P_perm (List.perm_append_comm_assoc w22 w18 (t0 ++ (tk ++ t2))) hP
      have hD := D_perm (List.perm_append_comm_assoc w22 w18 (t0 ++ (tk ++ t2))) hD
      refine lv_pop hx hb dL_law_1144 rfl ?_
      refine lv_goto (tgt := 1350) hx hb dL_law_1145 (by decide) ?_
      obtain ⟨-, y0, y1, y2, -⟩ := hq2
      have ix0 : iR (f2 0) (fh_23 0).toInt := by rw [y0, gf1]; exact i0
      have ix1 : iR (f2 1) (fh_23 1).toInt := Or.inr ⟨by rw [gf0]; simp, by omega⟩
      have ix2 : iR (f2 2) (fh_23 2).toInt := by rw [y2, gf3]; exact i2
      exact K _ _ _ _ ⟨w18, w22, (t0 ++ (tk ++ t2)), ts, fl0, wi0, sz0, fl1, wi1, sz1, fl2, wi2, sz2, fl3, wi3, sz3, tp, rf, rp, f2, ta, fm, fw, fh_23, tq, fk, fp, hB, hM, hI, ⟨r0, r1, r2, r3, r4, ix0, ix1, ix2, ttp, ttf, ttq⟩, hP, hD, hS, hl, by omega, by omega⟩
    · skip
      have hB : BC y x ts fl0 wi0 sz0 fl1 wi1 sz1 fl2 wi2 sz2 fl3 wi3 sz3 tp rf rp (va_up f 1 (some z)) w := by rw [upE ze]; exact hB
      have hP := P_perm (pk_to (p_1 t0 t1 t2)) hP
      have hD := D_perm (pk_to (p_1 t0 t1 t2)) hD
      refine cx_skeep1s (ob := x) (fim := f) (im := z) (rest := []) C1 hB zt hP hD hS hl.1 (Nat.le_of_ble_eq_true rfl) ⟨by omega, by omega⟩ dL_law_1131 (fun an24 w25 tk H locs hq hB hT hP hD hS => ?_)
      rw [upE ze] at hB
      have hP := P_perm (pk_to (p_1 t0 tk t2)).symm hP
      have hD := D_perm (pk_to (p_1 t0 tk t2)).symm hD
      have hI : IM y f (t0 ++ (tk ++ t2)) := ⟨t0, tk, t2, rfl, j0, Or.inr ⟨z, ze, hT⟩, j2⟩
      have hP := P_perm (List.perm_append_comm_assoc w25 wm (t0 ++ (tk ++ t2))) hP
      have hD := D_perm (List.perm_append_comm_assoc w25 wm (t0 ++ (tk ++ t2))) hD
      refine lv_pop hx hb dL_law_1134 rfl ?_
      refine lv_aload_n hx hb dL_law_1135 rfl (lv_at hl 1 rfl) ?_
      refine lv_aload_n hx hb dL_law_1136 rfl (lv_at hl 3 rfl) ?_
      refine lv_iload_n hx hb dL_law_1137 rfl (lv_at hl 0 rfl) ?_
      refine lv_iconst (v := 1) hx hb dL_law_1138 (by decide) ?_
      refine lv_iadd hx hb dL_law_1139 ?_
      refine lv_topi (fun jv26 ejv26 => ?_)
      obtain rfl : jv1 = jv26 := ejv1.trans ejv26.symm
      refine va_sld hx hb hX hbl hbA hS (sl_in (c := 1) ejv1 (by decide) (by decide) hi hL) dL_law_1140 ?_
      refine lv_topi (fun av27 eav27 => ?_)
      obtain rfl : 1 = av27 := eav2.trans eav27.symm
      refine cx_fkeepM1 (ob := q)  (rest := []) C1  hM hP hD hS hl.1 (Nat.le_of_ble_eq_true rfl) ⟨by omega, by omega⟩ dL_law_1141 (fun an28 w29 fh_30 H locs hq2 hM hP hD hS => ?_)
      have hP := P_perm (List.perm_append_comm_assoc w29 w25 (t0 ++ (tk ++ t2))) hP
      have hD := D_perm (List.perm_append_comm_assoc w29 w25 (t0 ++ (tk ++ t2))) hD
      refine lv_pop hx hb dL_law_1144 rfl ?_
      refine lv_goto (tgt := 1350) hx hb dL_law_1145 (by decide) ?_
      obtain ⟨-, y0, y1, y2, -⟩ := hq2
      have ix0 : iR (f 0) (fh_30 0).toInt := by rw [y0]; exact i0
      have ix1 : iR (f 1) (fh_30 1).toInt := Or.inr ⟨by rw [ze]; simp, by omega⟩
      have ix2 : iR (f 2) (fh_30 2).toInt := by rw [y2]; exact i2
      exact K _ _ _ _ ⟨w25, w29, (t0 ++ (tk ++ t2)), ts, fl0, wi0, sz0, fl1, wi1, sz1, fl2, wi2, sz2, fl3, wi3, sz3, tp, rf, rp, f, ta, fm, fw, fh_30, tq, fk, fp, hB, hM, hI, ⟨r0, r1, r2, r3, r4, ix0, ix1, ix2, ttp, ttf, ttq⟩, hP, hD, hS, hl, by omega, by omega⟩
  · obtain rfl : 2 = av2 := h9.symm
    obtain ⟨t0, t1, t2, rfl, j0, j1, j2⟩ := hI
    rcases j2 with ⟨ze, zt⟩ | ⟨z, ze, zt⟩
    · skip
      have hB : BC y x ts fl0 wi0 sz0 fl1 wi1 sz1 fl2 wi2 sz2 fl3 wi3 sz3 tp rf rp (va_up f 2 none) w := by rw [upE ze]; exact hB
      subst zt
      have hn9 : nn f = nn (va_up f 2 (some 0)) + 1 := by simp [nn, n1, va_up, ze] <;> omega
      have hc3 : 1 ≤ nn f := by omega
      refine cx_skeep2n (ob := x) (fim := f) (rest := []) C1 hB hP hD hS hl.1 (Nat.le_of_ble_eq_true rfl) ⟨by omega, by omega⟩ dL_law_1131 (fun an31 w32 f2 tk im2 H locs hq hB hT hP hD hS => ?_)
      obtain ⟨hq0, hf2, -⟩ := hq
      have hq : an31 = 0 ∧ True := ⟨hq0, trivial⟩
      rw [up2] at hf2
      have hP := P_perm ((List.Perm.append_left (w32 ++ tk) (List.Perm.append_left wm (p_2 t0 t1 []))).trans (pk_to (p_2 t0 t1 tk)).symm) hP
      have hD := D_perm ((List.Perm.append_left (w32 ++ tk) (List.Perm.append_left wm (p_2 t0 t1 []))).trans (pk_to (p_2 t0 t1 tk)).symm) hD
      have gf0 : f2 2 = some im2 := by rw [hf2]; exact va_up_self _ _ _
      have gf1 : f2 0 = f 0 := by rw [hf2]; exact va_up_ne _ _ (by decide)
      have gf2 : f2 1 = f 1 := by rw [hf2]; exact va_up_ne _ _ (by decide)
      have hI : IM y f2 (t0 ++ (t1 ++ tk)) := ⟨t0, t1, tk, rfl, (by rw [gf1]; exact j0), (by rw [gf2]; exact j1), Or.inr ⟨im2, gf0, hT⟩⟩
      have hn8 : nn f = nn f2 + 1 := by simp only [nn, n1, gf0, ze, gf1, gf2]; omega
      have hP := P_perm (List.perm_append_comm_assoc w32 wm (t0 ++ (t1 ++ tk))) hP
      have hD := D_perm (List.perm_append_comm_assoc w32 wm (t0 ++ (t1 ++ tk))) hD
      refine lv_pop hx hb dL_law_1134 rfl ?_
      refine lv_aload_n hx hb dL_law_1135 rfl (lv_at hl 1 rfl) ?_
      refine lv_aload_n hx hb dL_law_1136 rfl (lv_at hl 3 rfl) ?_
      refine lv_iload_n hx hb dL_law_1137 rfl (lv_at hl 0 rfl) ?_
      refine lv_iconst (v := 1) hx hb dL_law_1138 (by decide) ?_
      refine lv_iadd hx hb dL_law_1139 ?_
      refine lv_topi (fun jv33 ejv33 => ?_)
      obtain rfl : jv1 = jv33 := ejv1.trans ejv33.symm
      refine va_sld hx hb hX hbl hbA hS (sl_in (c := 1) ejv1 (by decide) (by decide) hi hL) dL_law_1140 ?_
      refine lv_topi (fun av34 eav34 => ?_)
      obtain rfl : 2 = av34 := eav2.trans eav34.symm
      refine cx_fkeepM2 (ob := q)  (rest := []) C1  hM hP hD hS hl.1 (Nat.le_of_ble_eq_true rfl) ⟨by omega, by omega⟩ dL_law_1141 (fun an35 w36 fh_37 H locs hq2 hM hP hD hS => ?_)
      have hP := P_perm (List.perm_append_comm_assoc w36 w32 (t0 ++ (t1 ++ tk))) hP
      have hD := D_perm (List.perm_append_comm_assoc w36 w32 (t0 ++ (t1 ++ tk))) hD
      refine lv_pop hx hb dL_law_1144 rfl ?_
      refine lv_goto (tgt := 1350) hx hb dL_law_1145 (by decide) ?_
      obtain ⟨-, y0, y1, y2, -⟩ := hq2
      have ix0 : iR (f2 0) (fh_37 0).toInt := by rw [y0, gf1]; exact i0
      have ix1 : iR (f2 1) (fh_37 1).toInt := by rw [y1, gf2]; exact i1
      have ix2 : iR (f2 2) (fh_37 2).toInt := Or.inr ⟨by rw [gf0]; simp, by omega⟩
      exact K _ _ _ _ ⟨w32, w36, (t0 ++ (t1 ++ tk)), ts, fl0, wi0, sz0, fl1, wi1, sz1, fl2, wi2, sz2, fl3, wi3, sz3, tp, rf, rp, f2, ta, fm, fw, fh_37, tq, fk, fp, hB, hM, hI, ⟨r0, r1, r2, r3, r4, ix0, ix1, ix2, ttp, ttf, ttq⟩, hP, hD, hS, hl, by omega, by omega⟩
    · skip
      have hB : BC y x ts fl0 wi0 sz0 fl1 wi1 sz1 fl2 wi2 sz2 fl3 wi3 sz3 tp rf rp (va_up f 2 (some z)) w := by rw [upE ze]; exact hB
      have hP := P_perm (pk_to (p_2 t0 t1 t2)) hP
      have hD := D_perm (pk_to (p_2 t0 t1 t2)) hD
      refine cx_skeep2s (ob := x) (fim := f) (im := z) (rest := []) C1 hB zt hP hD hS hl.1 (Nat.le_of_ble_eq_true rfl) ⟨by omega, by omega⟩ dL_law_1131 (fun an38 w39 tk H locs hq hB hT hP hD hS => ?_)
      rw [upE ze] at hB
      have hP := P_perm (pk_to (p_2 t0 t1 tk)).symm hP
      have hD := D_perm (pk_to (p_2 t0 t1 tk)).symm hD
      have hI : IM y f (t0 ++ (t1 ++ tk)) := ⟨t0, t1, tk, rfl, j0, j1, Or.inr ⟨z, ze, hT⟩⟩
      have hP := P_perm (List.perm_append_comm_assoc w39 wm (t0 ++ (t1 ++ tk))) hP
      have hD := D_perm (List.perm_append_comm_assoc w39 wm (t0 ++ (t1 ++ tk))) hD
      refine lv_pop hx hb dL_law_1134 rfl ?_
      refine lv_aload_n hx hb dL_law_1135 rfl (lv_at hl 1 rfl) ?_
      refine lv_aload_n hx hb dL_law_1136 rfl (lv_at hl 3 rfl) ?_
      refine lv_iload_n hx hb dL_law_1137 rfl (lv_at hl 0 rfl) ?_
      refine lv_iconst (v := 1) hx hb dL_law_1138 (by decide) ?_
      refine lv_iadd hx hb dL_law_1139 ?_
      refine lv_topi (fun jv40 ejv40 => ?_)
      obtain rfl : jv1 = jv40 := ejv1.trans ejv40.symm
      refine va_sld hx hb hX hbl hbA hS (sl_in (c := 1) ejv1 (by decide) (by decide) hi hL) dL_law_1140 ?_
      refine lv_topi (fun av41 eav41 => ?_)
      obtain rfl : 2 = av41 := eav2.trans eav41.symm
      refine cx_fkeepM2 (ob := q)  (rest := []) C1  hM hP hD hS hl.1 (Nat.le_of_ble_eq_true rfl) ⟨by omega, by omega⟩ dL_law_1141 (fun an42 w43 fh_44 H locs hq2 hM hP hD hS => ?_)
      have hP := P_perm (List.perm_append_comm_assoc w43 w39 (t0 ++ (t1 ++ tk))) hP
      have hD := D_perm (List.perm_append_comm_assoc w43 w39 (t0 ++ (t1 ++ tk))) hD
      refine lv_pop hx hb dL_law_1144 rfl ?_
      refine lv_goto (tgt := 1350) hx hb dL_law_1145 (by decide) ?_
      obtain ⟨-, y0, y1, y2, -⟩ := hq2
      have ix0 : iR (f 0) (fh_44 0).toInt := by rw [y0]; exact i0
      have ix1 : iR (f 1) (fh_44 1).toInt := by rw [y1]; exact i1
      have ix2 : iR (f 2) (fh_44 2).toInt := Or.inr ⟨by rw [ze]; simp, by omega⟩
      exact K _ _ _ _ ⟨w39, w43, (t0 ++ (t1 ++ tk)), ts, fl0, wi0, sz0, fl1, wi1, sz1, fl2, wi2, sz2, fl3, wi3, sz3, tp, rf, rp, f, ta, fm, fw, fh_44, tq, fk, fp, hB, hM, hI, ⟨r0, r1, r2, r3, r4, ix0, ix1, ix2, ttp, ttf, ttq⟩, hP, hD, hS, hl, by omega, by omega⟩
  · have hav2 := h9
    refine cx_skeeplo (ob := x) (a1 := av2) (rest := []) C1 hav2 hB hP hD hS hl.1 (Nat.le_of_ble_eq_true rfl) ⟨by omega, by omega⟩ dL_law_1131 (fun an45 w46  H locs hq hB hP hD hS => ?_)
    have hP := P_perm (List.perm_append_comm_assoc w46 wm tl) hP
    have hD := D_perm (List.perm_append_comm_assoc w46 wm tl) hD
    refine lv_pop hx hb dL_law_1134 rfl ?_
    refine lv_aload_n hx hb dL_law_1135 rfl (lv_at hl 1 rfl) ?_
    refine lv_aload_n hx hb dL_law_1136 rfl (lv_at hl 3 rfl) ?_
    refine lv_iload_n hx hb dL_law_1137 rfl (lv_at hl 0 rfl) ?_
    refine lv_iconst (v := 1) hx hb dL_law_1138 (by decide) ?_
    refine lv_iadd hx hb dL_law_1139 ?_
    refine lv_topi (fun jv47 ejv47 => ?_)
    obtain rfl : jv1 = jv47 := ejv1.trans ejv47.symm
    refine va_sld hx hb hX hbl hbA hS (sl_in (c := 1) ejv1 (by decide) (by decide) hi hL) dL_law_1140 ?_
    refine lv_topi (fun av48 eav48 => ?_)
    obtain rfl : av2 = av48 := eav2.trans eav48.symm
    refine cx_skeepMlo (ob := q) (a1 := av2) (rest := []) C1 hav2 hM hP hD hS hl.1 (Nat.le_of_ble_eq_true rfl) ⟨by omega, by omega⟩ dL_law_1141 (fun an49 w50  H locs hq2 hM hP hD hS => ?_)
    have hP := P_perm (List.perm_append_comm_assoc w50 w46 tl) hP
    have hD := D_perm (List.perm_append_comm_assoc w50 w46 tl) hD
    refine lv_pop hx hb dL_law_1144 rfl ?_
    refine lv_goto (tgt := 1350) hx hb dL_law_1145 (by decide) ?_
    exact K _ _ _ _ ⟨w46, w50, tl, ts, fl0, wi0, sz0, fl1, wi1, sz1, fl2, wi2, sz2, fl3, wi3, sz3, tp, rf, rp, f, ta, fm, fw, fh, tq, fk, fp, hB, hM, hI, ⟨r0, r1, r2, r3, r4, i0, i1, i2, ttp, ttf, ttq⟩, hP, hD, hS, hl, by omega, by omega⟩
  · have hav2 := h9
    refine cx_skeephi (ob := x) (a1 := av2) (rest := []) C1 hav2 hB hP hD hS hl.1 (Nat.le_of_ble_eq_true rfl) ⟨by omega, by omega⟩ dL_law_1131 (fun an51 w52  H locs hq hB hP hD hS => ?_)
    have hP := P_perm (List.perm_append_comm_assoc w52 wm tl) hP
    have hD := D_perm (List.perm_append_comm_assoc w52 wm tl) hD
    refine lv_pop hx hb dL_law_1134 rfl ?_
    refine lv_aload_n hx hb dL_law_1135 rfl (lv_at hl 1 rfl) ?_
    refine lv_aload_n hx hb dL_law_1136 rfl (lv_at hl 3 rfl) ?_
    refine lv_iload_n hx hb dL_law_1137 rfl (lv_at hl 0 rfl) ?_
    refine lv_iconst (v := 1) hx hb dL_law_1138 (by decide) ?_
    refine lv_iadd hx hb dL_law_1139 ?_
    refine lv_topi (fun jv53 ejv53 => ?_)
    obtain rfl : jv1 = jv53 := ejv1.trans ejv53.symm
    refine va_sld hx hb hX hbl hbA hS (sl_in (c := 1) ejv1 (by decide) (by decide) hi hL) dL_law_1140 ?_
    refine lv_topi (fun av54 eav54 => ?_)
    obtain rfl : av2 = av54 := eav2.trans eav54.symm
    refine cx_skeepMhi (ob := q) (a1 := av2) (rest := []) C1 hav2 hM hP hD hS hl.1 (Nat.le_of_ble_eq_true rfl) ⟨by omega, by omega⟩ dL_law_1141 (fun an55 w56  H locs hq2 hM hP hD hS => ?_)
    have hP := P_perm (List.perm_append_comm_assoc w56 w52 tl) hP
    have hD := D_perm (List.perm_append_comm_assoc w56 w52 tl) hD
    refine lv_pop hx hb dL_law_1144 rfl ?_
    refine lv_goto (tgt := 1350) hx hb dL_law_1145 (by decide) ?_
    exact K _ _ _ _ ⟨w52, w56, tl, ts, fl0, wi0, sz0, fl1, wi1, sz1, fl2, wi2, sz2, fl3, wi3, sz3, tp, rf, rp, f, ta, fm, fw, fh, tq, fk, fp, hB, hM, hI, ⟨r0, r1, r2, r3, r4, i0, i1, i2, ttp, ttf, ttq⟩, hP, hD, hS, hl, by omega, by omega⟩

set_option maxHeartbeats 4000000 in
set_option maxRecDepth 100000 in
theorem law_32 {p : Program} {e : Env} {s : State} {m : MethodId} {below : List Frame} {meth : Method} {c : Code} {l : Launch} {b L : Nat} {xs : Nat → Int32} {A : Nat → Prop} {G : va_G} {y : Nat → ClassId} {aK aV : Nat → Nat} {H : Heap} {locs : List Loc} {cells slots : Nat} {ls : Array Slot} {Q : State → Prop} (C0 : lawC p s m meth c b L xs A G y aK aV) {x q : Nat} {i : Int32} (hi : 0 ≤ i.toInt ∧ i.toInt + 6 ≤ (L : Int)) (I : LI s b A G y x q i H locs ls cells slots) (K : ∀ H1 locs1 cells1 slots1, LI s b A G y x q i H1 locs1 ls cells1 slots1 → W p l e room_1 s m #[Value.ref b] below meth c H1 locs1 cells1 slots1 Q (F0 m 1350 ls [])) : W p l e room_1 s m #[Value.ref b] below meth c H locs cells slots Q (F0 m 1148 ls []) := by
  have C1 := C0
  obtain ⟨hx, hb, hr, hml, hown, hw0, hX, hbl, hbA, hA, hAf, hlocks, hK, hE, hL⟩ := C0
  obtain ⟨w, wm, tl, ts, fl0, wi0, sz0, fl1, wi1, sz1, fl2, wi2, sz2, fl3, wi3, sz3, tp, rf, rp, f, ta, fm, fw, fh, tq, fk, fp, hB, hM, hI, hR, hP, hD, hS, hl, hc1, hc2⟩ := I
  obtain ⟨r0, r1, r2, r3, r4, i0, i1, i2, ttp, ttf, ttq⟩ := hR
  refine lv_aload_n hx hb dL_law_1148 rfl (lv_at hl 2 rfl) ?_
  refine lv_aload_n hx hb dL_law_1149 rfl (lv_at hl 3 rfl) ?_
  refine lv_iload_n hx hb dL_law_1150 rfl (lv_at hl 0 rfl) ?_
  refine lv_iconst (v := 1) hx hb dL_law_1151 (by decide) ?_
  refine lv_iadd hx hb dL_law_1152 ?_
  refine lv_topi (fun jv1 ejv1 => ?_)
  refine va_sld hx hb hX hbl hbA hS (sl_in (c := 1) ejv1 (by decide) (by decide) hi hL) dL_law_1153 ?_
  refine lv_topi (fun av2 eav2 => ?_)
  rcases im_c5 av2 with h9 | h9 | h9 | h9 | h9
  · obtain rfl : 0 = av2 := h9.symm
    obtain ⟨t0, t1, t2, rfl, j0, j1, j2⟩ := hI
    rcases j0 with ⟨ze, zt⟩ | ⟨z, ze, zt⟩
    · skip
      have hB : BC y x ts fl0 wi0 sz0 fl1 wi1 sz1 fl2 wi2 sz2 fl3 wi3 sz3 tp rf rp (va_up f 0 none) w := by rw [upE ze]; exact hB
      refine cx_sback0n (ob := x) (fim := f) (rest := []) C1 hB hP hD hS hl.1 (Nat.le_of_ble_eq_true rfl) ⟨by omega, by omega⟩ dL_law_1154 (fun an3 w4 H locs hq hB hP hD hS => ?_)
      rw [upE ze] at hB
      have hI : IM y f (t0 ++ (t1 ++ t2)) := ⟨t0, t1, t2, rfl, Or.inl ⟨ze, zt⟩, j1, j2⟩
      have hP := P_perm (List.perm_append_comm_assoc w4 wm (t0 ++ (t1 ++ t2))) hP
      have hD := D_perm (List.perm_append_comm_assoc w4 wm (t0 ++ (t1 ++ t2))) hD
      refine lv_pop hx hb dL_law_1157 rfl ?_
      refine lv_aload_n hx hb dL_law_1158 rfl (lv_at hl 1 rfl) ?_
      refine lv_aload_n hx hb dL_law_1159 rfl (lv_at hl 3 rfl) ?_
      refine lv_iload_n hx hb dL_law_1160 rfl (lv_at hl 0 rfl) ?_
      refine lv_iconst (v := 1) hx hb dL_law_1161 (by decide) ?_
      refine lv_iadd hx hb dL_law_1162 ?_
      refine lv_topi (fun jv5 ejv5 => ?_)
      obtain rfl : jv1 = jv5 := ejv1.trans ejv5.symm
      refine va_sld hx hb hX hbl hbA hS (sl_in (c := 1) ejv1 (by decide) (by decide) hi hL) dL_law_1163 ?_
      refine lv_topi (fun av6 eav6 => ?_)
      obtain rfl : 0 = av6 := eav2.trans eav6.symm
      refine cx_fbackM0 (ob := q)  (rest := []) C1  hM hP hD hS hl.1 (Nat.le_of_ble_eq_true rfl) ⟨by omega, by omega⟩ dL_law_1164 (fun an7 w8  H locs hq2 hM hP hD hS => ?_)
      have hP := P_perm (List.perm_append_comm_assoc w8 w4 (t0 ++ (t1 ++ t2))) hP
      have hD := D_perm (List.perm_append_comm_assoc w8 w4 (t0 ++ (t1 ++ t2))) hD
      refine lv_pop hx hb dL_law_1167 rfl ?_
      refine lv_goto (tgt := 1350) hx hb dL_law_1168 (by decide) ?_
      exact K _ _ _ _ ⟨w4, w8, (t0 ++ (t1 ++ t2)), ts, fl0, wi0, sz0, fl1, wi1, sz1, fl2, wi2, sz2, fl3, wi3, sz3, tp, rf, rp, f, ta, fm, fw, fh, tq, fk, fp, hB, hM, hI, ⟨r0, r1, r2, r3, r4, i0, i1, i2, ttp, ttf, ttq⟩, hP, hD, hS, hl, by omega, by omega⟩
    · skip
      have hB : BC y x ts fl0 wi0 sz0 fl1 wi1 sz1 fl2 wi2 sz2 fl3 wi3 sz3 tp rf rp (va_up f 0 (some z)) w := by rw [upE ze]; exact hB
      have hP := P_perm (pk_to (p_0 t0 t1 t2)) hP
      have hD := D_perm (pk_to (p_0 t0 t1 t2)) hD
      refine cx_sback0s (ob := x) (fim := f) (im := z) (rest := []) C1 hB zt hP hD hS hl.1 (Nat.le_of_ble_eq_true rfl) ⟨by omega, by omega⟩ dL_law_1154 (fun an9 w10 tk H locs hq hB hT hP hD hS => ?_)
      rw [upE ze] at hB
      have hP := P_perm (pk_to (p_0 tk t1 t2)).symm hP
      have hD := D_perm (pk_to (p_0 tk t1 t2)).symm hD
      have hI : IM y f (tk ++ (t1 ++ t2)) := ⟨tk, t1, t2, rfl, Or.inr ⟨z, ze, hT⟩, j1, j2⟩
      have hP := P_perm (List.perm_append_comm_assoc w10 wm (tk ++ (t1 ++ t2))) hP
      have hD := D_perm (List.perm_append_comm_assoc w10 wm (tk ++ (t1 ++ t2))) hD
      refine lv_pop hx hb dL_law_1157 rfl ?_
      refine lv_aload_n hx hb dL_law_1158 rfl (lv_at hl 1 rfl) ?_
      refine lv_aload_n hx hb dL_law_1159 rfl (lv_at hl 3 rfl) ?_
      refine lv_iload_n hx hb dL_law_1160 rfl (lv_at hl 0 rfl) ?_
      refine lv_iconst (v := 1) hx hb dL_law_1161 (by decide) ?_
      refine lv_iadd hx hb dL_law_1162 ?_
      refine lv_topi (fun jv11 ejv11 => ?_)
      obtain rfl : jv1 = jv11 := ejv1.trans ejv11.symm
      refine va_sld hx hb hX hbl hbA hS (sl_in (c := 1) ejv1 (by decide) (by decide) hi hL) dL_law_1163 ?_
      refine lv_topi (fun av12 eav12 => ?_)
      obtain rfl : 0 = av12 := eav2.trans eav12.symm
      refine cx_fbackM0 (ob := q)  (rest := []) C1  hM hP hD hS hl.1 (Nat.le_of_ble_eq_true rfl) ⟨by omega, by omega⟩ dL_law_1164 (fun an13 w14  H locs hq2 hM hP hD hS => ?_)
      have hP := P_perm (List.perm_append_comm_assoc w14 w10 (tk ++ (t1 ++ t2))) hP
      have hD := D_perm (List.perm_append_comm_assoc w14 w10 (tk ++ (t1 ++ t2))) hD
      refine lv_pop hx hb dL_law_1167 rfl ?_
      refine lv_goto (tgt := 1350) hx hb dL_law_1168 (by decide) ?_
      exact K _ _ _ _ ⟨w10, w14, (tk ++ (t1 ++ t2)), ts, fl0, wi0, sz0, fl1, wi1, sz1, fl2, wi2, sz2, fl3, wi3, sz3, tp, rf, rp, f, ta, fm, fw, fh, tq, fk, fp, hB, hM, hI, ⟨r0, r1, r2, r3, r4, i0, i1, i2, ttp, ttf, ttq⟩, hP, hD, hS, hl, by omega, by omega⟩
  · obtain rfl : 1 = av2 := h9.symm
    obtain ⟨t0, t1, t2, rfl, j0, j1, j2⟩ := hI
    rcases j1 with ⟨ze, zt⟩ | ⟨z, ze, zt⟩
    · skip
      have hB : BC y x ts fl0 wi0 sz0 fl1 wi1 sz1 fl2 wi2 sz2 fl3 wi3 sz3 tp rf rp (va_up f 1 none) w := by rw [upE ze]; exact hB
      refine cx_sback1n (ob := x) (fim := f) (rest := []) C1 hB hP hD hS hl.1 (Nat.le_of_ble_eq_true rfl) ⟨by omega, by omega⟩ dL_law_1154 (fun an15 w16 H locs hq hB hP hD hS => ?_)
      rw [upE ze] at hB
      have hI : IM y f (t0 ++ (t1 ++ t2)) := ⟨t0, t1, t2, rfl, j0, Or.inl ⟨ze, zt⟩, j2⟩
      have hP := P_perm (List.perm_append_comm_assoc w16 wm (t0 ++ (t1 ++ t2))) hP
      have hD := D_perm (List.perm_append_comm_assoc w16 wm (t0 ++ (t1 ++ t2))) hD
      refine lv_pop hx hb dL_law_1157 rfl ?_
      refine lv_aload_n hx hb dL_law_1158 rfl (lv_at hl 1 rfl) ?_
      refine lv_aload_n hx hb dL_law_1159 rfl (lv_at hl 3 rfl) ?_
      refine lv_iload_n hx hb dL_law_1160 rfl (lv_at hl 0 rfl) ?_
      refine lv_iconst (v := 1) hx hb dL_law_1161 (by decide) ?_
      refine lv_iadd hx hb dL_law_1162 ?_
      refine lv_topi (fun jv17 ejv17 => ?_)
      obtain rfl : jv1 = jv17 := ejv1.trans ejv17.symm
      refine va_sld hx hb hX hbl hbA hS (sl_in (c := 1) ejv1 (by decide) (by decide) hi hL) dL_law_1163 ?_
      refine lv_topi (fun av18 eav18 => ?_)
      obtain rfl : 1 = av18 := eav2.trans eav18.symm
      refine cx_fbackM1 (ob := q)  (rest := []) C1  hM hP hD hS hl.1 (Nat.le_of_ble_eq_true rfl) ⟨by omega, by omega⟩ dL_law_1164 (fun an19 w20  H locs hq2 hM hP hD hS => ?_)
      have hP := P_perm (List.perm_append_comm_assoc w20 w16 (t0 ++ (t1 ++ t2))) hP
      have hD := D_perm (List.perm_append_comm_assoc w20 w16 (t0 ++ (t1 ++ t2))) hD
      refine lv_pop hx hb dL_law_1167 rfl ?_
      refine lv_goto (tgt := 1350) hx hb dL_law_1168 (by decide) ?_
      exact K _ _ _ _ ⟨w16, w20, (t0 ++ (t1 ++ t2)), ts, fl0, wi0, sz0, fl1, wi1, sz1, fl2, wi2, sz2, fl3, wi3, sz3, tp, rf, rp, f, ta, fm, fw, fh, tq, fk, fp, hB, hM, hI, ⟨r0, r1, r2, r3, r4, i0, i1, i2, ttp, ttf, ttq⟩, hP, hD, hS, hl, by omega, by omega⟩
    · skip
      have hB : BC y x ts fl0 wi0 sz0 fl1 wi1 sz1 fl2 wi2 sz2 fl3 wi3 sz3 tp rf rp (va_up f 1 (some z)) w := by rw [upE ze]; exact hB
      have hP := P_perm (pk_to (p_1 t0 t1 t2)) hP
      have hD := D_perm (pk_to (p_1 t0 t1 t2)) hD
      refine cx_sback1s (ob := x) (fim := f) (im := z) (rest := []) C1 hB zt hP hD hS hl.1 (Nat.le_of_ble_eq_true rfl) ⟨by omega, by omega⟩ dL_law_1154 (fun an21 w22 tk H locs hq hB hT hP hD hS => ?_)
      rw [upE ze] at hB
      have hP := P_perm (pk_to (p_1 t0 tk t2)).symm hP
      have hD := D_perm (pk_to (p_1 t0 tk t2)).symm hD
      have hI : IM y f (t0 ++ (tk ++ t2)) := ⟨t0, tk, t2, rfl, j0, Or.inr ⟨z, ze, hT⟩, j2⟩
      have hP := P_perm (List.perm_append_comm_assoc w22 wm (t0 ++ (tk ++ t2))) hP
      have hD := D_perm (List.perm_append_comm_assoc w22 wm (t0 ++ (tk ++ t2))) hD
      refine lv_pop hx hb dL_law_1157 rfl ?_
      refine lv_aload_n hx hb dL_law_1158 rfl (lv_at hl 1 rfl) ?_
      refine lv_aload_n hx hb dL_law_1159 rfl (lv_at hl 3 rfl) ?_
      refine lv_iload_n hx hb dL_law_1160 rfl (lv_at hl 0 rfl) ?_
      refine lv_iconst (v := 1) hx hb dL_law_1161 (by decide) ?_
      refine lv_iadd hx hb dL_law_1162 ?_
      refine lv_topi (fun jv23 ejv23 => ?_)
      obtain rfl : jv1 = jv23 := ejv1.trans ejv23.symm
      refine va_sld hx hb hX hbl hbA hS (sl_in (c := 1) ejv1 (by decide) (by decide) hi hL) dL_law_1163 ?_
      refine lv_topi (fun av24 eav24 => ?_)
      obtain rfl : 1 = av24 := eav2.trans eav24.symm
      refine cx_fbackM1 (ob := q)  (rest := []) C1  hM hP hD hS hl.1 (Nat.le_of_ble_eq_true rfl) ⟨by omega, by omega⟩ dL_law_1164 (fun an25 w26  H locs hq2 hM hP hD hS => ?_)
      have hP := P_perm (List.perm_append_comm_assoc w26 w22 (t0 ++ (tk ++ t2))) hP
      have hD := D_perm (List.perm_append_comm_assoc w26 w22 (t0 ++ (tk ++ t2))) hD
      refine lv_pop hx hb dL_law_1167 rfl ?_
      refine lv_goto (tgt := 1350) hx hb dL_law_1168 (by decide) ?_
      exact K _ _ _ _ ⟨w22, w26, (t0 ++ (tk ++ t2)), ts, fl0, wi0, sz0, fl1, wi1, sz1, fl2, wi2, sz2, fl3, wi3, sz3, tp, rf, rp, f, ta, fm, fw, fh, tq, fk, fp, hB, hM, hI, ⟨r0, r1, r2, r3, r4, i0, i1, i2, ttp, ttf, ttq⟩, hP, hD, hS, hl, by omega, by omega⟩
  · obtain rfl : 2 = av2 := h9.symm
    obtain ⟨t0, t1, t2, rfl, j0, j1, j2⟩ := hI
    rcases j2 with ⟨ze, zt⟩ | ⟨z, ze, zt⟩
    · skip
      have hB : BC y x ts fl0 wi0 sz0 fl1 wi1 sz1 fl2 wi2 sz2 fl3 wi3 sz3 tp rf rp (va_up f 2 none) w := by rw [upE ze]; exact hB
      refine cx_sback2n (ob := x) (fim := f) (rest := []) C1 hB hP hD hS hl.1 (Nat.le_of_ble_eq_true rfl) ⟨by omega, by omega⟩ dL_law_1154 (fun an27 w28 H locs hq hB hP hD hS => ?_)
      rw [upE ze] at hB
      have hI : IM y f (t0 ++ (t1 ++ t2)) := ⟨t0, t1, t2, rfl, j0, j1, Or.inl ⟨ze, zt⟩⟩
      have hP := P_perm (List.perm_append_comm_assoc w28 wm (t0 ++ (t1 ++ t2))) hP
      have hD := D_perm (List.perm_append_comm_assoc w28 wm (t0 ++ (t1 ++ t2))) hD
      refine lv_pop hx hb dL_law_1157 rfl ?_
      refine lv_aload_n hx hb dL_law_1158 rfl (lv_at hl 1 rfl) ?_
      refine lv_aload_n hx hb dL_law_1159 rfl (lv_at hl 3 rfl) ?_
      refine lv_iload_n hx hb dL_law_1160 rfl (lv_at hl 0 rfl) ?_
      refine lv_iconst (v := 1) hx hb dL_law_1161 (by decide) ?_
      refine lv_iadd hx hb dL_law_1162 ?_
      refine lv_topi (fun jv29 ejv29 => ?_)
      obtain rfl : jv1 = jv29 := ejv1.trans ejv29.symm
      refine va_sld hx hb hX hbl hbA hS (sl_in (c := 1) ejv1 (by decide) (by decide) hi hL) dL_law_1163 ?_
      refine lv_topi (fun av30 eav30 => ?_)
      obtain rfl : 2 = av30 := eav2.trans eav30.symm
      refine cx_fbackM2 (ob := q)  (rest := []) C1  hM hP hD hS hl.1 (Nat.le_of_ble_eq_true rfl) ⟨by omega, by omega⟩ dL_law_1164 (fun an31 w32  H locs hq2 hM hP hD hS => ?_)
      have hP := P_perm (List.perm_append_comm_assoc w32 w28 (t0 ++ (t1 ++ t2))) hP
      have hD := D_perm (List.perm_append_comm_assoc w32 w28 (t0 ++ (t1 ++ t2))) hD
      refine lv_pop hx hb dL_law_1167 rfl ?_
      refine lv_goto (tgt := 1350) hx hb dL_law_1168 (by decide) ?_
      exact K _ _ _ _ ⟨w28, w32, (t0 ++ (t1 ++ t2)), ts, fl0, wi0, sz0, fl1, wi1, sz1, fl2, wi2, sz2, fl3, wi3, sz3, tp, rf, rp, f, ta, fm, fw, fh, tq, fk, fp, hB, hM, hI, ⟨r0, r1, r2, r3, r4, i0, i1, i2, ttp, ttf, ttq⟩, hP, hD, hS, hl, by omega, by omega⟩
    · skip
      have hB : BC y x ts fl0 wi0 sz0 fl1 wi1 sz1 fl2 wi2 sz2 fl3 wi3 sz3 tp rf rp (va_up f 2 (some z)) w := by rw [upE ze]; exact hB
      have hP := P_perm (pk_to (p_2 t0 t1 t2)) hP
      have hD := D_perm (pk_to (p_2 t0 t1 t2)) hD
      refine cx_sback2s (ob := x) (fim := f) (im := z) (rest := []) C1 hB zt hP hD hS hl.1 (Nat.le_of_ble_eq_true rfl) ⟨by omega, by omega⟩ dL_law_1154 (fun an33 w34 tk H locs hq hB hT hP hD hS => ?_)
      rw [upE ze] at hB
      have hP := P_perm (pk_to (p_2 t0 t1 tk)).symm hP
      have hD := D_perm (pk_to (p_2 t0 t1 tk)).symm hD
      have hI : IM y f (t0 ++ (t1 ++ tk)) := ⟨t0, t1, tk, rfl, j0, j1, Or.inr ⟨z, ze, hT⟩⟩
      have hP := P_perm (List.perm_append_comm_assoc w34 wm (t0 ++ (t1 ++ tk))) hP
      have hD := D_perm (List.perm_append_comm_assoc w34 wm (t0 ++ (t1 ++ tk))) hD
      refine lv_pop hx hb dL_law_1157 rfl ?_
      refine lv_aload_n hx hb dL_law_1158 rfl (lv_at hl 1 rfl) ?_
      refine lv_aload_n hx hb dL_law_1159 rfl (lv_at hl 3 rfl) ?_
      refine lv_iload_n hx hb dL_law_1160 rfl (lv_at hl 0 rfl) ?_
      refine lv_iconst (v := 1) hx hb dL_law_1161 (by decide) ?_
      refine lv_iadd hx hb dL_law_1162 ?_
      refine lv_topi (fun jv35 ejv35 => ?_)
      obtain rfl : jv1 = jv35 := ejv1.trans ejv35.symm
      refine va_sld hx hb hX hbl hbA hS (sl_in (c := 1) ejv1 (by decide) (by decide) hi hL) dL_law_1163 ?_
      refine lv_topi (fun av36 eav36 => ?_)
      obtain rfl : 2 = av36 := eav2.trans eav36.symm
      refine cx_fbackM2 (ob := q)  (rest := []) C1  hM hP hD hS hl.1 (Nat.le_of_ble_eq_true rfl) ⟨by omega, by omega⟩ dL_law_1164 (fun an37 w38  H locs hq2 hM hP hD hS => ?_)
      have hP := P_perm (List.perm_append_comm_assoc w38 w34 (t0 ++ (t1 ++ tk))) hP
      have hD := D_perm (List.perm_append_comm_assoc w38 w34 (t0 ++ (t1 ++ tk))) hD
      refine lv_pop hx hb dL_law_1167 rfl ?_
      refine lv_goto (tgt := 1350) hx hb dL_law_1168 (by decide) ?_
      exact K _ _ _ _ ⟨w34, w38, (t0 ++ (t1 ++ tk)), ts, fl0, wi0, sz0, fl1, wi1, sz1, fl2, wi2, sz2, fl3, wi3, sz3, tp, rf, rp, f, ta, fm, fw, fh, tq, fk, fp, hB, hM, hI, ⟨r0, r1, r2, r3, r4, i0, i1, i2, ttp, ttf, ttq⟩, hP, hD, hS, hl, by omega, by omega⟩
  · have hav2 := h9
    refine cx_sbacklo (ob := x) (a1 := av2) (rest := []) C1 hav2 hB hP hD hS hl.1 (Nat.le_of_ble_eq_true rfl) ⟨by omega, by omega⟩ dL_law_1154 (fun an39 w40  H locs hq hB hP hD hS => ?_)
    have hP := P_perm (List.perm_append_comm_assoc w40 wm tl) hP
    have hD := D_perm (List.perm_append_comm_assoc w40 wm tl) hD
    refine lv_pop hx hb dL_law_1157 rfl ?_
    refine lv_aload_n hx hb dL_law_1158 rfl (lv_at hl 1 rfl) ?_
    refine lv_aload_n hx hb dL_law_1159 rfl (lv_at hl 3 rfl) ?_
    refine lv_iload_n hx hb dL_law_1160 rfl (lv_at hl 0 rfl) ?_
    refine lv_iconst (v := 1) hx hb dL_law_1161 (by decide) ?_
    refine lv_iadd hx hb dL_law_1162 ?_
    refine lv_topi (fun jv41 ejv41 => ?_)
    obtain rfl : jv1 = jv41 := ejv1.trans ejv41.symm
    refine va_sld hx hb hX hbl hbA hS (sl_in (c := 1) ejv1 (by decide) (by decide) hi hL) dL_law_1163 ?_
    refine lv_topi (fun av42 eav42 => ?_)
    obtain rfl : av2 = av42 := eav2.trans eav42.symm
    refine cx_sbackMlo (ob := q) (a1 := av2) (rest := []) C1 hav2 hM hP hD hS hl.1 (Nat.le_of_ble_eq_true rfl) ⟨by omega, by omega⟩ dL_law_1164 (fun an43 w44  H locs hq2 hM hP hD hS => ?_)
    have hP := P_perm (List.perm_append_comm_assoc w44 w40 tl) hP
    have hD := D_perm (List.perm_append_comm_assoc w44 w40 tl) hD
    refine lv_pop hx hb dL_law_1167 rfl ?_
    refine lv_goto (tgt := 1350) hx hb dL_law_1168 (by decide) ?_
    exact K _ _ _ _ ⟨w40, w44, tl, ts, fl0, wi0, sz0, fl1, wi1, sz1, fl2, wi2, sz2, fl3, wi3, sz3, tp, rf, rp, f, ta, fm, fw, fh, tq, fk, fp, hB, hM, hI, ⟨r0, r1, r2, r3, r4, i0, i1, i2, ttp, ttf, ttq⟩, hP, hD, hS, hl, by omega, by omega⟩
  · have hav2 := h9
    refine cx_sbackhi (ob := x) (a1 := av2) (rest := []) C1 hav2 hB hP hD hS hl.1 (Nat.le_of_ble_eq_true rfl) ⟨by omega, by omega⟩ dL_law_1154 (fun an45 w46  H locs hq hB hP hD hS => ?_)
    have hP := P_perm (List.perm_append_comm_assoc w46 wm tl) hP
    have hD := D_perm (List.perm_append_comm_assoc w46 wm tl) hD
    refine lv_pop hx hb dL_law_1157 rfl ?_
    refine lv_aload_n hx hb dL_law_1158 rfl (lv_at hl 1 rfl) ?_
    refine lv_aload_n hx hb dL_law_1159 rfl (lv_at hl 3 rfl) ?_
    refine lv_iload_n hx hb dL_law_1160 rfl (lv_at hl 0 rfl) ?_
    refine lv_iconst (v := 1) hx hb dL_law_1161 (by decide) ?_
    refine lv_iadd hx hb dL_law_1162 ?_
    refine lv_topi (fun jv47 ejv47 => ?_)
    obtain rfl : jv1 = jv47 := ejv1.trans ejv47.symm
    refine va_sld hx hb hX hbl hbA hS (sl_in (c := 1) ejv1 (by decide) (by decide) hi hL) dL_law_1163 ?_
    refine lv_topi (fun av48 eav48 => ?_)
    obtain rfl : av2 = av48 := eav2.trans eav48.symm
    refine cx_sbackMhi (ob := q) (a1 := av2) (rest := []) C1 hav2 hM hP hD hS hl.1 (Nat.le_of_ble_eq_true rfl) ⟨by omega, by omega⟩ dL_law_1164 (fun an49 w50  H locs hq2 hM hP hD hS => ?_)
    have hP := P_perm (List.perm_append_comm_assoc w50 w46 tl) hP
    have hD := D_perm (List.perm_append_comm_assoc w50 w46 tl) hD
    refine lv_pop hx hb dL_law_1167 rfl ?_
    refine lv_goto (tgt := 1350) hx hb dL_law_1168 (by decide) ?_
    exact K _ _ _ _ ⟨w46, w50, tl, ts, fl0, wi0, sz0, fl1, wi1, sz1, fl2, wi2, sz2, fl3, wi3, sz3, tp, rf, rp, f, ta, fm, fw, fh, tq, fk, fp, hB, hM, hI, ⟨r0, r1, r2, r3, r4, i0, i1, i2, ttp, ttf, ttq⟩, hP, hD, hS, hl, by omega, by omega⟩

set_option maxHeartbeats 4000000 in
set_option maxRecDepth 100000 in
theorem law_33 {p : Program} {e : Env} {s : State} {m : MethodId} {below : List Frame} {meth : Method} {c : Code} {l : Launch} {b L : Nat} {xs : Nat → Int32} {A : Nat → Prop} {G : va_G} {y : Nat → ClassId} {aK aV : Nat → Nat} {H : Heap} {locs : List Loc} {cells slots : Nat} {ls : Array Slot} {Q : State → Prop} (C0 : lawC p s m meth c b L xs A G y aK aV) {x q : Nat} {i : Int32} (hi : 0 ≤ i.toInt ∧ i.toInt + 6 ≤ (L : Int)) (I : LI s b A G y x q i H locs ls cells slots) (K : ∀ H1 locs1 cells1 slots1, LI s b A G y x q i H1 locs1 ls cells1 slots1 → W p l e room_1 s m #[Value.ref b] below meth c H1 locs1 cells1 slots1 Q (F0 m 1350 ls [])) : W p l e room_1 s m #[Value.ref b] below meth c H locs cells slots Q (F0 m 1171 ls []) := by
  have C1 := C0
  obtain ⟨hx, hb, hr, hml, hown, hw0, hX, hbl, hbA, hA, hAf, hlocks, hK, hE, hL⟩ := C0
  obtain ⟨w, wm, tl, ts, fl0, wi0, sz0, fl1, wi1, sz1, fl2, wi2, sz2, fl3, wi3, sz3, tp, rf, rp, f, ta, fm, fw, fh, tq, fk, fp, hB, hM, hI, hR, hP, hD, hS, hl, hc1, hc2⟩ := I
  obtain ⟨r0, r1, r2, r3, r4, i0, i1, i2, ttp, ttf, ttq⟩ := hR
  refine lv_aload_n hx hb dL_law_1171 rfl (lv_at hl 2 rfl) ?_
  refine lv_aload_n hx hb dL_law_1172 rfl (lv_at hl 3 rfl) ?_
  refine lv_iload_n hx hb dL_law_1173 rfl (lv_at hl 0 rfl) ?_
  refine lv_iconst (v := 1) hx hb dL_law_1174 (by decide) ?_
  refine lv_iadd hx hb dL_law_1175 ?_
  refine lv_topi (fun jv1 ejv1 => ?_)
  refine va_sld hx hb hX hbl hbA hS (sl_in (c := 1) ejv1 (by decide) (by decide) hi hL) dL_law_1176 ?_
  refine lv_topi (fun av2 eav2 => ?_)
  refine lv_aload_n hx hb dL_law_1177 rfl (lv_at hl 3 rfl) ?_
  refine lv_iload_n hx hb dL_law_1178 rfl (lv_at hl 0 rfl) ?_
  refine lv_iconst (v := 2) hx hb dL_law_1179 (by decide) ?_
  refine lv_iadd hx hb dL_law_1180 ?_
  refine lv_topi (fun jv3 ejv3 => ?_)
  refine va_sld hx hb hX hbl hbA hS (sl_in (c := 2) ejv3 (by decide) (by decide) hi hL) dL_law_1181 ?_
  refine lv_topi (fun av4 eav4 => ?_)
  refine lv_aload_n hx hb dL_law_1182 rfl (lv_at hl 3 rfl) ?_
  refine lv_iload_n hx hb dL_law_1183 rfl (lv_at hl 0 rfl) ?_
  refine lv_iconst (v := 3) hx hb dL_law_1184 (by decide) ?_
  refine lv_iadd hx hb dL_law_1185 ?_
  refine lv_topi (fun jv5 ejv5 => ?_)
  refine va_sld hx hb hX hbl hbA hS (sl_in (c := 3) ejv5 (by decide) (by decide) hi hL) dL_law_1186 ?_
  refine lv_topi (fun av6 eav6 => ?_)
  rcases so_cases av2 with h9 | h9 | h9 | h9 | h9 | h9
  · obtain rfl : 0 = av2 := h9.symm
    refine cx_frow0 (ob := x) (a2 := av4) (a3 := av6) (rest := []) C1  hB hP hD hS hl.1 (Nat.le_of_ble_eq_true rfl) ⟨by omega, by omega⟩ dL_law_1187 (fun an7 w8 fl0_9 wi0_10 sz0_11 H locs hq hB hP hD hS => ?_)
    have hP := P_perm (List.perm_append_comm_assoc w8 wm tl) hP
    have hD := D_perm (List.perm_append_comm_assoc w8 wm tl) hD
    refine lv_pop hx hb dL_law_1190 rfl ?_
    refine lv_aload_n hx hb dL_law_1191 rfl (lv_at hl 1 rfl) ?_
    refine lv_aload_n hx hb dL_law_1192 rfl (lv_at hl 3 rfl) ?_
    refine lv_iload_n hx hb dL_law_1193 rfl (lv_at hl 0 rfl) ?_
    refine lv_iconst (v := 1) hx hb dL_law_1194 (by decide) ?_
    refine lv_iadd hx hb dL_law_1195 ?_
    refine lv_topi (fun jv12 ejv12 => ?_)
    obtain rfl : jv1 = jv12 := ejv1.trans ejv12.symm
    refine va_sld hx hb hX hbl hbA hS (sl_in (c := 1) ejv1 (by decide) (by decide) hi hL) dL_law_1196 ?_
    refine lv_topi (fun av13 eav13 => ?_)
    obtain rfl : 0 = av13 := eav2.trans eav13.symm
    refine lv_aload_n hx hb dL_law_1197 rfl (lv_at hl 3 rfl) ?_
    refine lv_iload_n hx hb dL_law_1198 rfl (lv_at hl 0 rfl) ?_
    refine lv_iconst (v := 2) hx hb dL_law_1199 (by decide) ?_
    refine lv_iadd hx hb dL_law_1200 ?_
    refine lv_topi (fun jv14 ejv14 => ?_)
    obtain rfl : jv3 = jv14 := ejv3.trans ejv14.symm
    refine va_sld hx hb hX hbl hbA hS (sl_in (c := 2) ejv3 (by decide) (by decide) hi hL) dL_law_1201 ?_
    refine lv_topi (fun av15 eav15 => ?_)
    obtain rfl : av4 = av15 := eav4.trans eav15.symm
    refine lv_aload_n hx hb dL_law_1202 rfl (lv_at hl 3 rfl) ?_
    refine lv_iload_n hx hb dL_law_1203 rfl (lv_at hl 0 rfl) ?_
    refine lv_iconst (v := 3) hx hb dL_law_1204 (by decide) ?_
    refine lv_iadd hx hb dL_law_1205 ?_
    refine lv_topi (fun jv16 ejv16 => ?_)
    obtain rfl : jv5 = jv16 := ejv5.trans ejv16.symm
    refine va_sld hx hb hX hbl hbA hS (sl_in (c := 3) ejv5 (by decide) (by decide) hi hL) dL_law_1206 ?_
    refine lv_topi (fun av17 eav17 => ?_)
    obtain rfl : av6 = av17 := eav6.trans eav17.symm
    refine cx_frowM0 (ob := q) (a2 := av4) (a3 := av6) (rest := []) C1  hM hP hD hS hl.1 (Nat.le_of_ble_eq_true rfl) ⟨by omega, by omega⟩ dL_law_1207 (fun an18 w19 fm_20 fw_21 H locs hq2 hM hP hD hS => ?_)
    have hP := P_perm (List.perm_append_comm_assoc w19 w8 tl) hP
    have hD := D_perm (List.perm_append_comm_assoc w19 w8 tl) hD
    refine lv_pop hx hb dL_law_1210 rfl ?_
    refine lv_goto (tgt := 1350) hx hb dL_law_1211 (by decide) ?_
    have u1 : Int32.toInt 1 = 1 := by decide
    unfold sR at r1 r2 r3 r4
    rcases hq with ⟨_, rfl, rfl, rfl, hz⟩ | ⟨_, rfl, rfl, rfl, hz⟩ | ⟨_, rfl, rfl, rfl, hz⟩ <;> rcases hq2 with ⟨_, rfl, rfl, hz⟩ | ⟨_, rfl, rfl, hz⟩ | ⟨_, hz⟩
    all_goals first | (exfalso; omega) | skip
    · exact K _ _ _ _ ⟨w8, w19, tl, _, _, _, _, _, _, _, _, _, _, _, _, _, _, _, _, _, _, _, _, _, _, _, _, (by assumption), (by assumption), hI, ⟨r0, (by unfold sR; omega), (by unfold sR; omega), (by unfold sR; omega), (by unfold sR; omega), i0, i1, i2, ttp, ttf, ttq⟩, hP, hD, hS, hl, by omega, by omega⟩
    · exact K _ _ _ _ ⟨w8, w19, tl, _, _, _, _, _, _, _, _, _, _, _, _, _, _, _, _, _, _, _, _, _, _, _, _, (by assumption), (by assumption), hI, ⟨r0, (by unfold sR; omega), (by unfold sR; omega), (by unfold sR; omega), (by unfold sR; omega), i0, i1, i2, ttp, ttf, ttq⟩, hP, hD, hS, hl, by omega, by omega⟩
    · exact K _ _ _ _ ⟨w8, w19, tl, _, _, _, _, _, _, _, _, _, _, _, _, _, _, _, _, _, _, _, _, _, _, _, _, (by assumption), (by assumption), hI, ⟨r0, (by unfold sR; omega), (by unfold sR; omega), (by unfold sR; omega), (by unfold sR; omega), i0, i1, i2, ttp, ttf, ttq⟩, hP, hD, hS, hl, by omega, by omega⟩
  · obtain rfl : 1 = av2 := h9.symm
    refine cx_frow1 (ob := x) (a2 := av4) (a3 := av6) (rest := []) C1  hB hP hD hS hl.1 (Nat.le_of_ble_eq_true rfl) ⟨by omega, by omega⟩ dL_law_1187 (fun an22 w23 fl1_24 wi1_25 sz1_26 H locs hq hB hP hD hS => ?_)
    have hP := P_perm (List.perm_append_comm_assoc w23 wm tl) hP
    have hD := D_perm (List.perm_append_comm_assoc w23 wm tl) hD
    refine lv_pop hx hb dL_law_1190 rfl ?_
    refine lv_aload_n hx hb dL_law_1191 rfl (lv_at hl 1 rfl) ?_
    refine lv_aload_n hx hb dL_law_1192 rfl (lv_at hl 3 rfl) ?_
    refine lv_iload_n hx hb dL_law_1193 rfl (lv_at hl 0 rfl) ?_
    refine lv_iconst (v := 1) hx hb dL_law_1194 (by decide) ?_
    refine lv_iadd hx hb dL_law_1195 ?_
    refine lv_topi (fun jv27 ejv27 => ?_)
    obtain rfl : jv1 = jv27 := ejv1.trans ejv27.symm
    refine va_sld hx hb hX hbl hbA hS (sl_in (c := 1) ejv1 (by decide) (by decide) hi hL) dL_law_1196 ?_
    refine lv_topi (fun av28 eav28 => ?_)
    obtain rfl : 1 = av28 := eav2.trans eav28.symm
    refine lv_aload_n hx hb dL_law_1197 rfl (lv_at hl 3 rfl) ?_
    refine lv_iload_n hx hb dL_law_1198 rfl (lv_at hl 0 rfl) ?_
    refine lv_iconst (v := 2) hx hb dL_law_1199 (by decide) ?_
    refine lv_iadd hx hb dL_law_1200 ?_
    refine lv_topi (fun jv29 ejv29 => ?_)
    obtain rfl : jv3 = jv29 := ejv3.trans ejv29.symm
    refine va_sld hx hb hX hbl hbA hS (sl_in (c := 2) ejv3 (by decide) (by decide) hi hL) dL_law_1201 ?_
    refine lv_topi (fun av30 eav30 => ?_)
    obtain rfl : av4 = av30 := eav4.trans eav30.symm
    refine lv_aload_n hx hb dL_law_1202 rfl (lv_at hl 3 rfl) ?_
    refine lv_iload_n hx hb dL_law_1203 rfl (lv_at hl 0 rfl) ?_
    refine lv_iconst (v := 3) hx hb dL_law_1204 (by decide) ?_
    refine lv_iadd hx hb dL_law_1205 ?_
    refine lv_topi (fun jv31 ejv31 => ?_)
    obtain rfl : jv5 = jv31 := ejv5.trans ejv31.symm
    refine va_sld hx hb hX hbl hbA hS (sl_in (c := 3) ejv5 (by decide) (by decide) hi hL) dL_law_1206 ?_
    refine lv_topi (fun av32 eav32 => ?_)
    obtain rfl : av6 = av32 := eav6.trans eav32.symm
    refine cx_frowM1 (ob := q) (a2 := av4) (a3 := av6) (rest := []) C1  hM hP hD hS hl.1 (Nat.le_of_ble_eq_true rfl) ⟨by omega, by omega⟩ dL_law_1207 (fun an33 w34 fm_35 fw_36 H locs hq2 hM hP hD hS => ?_)
    have hP := P_perm (List.perm_append_comm_assoc w34 w23 tl) hP
    have hD := D_perm (List.perm_append_comm_assoc w34 w23 tl) hD
    refine lv_pop hx hb dL_law_1210 rfl ?_
    refine lv_goto (tgt := 1350) hx hb dL_law_1211 (by decide) ?_
    have u1 : Int32.toInt 1 = 1 := by decide
    unfold sR at r1 r2 r3 r4
    rcases hq with ⟨_, rfl, rfl, rfl, hz⟩ | ⟨_, rfl, rfl, rfl, hz⟩ | ⟨_, rfl, rfl, rfl, hz⟩ <;> rcases hq2 with ⟨_, rfl, rfl, hz⟩ | ⟨_, rfl, rfl, hz⟩ | ⟨_, hz⟩
    all_goals first | (exfalso; omega) | skip
    · exact K _ _ _ _ ⟨w23, w34, tl, _, _, _, _, _, _, _, _, _, _, _, _, _, _, _, _, _, _, _, _, _, _, _, _, (by assumption), (by assumption), hI, ⟨r0, (by unfold sR; omega), (by unfold sR; omega), (by unfold sR; omega), (by unfold sR; omega), i0, i1, i2, ttp, ttf, ttq⟩, hP, hD, hS, hl, by omega, by omega⟩
    · exact K _ _ _ _ ⟨w23, w34, tl, _, _, _, _, _, _, _, _, _, _, _, _, _, _, _, _, _, _, _, _, _, _, _, _, (by assumption), (by assumption), hI, ⟨r0, (by unfold sR; omega), (by unfold sR; omega), (by unfold sR; omega), (by unfold sR; omega), i0, i1, i2, ttp, ttf, ttq⟩, hP, hD, hS, hl, by omega, by omega⟩
    · exact K _ _ _ _ ⟨w23, w34, tl, _, _, _, _, _, _, _, _, _, _, _, _, _, _, _, _, _, _, _, _, _, _, _, _, (by assumption), (by assumption), hI, ⟨r0, (by unfold sR; omega), (by unfold sR; omega), (by unfold sR; omega), (by unfold sR; omega), i0, i1, i2, ttp, ttf, ttq⟩, hP, hD, hS, hl, by omega, by omega⟩
  · obtain rfl : 2 = av2 := h9.symm
    refine cx_frow2 (ob := x) (a2 := av4) (a3 := av6) (rest := []) C1  hB hP hD hS hl.1 (Nat.le_of_ble_eq_true rfl) ⟨by omega, by omega⟩ dL_law_1187 (fun an37 w38 fl2_39 wi2_40 sz2_41 H locs hq hB hP hD hS => ?_)
    have hP := P_perm (List.perm_append_comm_assoc w38 wm tl) hP
    have hD := D_perm (List.perm_append_comm_assoc w38 wm tl) hD
    refine lv_pop hx hb dL_law_1190 rfl ?_
    refine lv_aload_n hx hb dL_law_1191 rfl (lv_at hl 1 rfl) ?_
    refine lv_aload_n hx hb dL_law_1192 rfl (lv_at hl 3 rfl) ?_
    refine lv_iload_n hx hb dL_law_1193 rfl (lv_at hl 0 rfl) ?_
    refine lv_iconst (v := 1) hx hb dL_law_1194 (by decide) ?_
    refine lv_iadd hx hb dL_law_1195 ?_
    refine lv_topi (fun jv42 ejv42 => ?_)
    obtain rfl : jv1 = jv42 := ejv1.trans ejv42.symm
    refine va_sld hx hb hX hbl hbA hS (sl_in (c := 1) ejv1 (by decide) (by decide) hi hL) dL_law_1196 ?_
    refine lv_topi (fun av43 eav43 => ?_)
    obtain rfl : 2 = av43 := eav2.trans eav43.symm
    refine lv_aload_n hx hb dL_law_1197 rfl (lv_at hl 3 rfl) ?_
    refine lv_iload_n hx hb dL_law_1198 rfl (lv_at hl 0 rfl) ?_
    refine lv_iconst (v := 2) hx hb dL_law_1199 (by decide) ?_
    refine lv_iadd hx hb dL_law_1200 ?_
    refine lv_topi (fun jv44 ejv44 => ?_)
    obtain rfl : jv3 = jv44 := ejv3.trans ejv44.symm
    refine va_sld hx hb hX hbl hbA hS (sl_in (c := 2) ejv3 (by decide) (by decide) hi hL) dL_law_1201 ?_
    refine lv_topi (fun av45 eav45 => ?_)
    obtain rfl : av4 = av45 := eav4.trans eav45.symm
    refine lv_aload_n hx hb dL_law_1202 rfl (lv_at hl 3 rfl) ?_
    refine lv_iload_n hx hb dL_law_1203 rfl (lv_at hl 0 rfl) ?_
    refine lv_iconst (v := 3) hx hb dL_law_1204 (by decide) ?_
    refine lv_iadd hx hb dL_law_1205 ?_
    refine lv_topi (fun jv46 ejv46 => ?_)
    obtain rfl : jv5 = jv46 := ejv5.trans ejv46.symm
    refine va_sld hx hb hX hbl hbA hS (sl_in (c := 3) ejv5 (by decide) (by decide) hi hL) dL_law_1206 ?_
    refine lv_topi (fun av47 eav47 => ?_)
    obtain rfl : av6 = av47 := eav6.trans eav47.symm
    refine cx_frowM2 (ob := q) (a2 := av4) (a3 := av6) (rest := []) C1  hM hP hD hS hl.1 (Nat.le_of_ble_eq_true rfl) ⟨by omega, by omega⟩ dL_law_1207 (fun an48 w49 fm_50 fw_51 H locs hq2 hM hP hD hS => ?_)
    have hP := P_perm (List.perm_append_comm_assoc w49 w38 tl) hP
    have hD := D_perm (List.perm_append_comm_assoc w49 w38 tl) hD
    refine lv_pop hx hb dL_law_1210 rfl ?_
    refine lv_goto (tgt := 1350) hx hb dL_law_1211 (by decide) ?_
    have u1 : Int32.toInt 1 = 1 := by decide
    unfold sR at r1 r2 r3 r4
    rcases hq with ⟨_, rfl, rfl, rfl, hz⟩ | ⟨_, rfl, rfl, rfl, hz⟩ | ⟨_, rfl, rfl, rfl, hz⟩ <;> rcases hq2 with ⟨_, rfl, rfl, hz⟩ | ⟨_, rfl, rfl, hz⟩ | ⟨_, hz⟩
    all_goals first | (exfalso; omega) | skip
    · exact K _ _ _ _ ⟨w38, w49, tl, _, _, _, _, _, _, _, _, _, _, _, _, _, _, _, _, _, _, _, _, _, _, _, _, (by assumption), (by assumption), hI, ⟨r0, (by unfold sR; omega), (by unfold sR; omega), (by unfold sR; omega), (by unfold sR; omega), i0, i1, i2, ttp, ttf, ttq⟩, hP, hD, hS, hl, by omega, by omega⟩
    · exact K _ _ _ _ ⟨w38, w49, tl, _, _, _, _, _, _, _, _, _, _, _, _, _, _, _, _, _, _, _, _, _, _, _, _, (by assumption), (by assumption), hI, ⟨r0, (by unfold sR; omega), (by unfold sR; omega), (by unfold sR; omega), (by unfold sR; omega), i0, i1, i2, ttp, ttf, ttq⟩, hP, hD, hS, hl, by omega, by omega⟩
    · exact K _ _ _ _ ⟨w38, w49, tl, _, _, _, _, _, _, _, _, _, _, _, _, _, _, _, _, _, _, _, _, _, _, _, _, (by assumption), (by assumption), hI, ⟨r0, (by unfold sR; omega), (by unfold sR; omega), (by unfold sR; omega), (by unfold sR; omega), i0, i1, i2, ttp, ttf, ttq⟩, hP, hD, hS, hl, by omega, by omega⟩
  · obtain rfl : 3 = av2 := h9.symm
    refine cx_frow3 (ob := x) (a2 := av4) (a3 := av6) (rest := []) C1  hB hP hD hS hl.1 (Nat.le_of_ble_eq_true rfl) ⟨by omega, by omega⟩ dL_law_1187 (fun an52 w53 fl3_54 wi3_55 sz3_56 H locs hq hB hP hD hS => ?_)
    have hP := P_perm (List.perm_append_comm_assoc w53 wm tl) hP
    have hD := D_perm (List.perm_append_comm_assoc w53 wm tl) hD
    refine lv_pop hx hb dL_law_1190 rfl ?_
    refine lv_aload_n hx hb dL_law_1191 rfl (lv_at hl 1 rfl) ?_
    refine lv_aload_n hx hb dL_law_1192 rfl (lv_at hl 3 rfl) ?_
    refine lv_iload_n hx hb dL_law_1193 rfl (lv_at hl 0 rfl) ?_
    refine lv_iconst (v := 1) hx hb dL_law_1194 (by decide) ?_
    refine lv_iadd hx hb dL_law_1195 ?_
    refine lv_topi (fun jv57 ejv57 => ?_)
    obtain rfl : jv1 = jv57 := ejv1.trans ejv57.symm
    refine va_sld hx hb hX hbl hbA hS (sl_in (c := 1) ejv1 (by decide) (by decide) hi hL) dL_law_1196 ?_
    refine lv_topi (fun av58 eav58 => ?_)
    obtain rfl : 3 = av58 := eav2.trans eav58.symm
    refine lv_aload_n hx hb dL_law_1197 rfl (lv_at hl 3 rfl) ?_
    refine lv_iload_n hx hb dL_law_1198 rfl (lv_at hl 0 rfl) ?_
    refine lv_iconst (v := 2) hx hb dL_law_1199 (by decide) ?_
    refine lv_iadd hx hb dL_law_1200 ?_
    refine lv_topi (fun jv59 ejv59 => ?_)
    obtain rfl : jv3 = jv59 := ejv3.trans ejv59.symm
    refine va_sld hx hb hX hbl hbA hS (sl_in (c := 2) ejv3 (by decide) (by decide) hi hL) dL_law_1201 ?_
    refine lv_topi (fun av60 eav60 => ?_)
    obtain rfl : av4 = av60 := eav4.trans eav60.symm
    refine lv_aload_n hx hb dL_law_1202 rfl (lv_at hl 3 rfl) ?_
    refine lv_iload_n hx hb dL_law_1203 rfl (lv_at hl 0 rfl) ?_
    refine lv_iconst (v := 3) hx hb dL_law_1204 (by decide) ?_
    refine lv_iadd hx hb dL_law_1205 ?_
    refine lv_topi (fun jv61 ejv61 => ?_)
    obtain rfl : jv5 = jv61 := ejv5.trans ejv61.symm
    refine va_sld hx hb hX hbl hbA hS (sl_in (c := 3) ejv5 (by decide) (by decide) hi hL) dL_law_1206 ?_
    refine lv_topi (fun av62 eav62 => ?_)
    obtain rfl : av6 = av62 := eav6.trans eav62.symm
    refine cx_frowM3 (ob := q) (a2 := av4) (a3 := av6) (rest := []) C1  hM hP hD hS hl.1 (Nat.le_of_ble_eq_true rfl) ⟨by omega, by omega⟩ dL_law_1207 (fun an63 w64 fm_65 fw_66 H locs hq2 hM hP hD hS => ?_)
    have hP := P_perm (List.perm_append_comm_assoc w64 w53 tl) hP
    have hD := D_perm (List.perm_append_comm_assoc w64 w53 tl) hD
    refine lv_pop hx hb dL_law_1210 rfl ?_
    refine lv_goto (tgt := 1350) hx hb dL_law_1211 (by decide) ?_
    have u1 : Int32.toInt 1 = 1 := by decide
    unfold sR at r1 r2 r3 r4
    rcases hq with ⟨_, rfl, rfl, rfl, hz⟩ | ⟨_, rfl, rfl, rfl, hz⟩ | ⟨_, rfl, rfl, rfl, hz⟩ <;> rcases hq2 with ⟨_, rfl, rfl, hz⟩ | ⟨_, rfl, rfl, hz⟩ | ⟨_, hz⟩
    all_goals first | (exfalso; omega) | skip
    · exact K _ _ _ _ ⟨w53, w64, tl, _, _, _, _, _, _, _, _, _, _, _, _, _, _, _, _, _, _, _, _, _, _, _, _, (by assumption), (by assumption), hI, ⟨r0, (by unfold sR; omega), (by unfold sR; omega), (by unfold sR; omega), (by unfold sR; omega), i0, i1, i2, ttp, ttf, ttq⟩, hP, hD, hS, hl, by omega, by omega⟩
    · exact K _ _ _ _ ⟨w53, w64, tl, _, _, _, _, _, _, _, _, _, _, _, _, _, _, _, _, _, _, _, _, _, _, _, _, (by assumption), (by assumption), hI, ⟨r0, (by unfold sR; omega), (by unfold sR; omega), (by unfold sR; omega), (by unfold sR; omega), i0, i1, i2, ttp, ttf, ttq⟩, hP, hD, hS, hl, by omega, by omega⟩
    · exact K _ _ _ _ ⟨w53, w64, tl, _, _, _, _, _, _, _, _, _, _, _, _, _, _, _, _, _, _, _, _, _, _, _, _, (by assumption), (by assumption), hI, ⟨r0, (by unfold sR; omega), (by unfold sR; omega), (by unfold sR; omega), (by unfold sR; omega), i0, i1, i2, ttp, ttf, ttq⟩, hP, hD, hS, hl, by omega, by omega⟩
  · have hav2 := h9
    refine cx_srowlo (ob := x) (a1 := av2) (a2 := av4) (a3 := av6) (rest := []) C1 hav2 hB hP hD hS hl.1 (Nat.le_of_ble_eq_true rfl) ⟨by omega, by omega⟩ dL_law_1187 (fun an67 w68  H locs hq hB hP hD hS => ?_)
    have hP := P_perm (List.perm_append_comm_assoc w68 wm tl) hP
    have hD := D_perm (List.perm_append_comm_assoc w68 wm tl) hD
    refine lv_pop hx hb dL_law_1190 rfl ?_
    refine lv_aload_n hx hb dL_law_1191 rfl (lv_at hl 1 rfl) ?_
    refine lv_aload_n hx hb dL_law_1192 rfl (lv_at hl 3 rfl) ?_
    refine lv_iload_n hx hb dL_law_1193 rfl (lv_at hl 0 rfl) ?_
    refine lv_iconst (v := 1) hx hb dL_law_1194 (by decide) ?_
    refine lv_iadd hx hb dL_law_1195 ?_
    refine lv_topi (fun jv69 ejv69 => ?_)
    obtain rfl : jv1 = jv69 := ejv1.trans ejv69.symm
    refine va_sld hx hb hX hbl hbA hS (sl_in (c := 1) ejv1 (by decide) (by decide) hi hL) dL_law_1196 ?_
    refine lv_topi (fun av70 eav70 => ?_)
    obtain rfl : av2 = av70 := eav2.trans eav70.symm
    refine lv_aload_n hx hb dL_law_1197 rfl (lv_at hl 3 rfl) ?_
    refine lv_iload_n hx hb dL_law_1198 rfl (lv_at hl 0 rfl) ?_
    refine lv_iconst (v := 2) hx hb dL_law_1199 (by decide) ?_
    refine lv_iadd hx hb dL_law_1200 ?_
    refine lv_topi (fun jv71 ejv71 => ?_)
    obtain rfl : jv3 = jv71 := ejv3.trans ejv71.symm
    refine va_sld hx hb hX hbl hbA hS (sl_in (c := 2) ejv3 (by decide) (by decide) hi hL) dL_law_1201 ?_
    refine lv_topi (fun av72 eav72 => ?_)
    obtain rfl : av4 = av72 := eav4.trans eav72.symm
    refine lv_aload_n hx hb dL_law_1202 rfl (lv_at hl 3 rfl) ?_
    refine lv_iload_n hx hb dL_law_1203 rfl (lv_at hl 0 rfl) ?_
    refine lv_iconst (v := 3) hx hb dL_law_1204 (by decide) ?_
    refine lv_iadd hx hb dL_law_1205 ?_
    refine lv_topi (fun jv73 ejv73 => ?_)
    obtain rfl : jv5 = jv73 := ejv5.trans ejv73.symm
    refine va_sld hx hb hX hbl hbA hS (sl_in (c := 3) ejv5 (by decide) (by decide) hi hL) dL_law_1206 ?_
    refine lv_topi (fun av74 eav74 => ?_)
    obtain rfl : av6 = av74 := eav6.trans eav74.symm
    refine cx_srowMlo (ob := q) (a1 := av2) (a2 := av4) (a3 := av6) (rest := []) C1 hav2 hM hP hD hS hl.1 (Nat.le_of_ble_eq_true rfl) ⟨by omega, by omega⟩ dL_law_1207 (fun an75 w76  H locs hq2 hM hP hD hS => ?_)
    have hP := P_perm (List.perm_append_comm_assoc w76 w68 tl) hP
    have hD := D_perm (List.perm_append_comm_assoc w76 w68 tl) hD
    refine lv_pop hx hb dL_law_1210 rfl ?_
    refine lv_goto (tgt := 1350) hx hb dL_law_1211 (by decide) ?_
    exact K _ _ _ _ ⟨w68, w76, tl, ts, fl0, wi0, sz0, fl1, wi1, sz1, fl2, wi2, sz2, fl3, wi3, sz3, tp, rf, rp, f, ta, fm, fw, fh, tq, fk, fp, hB, hM, hI, ⟨r0, r1, r2, r3, r4, i0, i1, i2, ttp, ttf, ttq⟩, hP, hD, hS, hl, by omega, by omega⟩
  · have hav2 := h9
    refine cx_srowhi (ob := x) (a1 := av2) (a2 := av4) (a3 := av6) (rest := []) C1 hav2 hB hP hD hS hl.1 (Nat.le_of_ble_eq_true rfl) ⟨by omega, by omega⟩ dL_law_1187 (fun an77 w78  H locs hq hB hP hD hS => ?_)
    have hP := P_perm (List.perm_append_comm_assoc w78 wm tl) hP
    have hD := D_perm (List.perm_append_comm_assoc w78 wm tl) hD
    refine lv_pop hx hb dL_law_1190 rfl ?_
    refine lv_aload_n hx hb dL_law_1191 rfl (lv_at hl 1 rfl) ?_
    refine lv_aload_n hx hb dL_law_1192 rfl (lv_at hl 3 rfl) ?_
    refine lv_iload_n hx hb dL_law_1193 rfl (lv_at hl 0 rfl) ?_
    refine lv_iconst (v := 1) hx hb dL_law_1194 (by decide) ?_
    refine lv_iadd hx hb dL_law_1195 ?_
    refine lv_topi (fun jv79 ejv79 => ?_)
    obtain rfl : jv1 = jv79 := ejv1.trans ejv79.symm
    refine va_sld hx hb hX hbl hbA hS (sl_in (c := 1) ejv1 (by decide) (by decide) hi hL) dL_law_1196 ?_
    refine lv_topi (fun av80 eav80 => ?_)
    obtain rfl : av2 = av80 := eav2.trans eav80.symm
    refine lv_aload_n hx hb dL_law_1197 rfl (lv_at hl 3 rfl) ?_
    refine lv_iload_n hx hb dL_law_1198 rfl (lv_at hl 0 rfl) ?_
    refine lv_iconst (v := 2) hx hb dL_law_1199 (by decide) ?_
    refine lv_iadd hx hb dL_law_1200 ?_
    refine lv_topi (fun jv81 ejv81 => ?_)
    obtain rfl : jv3 = jv81 := ejv3.trans ejv81.symm
    refine va_sld hx hb hX hbl hbA hS (sl_in (c := 2) ejv3 (by decide) (by decide) hi hL) dL_law_1201 ?_
    refine lv_topi (fun av82 eav82 => ?_)
    obtain rfl : av4 = av82 := eav4.trans eav82.symm
    refine lv_aload_n hx hb dL_law_1202 rfl (lv_at hl 3 rfl) ?_
    refine lv_iload_n hx hb dL_law_1203 rfl (lv_at hl 0 rfl) ?_
    refine lv_iconst (v := 3) hx hb dL_law_1204 (by decide) ?_
    refine lv_iadd hx hb dL_law_1205 ?_
    refine lv_topi (fun jv83 ejv83 => ?_)
    obtain rfl : jv5 = jv83 := ejv5.trans ejv83.symm
    refine va_sld hx hb hX hbl hbA hS (sl_in (c := 3) ejv5 (by decide) (by decide) hi hL) dL_law_1206 ?_
    refine lv_topi (fun av84 eav84 => ?_)
    obtain rfl : av6 = av84 := eav6.trans eav84.symm
    refine cx_srowMhi (ob := q) (a1 := av2) (a2 := av4) (a3 := av6) (rest := []) C1 hav2 hM hP hD hS hl.1 (Nat.le_of_ble_eq_true rfl) ⟨by omega, by omega⟩ dL_law_1207 (fun an85 w86  H locs hq2 hM hP hD hS => ?_)
    have hP := P_perm (List.perm_append_comm_assoc w86 w78 tl) hP
    have hD := D_perm (List.perm_append_comm_assoc w86 w78 tl) hD
    refine lv_pop hx hb dL_law_1210 rfl ?_
    refine lv_goto (tgt := 1350) hx hb dL_law_1211 (by decide) ?_
    exact K _ _ _ _ ⟨w78, w86, tl, ts, fl0, wi0, sz0, fl1, wi1, sz1, fl2, wi2, sz2, fl3, wi3, sz3, tp, rf, rp, f, ta, fm, fw, fh, tq, fk, fp, hB, hM, hI, ⟨r0, r1, r2, r3, r4, i0, i1, i2, ttp, ttf, ttq⟩, hP, hD, hS, hl, by omega, by omega⟩

set_option maxHeartbeats 4000000 in
set_option maxRecDepth 100000 in
theorem law_34 {p : Program} {e : Env} {s : State} {m : MethodId} {below : List Frame} {meth : Method} {c : Code} {l : Launch} {b L : Nat} {xs : Nat → Int32} {A : Nat → Prop} {G : va_G} {y : Nat → ClassId} {aK aV : Nat → Nat} {H : Heap} {locs : List Loc} {cells slots : Nat} {ls : Array Slot} {Q : State → Prop} (C0 : lawC p s m meth c b L xs A G y aK aV) {x q : Nat} {i : Int32} (hi : 0 ≤ i.toInt ∧ i.toInt + 6 ≤ (L : Int)) (I : LI s b A G y x q i H locs ls cells slots) (K : ∀ H1 locs1 cells1 slots1, LI s b A G y x q i H1 locs1 ls cells1 slots1 → W p l e room_1 s m #[Value.ref b] below meth c H1 locs1 cells1 slots1 Q (F0 m 1350 ls [])) : W p l e room_1 s m #[Value.ref b] below meth c H locs cells slots Q (F0 m 1214 ls []) := by
  have C1 := C0
  obtain ⟨hx, hb, hr, hml, hown, hw0, hX, hbl, hbA, hA, hAf, hlocks, hK, hE, hL⟩ := C0
  obtain ⟨w, wm, tl, ts, fl0, wi0, sz0, fl1, wi1, sz1, fl2, wi2, sz2, fl3, wi3, sz3, tp, rf, rp, f, ta, fm, fw, fh, tq, fk, fp, hB, hM, hI, hR, hP, hD, hS, hl, hc1, hc2⟩ := I
  obtain ⟨r0, r1, r2, r3, r4, i0, i1, i2, ttp, ttf, ttq⟩ := hR
  refine lv_aload_n hx hb dL_law_1214 rfl (lv_at hl 2 rfl) ?_
  refine lv_aload_n hx hb dL_law_1215 rfl (lv_at hl 3 rfl) ?_
  refine lv_iload_n hx hb dL_law_1216 rfl (lv_at hl 0 rfl) ?_
  refine lv_iconst (v := 1) hx hb dL_law_1217 (by decide) ?_
  refine lv_iadd hx hb dL_law_1218 ?_
  refine lv_topi (fun jv1 ejv1 => ?_)
  refine va_sld hx hb hX hbl hbA hS (sl_in (c := 1) ejv1 (by decide) (by decide) hi hL) dL_law_1219 ?_
  refine lv_topi (fun av2 eav2 => ?_)
  refine lv_aload_n hx hb dL_law_1220 rfl (lv_at hl 3 rfl) ?_
  refine lv_iload_n hx hb dL_law_1221 rfl (lv_at hl 0 rfl) ?_
  refine lv_iconst (v := 2) hx hb dL_law_1222 (by decide) ?_
  refine lv_iadd hx hb dL_law_1223 ?_
  refine lv_topi (fun jv3 ejv3 => ?_)
  refine va_sld hx hb hX hbl hbA hS (sl_in (c := 2) ejv3 (by decide) (by decide) hi hL) dL_law_1224 ?_
  refine lv_topi (fun av4 eav4 => ?_)
  refine lv_aload_n hx hb dL_law_1225 rfl (lv_at hl 3 rfl) ?_
  refine lv_iload_n hx hb dL_law_1226 rfl (lv_at hl 0 rfl) ?_
  refine lv_iconst (v := 3) hx hb dL_law_1227 (by decide) ?_
  refine lv_iadd hx hb dL_law_1228 ?_
  refine lv_topi (fun jv5 ejv5 => ?_)
  refine va_sld hx hb hX hbl hbA hS (sl_in (c := 3) ejv5 (by decide) (by decide) hi hL) dL_law_1229 ?_
  refine lv_topi (fun av6 eav6 => ?_)
  refine lv_i2l hx hb dL_law_1230 rfl ?_
  refine lv_bipush (v := 32) hx hb dL_law_1231 (by decide) ?_
  refine lv_lshl hx hb dL_law_1233 rfl ?_
  refine lv_topl (fun lv7 elv7 => ?_)
  refine lv_aload_n hx hb dL_law_1234 rfl (lv_at hl 3 rfl) ?_
  refine lv_iload_n hx hb dL_law_1235 rfl (lv_at hl 0 rfl) ?_
  refine lv_iconst (v := 4) hx hb dL_law_1236 (by decide) ?_
  refine lv_iadd hx hb dL_law_1237 ?_
  refine lv_topi (fun jv8 ejv8 => ?_)
  refine va_sld hx hb hX hbl hbA hS (sl_in (c := 4) ejv8 (by decide) (by decide) hi hL) dL_law_1238 ?_
  refine lv_topi (fun av9 eav9 => ?_)
  refine lv_i2l hx hb dL_law_1239 rfl ?_
  refine lv_ldc2 (own := RL) (v := 4294967295) hx hb hown (hw0 _ m_248) dL_law_1240 ?_
  refine lv_land hx hb dL_law_1243 ?_
  refine lv_topl (fun lv10 elv10 => ?_)
  refine lv_lor hx hb dL_law_1244 ?_
  refine lv_topl (fun lv11 elv11 => ?_)
  rcases so_cases av2 with h9 | h9 | h9 | h9 | h9 | h9
  · obtain rfl : 0 = av2 := h9.symm
    refine cx_fwrite0 (ob := x) (a2 := av4) (a3 := lv11) (rest := []) C1  hB hP hD hS hl.1 (Nat.le_of_ble_eq_true rfl) ⟨by omega, by omega⟩ dL_law_1245 (fun an12 w13 wi0_14 H locs hq hB hP hD hS => ?_)
    have hP := P_perm (List.perm_append_comm_assoc w13 wm tl) hP
    have hD := D_perm (List.perm_append_comm_assoc w13 wm tl) hD
    refine lv_pop hx hb dL_law_1248 rfl ?_
    refine lv_aload_n hx hb dL_law_1249 rfl (lv_at hl 1 rfl) ?_
    refine lv_aload_n hx hb dL_law_1250 rfl (lv_at hl 3 rfl) ?_
    refine lv_iload_n hx hb dL_law_1251 rfl (lv_at hl 0 rfl) ?_
    refine lv_iconst (v := 1) hx hb dL_law_1252 (by decide) ?_
    refine lv_iadd hx hb dL_law_1253 ?_
    refine lv_topi (fun jv15 ejv15 => ?_)
    obtain rfl : jv1 = jv15 := ejv1.trans ejv15.symm
    refine va_sld hx hb hX hbl hbA hS (sl_in (c := 1) ejv1 (by decide) (by decide) hi hL) dL_law_1254 ?_
    refine lv_topi (fun av16 eav16 => ?_)
    obtain rfl : 0 = av16 := eav2.trans eav16.symm
    refine lv_aload_n hx hb dL_law_1255 rfl (lv_at hl 3 rfl) ?_
    refine lv_iload_n hx hb dL_law_1256 rfl (lv_at hl 0 rfl) ?_
    refine lv_iconst (v := 2) hx hb dL_law_1257 (by decide) ?_
    refine lv_iadd hx hb dL_law_1258 ?_
    refine lv_topi (fun jv17 ejv17 => ?_)
    obtain rfl : jv3 = jv17 := ejv3.trans ejv17.symm
    refine va_sld hx hb hX hbl hbA hS (sl_in (c := 2) ejv3 (by decide) (by decide) hi hL) dL_law_1259 ?_
    refine lv_topi (fun av18 eav18 => ?_)
    obtain rfl : av4 = av18 := eav4.trans eav18.symm
    refine lv_aload_n hx hb dL_law_1260 rfl (lv_at hl 3 rfl) ?_
    refine lv_iload_n hx hb dL_law_1261 rfl (lv_at hl 0 rfl) ?_
    refine lv_iconst (v := 3) hx hb dL_law_1262 (by decide) ?_
    refine lv_iadd hx hb dL_law_1263 ?_
    refine lv_topi (fun jv19 ejv19 => ?_)
    obtain rfl : jv5 = jv19 := ejv5.trans ejv19.symm
    refine va_sld hx hb hX hbl hbA hS (sl_in (c := 3) ejv5 (by decide) (by decide) hi hL) dL_law_1264 ?_
    refine lv_topi (fun av20 eav20 => ?_)
    obtain rfl : av6 = av20 := eav6.trans eav20.symm
    refine lv_i2l hx hb dL_law_1265 rfl ?_
    refine lv_bipush (v := 32) hx hb dL_law_1266 (by decide) ?_
    refine lv_lshl hx hb dL_law_1268 rfl ?_
    refine lv_topl (fun lv21 elv21 => ?_)
    refine lv_aload_n hx hb dL_law_1269 rfl (lv_at hl 3 rfl) ?_
    refine lv_iload_n hx hb dL_law_1270 rfl (lv_at hl 0 rfl) ?_
    refine lv_iconst (v := 4) hx hb dL_law_1271 (by decide) ?_
    refine lv_iadd hx hb dL_law_1272 ?_
    refine lv_topi (fun jv22 ejv22 => ?_)
    obtain rfl : jv8 = jv22 := ejv8.trans ejv22.symm
    refine va_sld hx hb hX hbl hbA hS (sl_in (c := 4) ejv8 (by decide) (by decide) hi hL) dL_law_1273 ?_
    refine lv_topi (fun av23 eav23 => ?_)
    obtain rfl : av9 = av23 := eav9.trans eav23.symm
    refine lv_i2l hx hb dL_law_1274 rfl ?_
    refine lv_ldc2 (own := RL) (v := 4294967295) hx hb hown (hw0 _ m_248) dL_law_1275 ?_
    refine lv_land hx hb dL_law_1278 ?_
    refine lv_topl (fun lv24 elv24 => ?_)
    refine lv_lor hx hb dL_law_1279 ?_
    refine lv_topl (fun lv25 elv25 => ?_)
    refine cx_fwriteM0 (ob := q) (a2 := av4) (a3 := lv25) (rest := []) C1  hM hP hD hS hl.1 (Nat.le_of_ble_eq_true rfl) ⟨by omega, by omega⟩ dL_law_1280 (fun an26 w27  H locs hq2 hM hP hD hS => ?_)
    have hP := P_perm (List.perm_append_comm_assoc w27 w13 tl) hP
    have hD := D_perm (List.perm_append_comm_assoc w27 w13 tl) hD
    refine lv_pop hx hb dL_law_1283 rfl ?_
    refine lv_goto (tgt := 1350) hx hb dL_law_1284 (by decide) ?_
    have u1 : Int32.toInt 1 = 1 := by decide
    unfold sR at r1 r2 r3 r4
    rcases hq with ⟨_, rfl, hz⟩ | ⟨_, rfl, hz⟩ | ⟨_, hz⟩ <;> rcases hq2 with ⟨_, hz⟩ | ⟨_, hz⟩ | ⟨_, hz⟩
    all_goals first | (exfalso; omega) | skip
    · exact K _ _ _ _ ⟨w13, w27, tl, _, _, _, _, _, _, _, _, _, _, _, _, _, _, _, _, _, _, _, _, _, _, _, _, (by assumption), (by assumption), hI, ⟨r0, (by unfold sR; omega), r2, r3, r4, i0, i1, i2, ttp, ttf, ttq⟩, hP, hD, hS, hl, by omega, by omega⟩
    · exact K _ _ _ _ ⟨w13, w27, tl, _, _, _, _, _, _, _, _, _, _, _, _, _, _, _, _, _, _, _, _, _, _, _, _, (by assumption), (by assumption), hI, ⟨r0, (by unfold sR; omega), r2, r3, r4, i0, i1, i2, ttp, ttf, ttq⟩, hP, hD, hS, hl, by omega, by omega⟩
    · exact K _ _ _ _ ⟨w13, w27, tl, _, _, _, _, _, _, _, _, _, _, _, _, _, _, _, _, _, _, _, _, _, _, _, _, (by assumption), (by assumption), hI, ⟨r0, (by unfold sR; omega), r2, r3, r4, i0, i1, i2, ttp, ttf, ttq⟩, hP, hD, hS, hl, by omega, by omega⟩
  · obtain rfl : 1 = av2 := h9.symm
    refine cx_fwrite1 (ob := x) (a2 := av4) (a3 := lv11) (rest := []) C1  hB hP hD hS hl.1 (Nat.le_of_ble_eq_true rfl) ⟨by omega, by omega⟩ dL_law_1245 (fun an28 w29 wi1_30 H locs hq hB hP hD hS => ?_)
    have hP := P_perm (List.perm_append_comm_assoc w29 wm tl) hP
    have hD := D_perm (List.perm_append_comm_assoc w29 wm tl) hD
    refine lv_pop hx hb dL_law_1248 rfl ?_
    refine lv_aload_n hx hb dL_law_1249 rfl (lv_at hl 1 rfl) ?_
    refine lv_aload_n hx hb dL_law_1250 rfl (lv_at hl 3 rfl) ?_
    refine lv_iload_n hx hb dL_law_1251 rfl (lv_at hl 0 rfl) ?_
    refine lv_iconst (v := 1) hx hb dL_law_1252 (by decide) ?_
    refine lv_iadd hx hb dL_law_1253 ?_
    refine lv_topi (fun jv31 ejv31 => ?_)
    obtain rfl : jv1 = jv31 := ejv1.trans ejv31.symm
    refine va_sld hx hb hX hbl hbA hS (sl_in (c := 1) ejv1 (by decide) (by decide) hi hL) dL_law_1254 ?_
    refine lv_topi (fun av32 eav32 => ?_)
    obtain rfl : 1 = av32 := eav2.trans eav32.symm
    refine lv_aload_n hx hb dL_law_1255 rfl (lv_at hl 3 rfl) ?_
    refine lv_iload_n hx hb dL_law_1256 rfl (lv_at hl 0 rfl) ?_
    refine lv_iconst (v := 2) hx hb dL_law_1257 (by decide) ?_
    refine lv_iadd hx hb dL_law_1258 ?_
    refine lv_topi (fun jv33 ejv33 => ?_)
    obtain rfl : jv3 = jv33 := ejv3.trans ejv33.symm
    refine va_sld hx hb hX hbl hbA hS (sl_in (c := 2) ejv3 (by decide) (by decide) hi hL) dL_law_1259 ?_
    refine lv_topi (fun av34 eav34 => ?_)
    obtain rfl : av4 = av34 := eav4.trans eav34.symm
    refine lv_aload_n hx hb dL_law_1260 rfl (lv_at hl 3 rfl) ?_
    refine lv_iload_n hx hb dL_law_1261 rfl (lv_at hl 0 rfl) ?_
    refine lv_iconst (v := 3) hx hb dL_law_1262 (by decide) ?_
    refine lv_iadd hx hb dL_law_1263 ?_
    refine lv_topi (fun jv35 ejv35 => ?_)
    obtain rfl : jv5 = jv35 := ejv5.trans ejv35.symm
    refine va_sld hx hb hX hbl hbA hS (sl_in (c := 3) ejv5 (by decide) (by decide) hi hL) dL_law_1264 ?_
    refine lv_topi (fun av36 eav36 => ?_)
    obtain rfl : av6 = av36 := eav6.trans eav36.symm
    refine lv_i2l hx hb dL_law_1265 rfl ?_
    refine lv_bipush (v := 32) hx hb dL_law_1266 (by decide) ?_
    refine lv_lshl hx hb dL_law_1268 rfl ?_
    refine lv_topl (fun lv37 elv37 => ?_)
    refine lv_aload_n hx hb dL_law_1269 rfl (lv_at hl 3 rfl) ?_
    refine lv_iload_n hx hb dL_law_1270 rfl (lv_at hl 0 rfl) ?_
    refine lv_iconst (v := 4) hx hb dL_law_1271 (by decide) ?_
    refine lv_iadd hx hb dL_law_1272 ?_
    refine lv_topi (fun jv38 ejv38 => ?_)
    obtain rfl : jv8 = jv38 := ejv8.trans ejv38.symm
    refine va_sld hx hb hX hbl hbA hS (sl_in (c := 4) ejv8 (by decide) (by decide) hi hL) dL_law_1273 ?_
    refine lv_topi (fun av39 eav39 => ?_)
    obtain rfl : av9 = av39 := eav9.trans eav39.symm
    refine lv_i2l hx hb dL_law_1274 rfl ?_
    refine lv_ldc2 (own := RL) (v := 4294967295) hx hb hown (hw0 _ m_248) dL_law_1275 ?_
    refine lv_land hx hb dL_law_1278 ?_
    refine lv_topl (fun lv40 elv40 => ?_)
    refine lv_lor hx hb dL_law_1279 ?_
    refine lv_topl (fun lv41 elv41 => ?_)
    refine cx_fwriteM1 (ob := q) (a2 := av4) (a3 := lv41) (rest := []) C1  hM hP hD hS hl.1 (Nat.le_of_ble_eq_true rfl) ⟨by omega, by omega⟩ dL_law_1280 (fun an42 w43  H locs hq2 hM hP hD hS => ?_)
    have hP := P_perm (List.perm_append_comm_assoc w43 w29 tl) hP
    have hD := D_perm (List.perm_append_comm_assoc w43 w29 tl) hD
    refine lv_pop hx hb dL_law_1283 rfl ?_
    refine lv_goto (tgt := 1350) hx hb dL_law_1284 (by decide) ?_
    have u1 : Int32.toInt 1 = 1 := by decide
    unfold sR at r1 r2 r3 r4
    rcases hq with ⟨_, rfl, hz⟩ | ⟨_, rfl, hz⟩ | ⟨_, hz⟩ <;> rcases hq2 with ⟨_, hz⟩ | ⟨_, hz⟩ | ⟨_, hz⟩
    all_goals first | (exfalso; omega) | skip
    · exact K _ _ _ _ ⟨w29, w43, tl, _, _, _, _, _, _, _, _, _, _, _, _, _, _, _, _, _, _, _, _, _, _, _, _, (by assumption), (by assumption), hI, ⟨r0, r1, (by unfold sR; omega), r3, r4, i0, i1, i2, ttp, ttf, ttq⟩, hP, hD, hS, hl, by omega, by omega⟩
    · exact K _ _ _ _ ⟨w29, w43, tl, _, _, _, _, _, _, _, _, _, _, _, _, _, _, _, _, _, _, _, _, _, _, _, _, (by assumption), (by assumption), hI, ⟨r0, r1, (by unfold sR; omega), r3, r4, i0, i1, i2, ttp, ttf, ttq⟩, hP, hD, hS, hl, by omega, by omega⟩
    · exact K _ _ _ _ ⟨w29, w43, tl, _, _, _, _, _, _, _, _, _, _, _, _, _, _, _, _, _, _, _, _, _, _, _, _, (by assumption), (by assumption), hI, ⟨r0, r1, (by unfold sR; omega), r3, r4, i0, i1, i2, ttp, ttf, ttq⟩, hP, hD, hS, hl, by omega, by omega⟩
  · obtain rfl : 2 = av2 := h9.symm
    refine cx_fwrite2 (ob := x) (a2 := av4) (a3 := lv11) (rest := []) C1  hB hP hD hS hl.1 (Nat.le_of_ble_eq_true rfl) ⟨by omega, by omega⟩ dL_law_1245 (fun an44 w45 wi2_46 H locs hq hB hP hD hS => ?_)
    have hP := P_perm (List.perm_append_comm_assoc w45 wm tl) hP
    have hD := D_perm (List.perm_append_comm_assoc w45 wm tl) hD
    refine lv_pop hx hb dL_law_1248 rfl ?_
    refine lv_aload_n hx hb dL_law_1249 rfl (lv_at hl 1 rfl) ?_
    refine lv_aload_n hx hb dL_law_1250 rfl (lv_at hl 3 rfl) ?_
    refine lv_iload_n hx hb dL_law_1251 rfl (lv_at hl 0 rfl) ?_
    refine lv_iconst (v := 1) hx hb dL_law_1252 (by decide) ?_
    refine lv_iadd hx hb dL_law_1253 ?_
    refine lv_topi (fun jv47 ejv47 => ?_)
    obtain rfl : jv1 = jv47 := ejv1.trans ejv47.symm
    refine va_sld hx hb hX hbl hbA hS (sl_in (c := 1) ejv1 (by decide) (by decide) hi hL) dL_law_1254 ?_
    refine lv_topi (fun av48 eav48 => ?_)
    obtain rfl : 2 = av48 := eav2.trans eav48.symm
    refine lv_aload_n hx hb dL_law_1255 rfl (lv_at hl 3 rfl) ?_
    refine lv_iload_n hx hb dL_law_1256 rfl (lv_at hl 0 rfl) ?_
    refine lv_iconst (v := 2) hx hb dL_law_1257 (by decide) ?_
    refine lv_iadd hx hb dL_law_1258 ?_
    refine lv_topi (fun jv49 ejv49 => ?_)
    obtain rfl : jv3 = jv49 := ejv3.trans ejv49.symm
    refine va_sld hx hb hX hbl hbA hS (sl_in (c := 2) ejv3 (by decide) (by decide) hi hL) dL_law_1259 ?_
    refine lv_topi (fun av50 eav50 => ?_)
    obtain rfl : av4 = av50 := eav4.trans eav50.symm
    refine lv_aload_n hx hb dL_law_1260 rfl (lv_at hl 3 rfl) ?_
    refine lv_iload_n hx hb dL_law_1261 rfl (lv_at hl 0 rfl) ?_
    refine lv_iconst (v := 3) hx hb dL_law_1262 (by decide) ?_
    refine lv_iadd hx hb dL_law_1263 ?_
    refine lv_topi (fun jv51 ejv51 => ?_)
    obtain rfl : jv5 = jv51 := ejv5.trans ejv51.symm
    refine va_sld hx hb hX hbl hbA hS (sl_in (c := 3) ejv5 (by decide) (by decide) hi hL) dL_law_1264 ?_
    refine lv_topi (fun av52 eav52 => ?_)
    obtain rfl : av6 = av52 := eav6.trans eav52.symm
    refine lv_i2l hx hb dL_law_1265 rfl ?_
    refine lv_bipush (v := 32) hx hb dL_law_1266 (by decide) ?_
    refine lv_lshl hx hb dL_law_1268 rfl ?_
    refine lv_topl (fun lv53 elv53 => ?_)
    refine lv_aload_n hx hb dL_law_1269 rfl (lv_at hl 3 rfl) ?_
    refine lv_iload_n hx hb dL_law_1270 rfl (lv_at hl 0 rfl) ?_
    refine lv_iconst (v := 4) hx hb dL_law_1271 (by decide) ?_
    refine lv_iadd hx hb dL_law_1272 ?_
    refine lv_topi (fun jv54 ejv54 => ?_)
    obtain rfl : jv8 = jv54 := ejv8.trans ejv54.symm
    refine va_sld hx hb hX hbl hbA hS (sl_in (c := 4) ejv8 (by decide) (by decide) hi hL) dL_law_1273 ?_
    refine lv_topi (fun av55 eav55 => ?_)
    obtain rfl : av9 = av55 := eav9.trans eav55.symm
    refine lv_i2l hx hb dL_law_1274 rfl ?_
    refine lv_ldc2 (own := RL) (v := 4294967295) hx hb hown (hw0 _ m_248) dL_law_1275 ?_
    refine lv_land hx hb dL_law_1278 ?_
    refine lv_topl (fun lv56 elv56 => ?_)
    refine lv_lor hx hb dL_law_1279 ?_
    refine lv_topl (fun lv57 elv57 => ?_)
    refine cx_fwriteM2 (ob := q) (a2 := av4) (a3 := lv57) (rest := []) C1  hM hP hD hS hl.1 (Nat.le_of_ble_eq_true rfl) ⟨by omega, by omega⟩ dL_law_1280 (fun an58 w59  H locs hq2 hM hP hD hS => ?_)
    have hP := P_perm (List.perm_append_comm_assoc w59 w45 tl) hP
    have hD := D_perm (List.perm_append_comm_assoc w59 w45 tl) hD
    refine lv_pop hx hb dL_law_1283 rfl ?_
    refine lv_goto (tgt := 1350) hx hb dL_law_1284 (by decide) ?_
    have u1 : Int32.toInt 1 = 1 := by decide
    unfold sR at r1 r2 r3 r4
    rcases hq with ⟨_, rfl, hz⟩ | ⟨_, rfl, hz⟩ | ⟨_, hz⟩ <;> rcases hq2 with ⟨_, hz⟩ | ⟨_, hz⟩ | ⟨_, hz⟩
    all_goals first | (exfalso; omega) | skip
    · exact K _ _ _ _ ⟨w45, w59, tl, _, _, _, _, _, _, _, _, _, _, _, _, _, _, _, _, _, _, _, _, _, _, _, _, (by assumption), (by assumption), hI, ⟨r0, r1, r2, (by unfold sR; omega), r4, i0, i1, i2, ttp, ttf, ttq⟩, hP, hD, hS, hl, by omega, by omega⟩
    · exact K _ _ _ _ ⟨w45, w59, tl, _, _, _, _, _, _, _, _, _, _, _, _, _, _, _, _, _, _, _, _, _, _, _, _, (by assumption), (by assumption), hI, ⟨r0, r1, r2, (by unfold sR; omega), r4, i0, i1, i2, ttp, ttf, ttq⟩, hP, hD, hS, hl, by omega, by omega⟩
    · exact K _ _ _ _ ⟨w45, w59, tl, _, _, _, _, _, _, _, _, _, _, _, _, _, _, _, _, _, _, _, _, _, _, _, _, (by assumption), (by assumption), hI, ⟨r0, r1, r2, (by unfold sR; omega), r4, i0, i1, i2, ttp, ttf, ttq⟩, hP, hD, hS, hl, by omega, by omega⟩
  · obtain rfl : 3 = av2 := h9.symm
    refine cx_fwrite3 (ob := x) (a2 := av4) (a3 := lv11) (rest := []) C1  hB hP hD hS hl.1 (Nat.le_of_ble_eq_true rfl) ⟨by omega, by omega⟩ dL_law_1245 (fun an60 w61 wi3_62 H locs hq hB hP hD hS => ?_)
    have hP := P_perm (List.perm_append_comm_assoc w61 wm tl) hP
    have hD := D_perm (List.perm_append_comm_assoc w61 wm tl) hD
    refine lv_pop hx hb dL_law_1248 rfl ?_
    refine lv_aload_n hx hb dL_law_1249 rfl (lv_at hl 1 rfl) ?_
    refine lv_aload_n hx hb dL_law_1250 rfl (lv_at hl 3 rfl) ?_
    refine lv_iload_n hx hb dL_law_1251 rfl (lv_at hl 0 rfl) ?_
    refine lv_iconst (v := 1) hx hb dL_law_1252 (by decide) ?_
    refine lv_iadd hx hb dL_law_1253 ?_
    refine lv_topi (fun jv63 ejv63 => ?_)
    obtain rfl : jv1 = jv63 := ejv1.trans ejv63.symm
    refine va_sld hx hb hX hbl hbA hS (sl_in (c := 1) ejv1 (by decide) (by decide) hi hL) dL_law_1254 ?_
    refine lv_topi (fun av64 eav64 => ?_)
    obtain rfl : 3 = av64 := eav2.trans eav64.symm
    refine lv_aload_n hx hb dL_law_1255 rfl (lv_at hl 3 rfl) ?_
    refine lv_iload_n hx hb dL_law_1256 rfl (lv_at hl 0 rfl) ?_
    refine lv_iconst (v := 2) hx hb dL_law_1257 (by decide) ?_
    refine lv_iadd hx hb dL_law_1258 ?_
    refine lv_topi (fun jv65 ejv65 => ?_)
    obtain rfl : jv3 = jv65 := ejv3.trans ejv65.symm
    refine va_sld hx hb hX hbl hbA hS (sl_in (c := 2) ejv3 (by decide) (by decide) hi hL) dL_law_1259 ?_
    refine lv_topi (fun av66 eav66 => ?_)
    obtain rfl : av4 = av66 := eav4.trans eav66.symm
    refine lv_aload_n hx hb dL_law_1260 rfl (lv_at hl 3 rfl) ?_
    refine lv_iload_n hx hb dL_law_1261 rfl (lv_at hl 0 rfl) ?_
    refine lv_iconst (v := 3) hx hb dL_law_1262 (by decide) ?_
    refine lv_iadd hx hb dL_law_1263 ?_
    refine lv_topi (fun jv67 ejv67 => ?_)
    obtain rfl : jv5 = jv67 := ejv5.trans ejv67.symm
    refine va_sld hx hb hX hbl hbA hS (sl_in (c := 3) ejv5 (by decide) (by decide) hi hL) dL_law_1264 ?_
    refine lv_topi (fun av68 eav68 => ?_)
    obtain rfl : av6 = av68 := eav6.trans eav68.symm
    refine lv_i2l hx hb dL_law_1265 rfl ?_
    refine lv_bipush (v := 32) hx hb dL_law_1266 (by decide) ?_
    refine lv_lshl hx hb dL_law_1268 rfl ?_
    refine lv_topl (fun lv69 elv69 => ?_)
    refine lv_aload_n hx hb dL_law_1269 rfl (lv_at hl 3 rfl) ?_
    refine lv_iload_n hx hb dL_law_1270 rfl (lv_at hl 0 rfl) ?_
    refine lv_iconst (v := 4) hx hb dL_law_1271 (by decide) ?_
    refine lv_iadd hx hb dL_law_1272 ?_
    refine lv_topi (fun jv70 ejv70 => ?_)
    obtain rfl : jv8 = jv70 := ejv8.trans ejv70.symm
    refine va_sld hx hb hX hbl hbA hS (sl_in (c := 4) ejv8 (by decide) (by decide) hi hL) dL_law_1273 ?_
    refine lv_topi (fun av71 eav71 => ?_)
    obtain rfl : av9 = av71 := eav9.trans eav71.symm
    refine lv_i2l hx hb dL_law_1274 rfl ?_
    refine lv_ldc2 (own := RL) (v := 4294967295) hx hb hown (hw0 _ m_248) dL_law_1275 ?_
    refine lv_land hx hb dL_law_1278 ?_
    refine lv_topl (fun lv72 elv72 => ?_)
    refine lv_lor hx hb dL_law_1279 ?_
    refine lv_topl (fun lv73 elv73 => ?_)
    refine cx_fwriteM3 (ob := q) (a2 := av4) (a3 := lv73) (rest := []) C1  hM hP hD hS hl.1 (Nat.le_of_ble_eq_true rfl) ⟨by omega, by omega⟩ dL_law_1280 (fun an74 w75  H locs hq2 hM hP hD hS => ?_)
    have hP := P_perm (List.perm_append_comm_assoc w75 w61 tl) hP
    have hD := D_perm (List.perm_append_comm_assoc w75 w61 tl) hD
    refine lv_pop hx hb dL_law_1283 rfl ?_
    refine lv_goto (tgt := 1350) hx hb dL_law_1284 (by decide) ?_
    have u1 : Int32.toInt 1 = 1 := by decide
    unfold sR at r1 r2 r3 r4
    rcases hq with ⟨_, rfl, hz⟩ | ⟨_, rfl, hz⟩ | ⟨_, hz⟩ <;> rcases hq2 with ⟨_, hz⟩ | ⟨_, hz⟩ | ⟨_, hz⟩
    all_goals first | (exfalso; omega) | skip
    · exact K _ _ _ _ ⟨w61, w75, tl, _, _, _, _, _, _, _, _, _, _, _, _, _, _, _, _, _, _, _, _, _, _, _, _, (by assumption), (by assumption), hI, ⟨r0, r1, r2, r3, (by unfold sR; omega), i0, i1, i2, ttp, ttf, ttq⟩, hP, hD, hS, hl, by omega, by omega⟩
    · exact K _ _ _ _ ⟨w61, w75, tl, _, _, _, _, _, _, _, _, _, _, _, _, _, _, _, _, _, _, _, _, _, _, _, _, (by assumption), (by assumption), hI, ⟨r0, r1, r2, r3, (by unfold sR; omega), i0, i1, i2, ttp, ttf, ttq⟩, hP, hD, hS, hl, by omega, by omega⟩
    · exact K _ _ _ _ ⟨w61, w75, tl, _, _, _, _, _, _, _, _, _, _, _, _, _, _, _, _, _, _, _, _, _, _, _, _, (by assumption), (by assumption), hI, ⟨r0, r1, r2, r3, (by unfold sR; omega), i0, i1, i2, ttp, ttf, ttq⟩, hP, hD, hS, hl, by omega, by omega⟩
  · have hav2 := h9
    refine cx_swritelo (ob := x) (a1 := av2) (a2 := av4) (a3 := lv11) (rest := []) C1 hav2 hB hP hD hS hl.1 (Nat.le_of_ble_eq_true rfl) ⟨by omega, by omega⟩ dL_law_1245 (fun an76 w77  H locs hq hB hP hD hS => ?_)
    have hP := P_perm (List.perm_append_comm_assoc w77 wm tl) hP
    have hD := D_perm (List.perm_append_comm_assoc w77 wm tl) hD
    refine lv_pop hx hb dL_law_1248 rfl ?_
    refine lv_aload_n hx hb dL_law_1249 rfl (lv_at hl 1 rfl) ?_
    refine lv_aload_n hx hb dL_law_1250 rfl (lv_at hl 3 rfl) ?_
    refine lv_iload_n hx hb dL_law_1251 rfl (lv_at hl 0 rfl) ?_
    refine lv_iconst (v := 1) hx hb dL_law_1252 (by decide) ?_
    refine lv_iadd hx hb dL_law_1253 ?_
    refine lv_topi (fun jv78 ejv78 => ?_)
    obtain rfl : jv1 = jv78 := ejv1.trans ejv78.symm
    refine va_sld hx hb hX hbl hbA hS (sl_in (c := 1) ejv1 (by decide) (by decide) hi hL) dL_law_1254 ?_
    refine lv_topi (fun av79 eav79 => ?_)
    obtain rfl : av2 = av79 := eav2.trans eav79.symm
    refine lv_aload_n hx hb dL_law_1255 rfl (lv_at hl 3 rfl) ?_
    refine lv_iload_n hx hb dL_law_1256 rfl (lv_at hl 0 rfl) ?_
    refine lv_iconst (v := 2) hx hb dL_law_1257 (by decide) ?_
    refine lv_iadd hx hb dL_law_1258 ?_
    refine lv_topi (fun jv80 ejv80 => ?_)
    obtain rfl : jv3 = jv80 := ejv3.trans ejv80.symm
    refine va_sld hx hb hX hbl hbA hS (sl_in (c := 2) ejv3 (by decide) (by decide) hi hL) dL_law_1259 ?_
    refine lv_topi (fun av81 eav81 => ?_)
    obtain rfl : av4 = av81 := eav4.trans eav81.symm
    refine lv_aload_n hx hb dL_law_1260 rfl (lv_at hl 3 rfl) ?_
    refine lv_iload_n hx hb dL_law_1261 rfl (lv_at hl 0 rfl) ?_
    refine lv_iconst (v := 3) hx hb dL_law_1262 (by decide) ?_
    refine lv_iadd hx hb dL_law_1263 ?_
    refine lv_topi (fun jv82 ejv82 => ?_)
    obtain rfl : jv5 = jv82 := ejv5.trans ejv82.symm
    refine va_sld hx hb hX hbl hbA hS (sl_in (c := 3) ejv5 (by decide) (by decide) hi hL) dL_law_1264 ?_
    refine lv_topi (fun av83 eav83 => ?_)
    obtain rfl : av6 = av83 := eav6.trans eav83.symm
    refine lv_i2l hx hb dL_law_1265 rfl ?_
    refine lv_bipush (v := 32) hx hb dL_law_1266 (by decide) ?_
    refine lv_lshl hx hb dL_law_1268 rfl ?_
    refine lv_topl (fun lv84 elv84 => ?_)
    refine lv_aload_n hx hb dL_law_1269 rfl (lv_at hl 3 rfl) ?_
    refine lv_iload_n hx hb dL_law_1270 rfl (lv_at hl 0 rfl) ?_
    refine lv_iconst (v := 4) hx hb dL_law_1271 (by decide) ?_
    refine lv_iadd hx hb dL_law_1272 ?_
    refine lv_topi (fun jv85 ejv85 => ?_)
    obtain rfl : jv8 = jv85 := ejv8.trans ejv85.symm
    refine va_sld hx hb hX hbl hbA hS (sl_in (c := 4) ejv8 (by decide) (by decide) hi hL) dL_law_1273 ?_
    refine lv_topi (fun av86 eav86 => ?_)
    obtain rfl : av9 = av86 := eav9.trans eav86.symm
    refine lv_i2l hx hb dL_law_1274 rfl ?_
    refine lv_ldc2 (own := RL) (v := 4294967295) hx hb hown (hw0 _ m_248) dL_law_1275 ?_
    refine lv_land hx hb dL_law_1278 ?_
    refine lv_topl (fun lv87 elv87 => ?_)
    refine lv_lor hx hb dL_law_1279 ?_
    refine lv_topl (fun lv88 elv88 => ?_)
    refine cx_swriteMlo (ob := q) (a1 := av2) (a2 := av4) (a3 := lv88) (rest := []) C1 hav2 hM hP hD hS hl.1 (Nat.le_of_ble_eq_true rfl) ⟨by omega, by omega⟩ dL_law_1280 (fun an89 w90  H locs hq2 hM hP hD hS => ?_)
    have hP := P_perm (List.perm_append_comm_assoc w90 w77 tl) hP
    have hD := D_perm (List.perm_append_comm_assoc w90 w77 tl) hD
    refine lv_pop hx hb dL_law_1283 rfl ?_
    refine lv_goto (tgt := 1350) hx hb dL_law_1284 (by decide) ?_
    exact K _ _ _ _ ⟨w77, w90, tl, ts, fl0, wi0, sz0, fl1, wi1, sz1, fl2, wi2, sz2, fl3, wi3, sz3, tp, rf, rp, f, ta, fm, fw, fh, tq, fk, fp, hB, hM, hI, ⟨r0, r1, r2, r3, r4, i0, i1, i2, ttp, ttf, ttq⟩, hP, hD, hS, hl, by omega, by omega⟩
  · have hav2 := h9
    refine cx_swritehi (ob := x) (a1 := av2) (a2 := av4) (a3 := lv11) (rest := []) C1 hav2 hB hP hD hS hl.1 (Nat.le_of_ble_eq_true rfl) ⟨by omega, by omega⟩ dL_law_1245 (fun an91 w92  H locs hq hB hP hD hS => ?_)
    have hP := P_perm (List.perm_append_comm_assoc w92 wm tl) hP
    have hD := D_perm (List.perm_append_comm_assoc w92 wm tl) hD
    refine lv_pop hx hb dL_law_1248 rfl ?_
    refine lv_aload_n hx hb dL_law_1249 rfl (lv_at hl 1 rfl) ?_
    refine lv_aload_n hx hb dL_law_1250 rfl (lv_at hl 3 rfl) ?_
    refine lv_iload_n hx hb dL_law_1251 rfl (lv_at hl 0 rfl) ?_
    refine lv_iconst (v := 1) hx hb dL_law_1252 (by decide) ?_
    refine lv_iadd hx hb dL_law_1253 ?_
    refine lv_topi (fun jv93 ejv93 => ?_)
    obtain rfl : jv1 = jv93 := ejv1.trans ejv93.symm
    refine va_sld hx hb hX hbl hbA hS (sl_in (c := 1) ejv1 (by decide) (by decide) hi hL) dL_law_1254 ?_
    refine lv_topi (fun av94 eav94 => ?_)
    obtain rfl : av2 = av94 := eav2.trans eav94.symm
    refine lv_aload_n hx hb dL_law_1255 rfl (lv_at hl 3 rfl) ?_
    refine lv_iload_n hx hb dL_law_1256 rfl (lv_at hl 0 rfl) ?_
    refine lv_iconst (v := 2) hx hb dL_law_1257 (by decide) ?_
    refine lv_iadd hx hb dL_law_1258 ?_
    refine lv_topi (fun jv95 ejv95 => ?_)
    obtain rfl : jv3 = jv95 := ejv3.trans ejv95.symm
    refine va_sld hx hb hX hbl hbA hS (sl_in (c := 2) ejv3 (by decide) (by decide) hi hL) dL_law_1259 ?_
    refine lv_topi (fun av96 eav96 => ?_)
    obtain rfl : av4 = av96 := eav4.trans eav96.symm
    refine lv_aload_n hx hb dL_law_1260 rfl (lv_at hl 3 rfl) ?_
    refine lv_iload_n hx hb dL_law_1261 rfl (lv_at hl 0 rfl) ?_
    refine lv_iconst (v := 3) hx hb dL_law_1262 (by decide) ?_
    refine lv_iadd hx hb dL_law_1263 ?_
    refine lv_topi (fun jv97 ejv97 => ?_)
    obtain rfl : jv5 = jv97 := ejv5.trans ejv97.symm
    refine va_sld hx hb hX hbl hbA hS (sl_in (c := 3) ejv5 (by decide) (by decide) hi hL) dL_law_1264 ?_
    refine lv_topi (fun av98 eav98 => ?_)
    obtain rfl : av6 = av98 := eav6.trans eav98.symm
    refine lv_i2l hx hb dL_law_1265 rfl ?_
    refine lv_bipush (v := 32) hx hb dL_law_1266 (by decide) ?_
    refine lv_lshl hx hb dL_law_1268 rfl ?_
    refine lv_topl (fun lv99 elv99 => ?_)
    refine lv_aload_n hx hb dL_law_1269 rfl (lv_at hl 3 rfl) ?_
    refine lv_iload_n hx hb dL_law_1270 rfl (lv_at hl 0 rfl) ?_
    refine lv_iconst (v := 4) hx hb dL_law_1271 (by decide) ?_
    refine lv_iadd hx hb dL_law_1272 ?_
    refine lv_topi (fun jv100 ejv100 => ?_)
    obtain rfl : jv8 = jv100 := ejv8.trans ejv100.symm
    refine va_sld hx hb hX hbl hbA hS (sl_in (c := 4) ejv8 (by decide) (by decide) hi hL) dL_law_1273 ?_
    refine lv_topi (fun av101 eav101 => ?_)
    obtain rfl : av9 = av101 := eav9.trans eav101.symm
    refine lv_i2l hx hb dL_law_1274 rfl ?_
    refine lv_ldc2 (own := RL) (v := 4294967295) hx hb hown (hw0 _ m_248) dL_law_1275 ?_
    refine lv_land hx hb dL_law_1278 ?_
    refine lv_topl (fun lv102 elv102 => ?_)
    refine lv_lor hx hb dL_law_1279 ?_
    refine lv_topl (fun lv103 elv103 => ?_)
    refine cx_swriteMhi (ob := q) (a1 := av2) (a2 := av4) (a3 := lv103) (rest := []) C1 hav2 hM hP hD hS hl.1 (Nat.le_of_ble_eq_true rfl) ⟨by omega, by omega⟩ dL_law_1280 (fun an104 w105  H locs hq2 hM hP hD hS => ?_)
    have hP := P_perm (List.perm_append_comm_assoc w105 w92 tl) hP
    have hD := D_perm (List.perm_append_comm_assoc w105 w92 tl) hD
    refine lv_pop hx hb dL_law_1283 rfl ?_
    refine lv_goto (tgt := 1350) hx hb dL_law_1284 (by decide) ?_
    exact K _ _ _ _ ⟨w92, w105, tl, ts, fl0, wi0, sz0, fl1, wi1, sz1, fl2, wi2, sz2, fl3, wi3, sz3, tp, rf, rp, f, ta, fm, fw, fh, tq, fk, fp, hB, hM, hI, ⟨r0, r1, r2, r3, r4, i0, i1, i2, ttp, ttf, ttq⟩, hP, hD, hS, hl, by omega, by omega⟩

set_option maxHeartbeats 4000000 in
set_option maxRecDepth 100000 in
theorem law_35 {p : Program} {e : Env} {s : State} {m : MethodId} {below : List Frame} {meth : Method} {c : Code} {l : Launch} {b L : Nat} {xs : Nat → Int32} {A : Nat → Prop} {G : va_G} {y : Nat → ClassId} {aK aV : Nat → Nat} {H : Heap} {locs : List Loc} {cells slots : Nat} {ls : Array Slot} {Q : State → Prop} (C0 : lawC p s m meth c b L xs A G y aK aV) {x q : Nat} {i : Int32} (hi : 0 ≤ i.toInt ∧ i.toInt + 6 ≤ (L : Int)) (I : LI s b A G y x q i H locs ls cells slots) (K : ∀ H1 locs1 cells1 slots1, LI s b A G y x q i H1 locs1 ls cells1 slots1 → W p l e room_1 s m #[Value.ref b] below meth c H1 locs1 cells1 slots1 Q (F0 m 1350 ls [])) : W p l e room_1 s m #[Value.ref b] below meth c H locs cells slots Q (F0 m 1287 ls []) := by
  have C1 := C0
  obtain ⟨hx, hb, hr, hml, hown, hw0, hX, hbl, hbA, hA, hAf, hlocks, hK, hE, hL⟩ := C0
  obtain ⟨w, wm, tl, ts, fl0, wi0, sz0, fl1, wi1, sz1, fl2, wi2, sz2, fl3, wi3, sz3, tp, rf, rp, f, ta, fm, fw, fh, tq, fk, fp, hB, hM, hI, hR, hP, hD, hS, hl, hc1, hc2⟩ := I
  obtain ⟨r0, r1, r2, r3, r4, i0, i1, i2, ttp, ttf, ttq⟩ := hR
  refine lv_aload_n hx hb dL_law_1287 rfl (lv_at hl 2 rfl) ?_
  refine lv_aload_n hx hb dL_law_1288 rfl (lv_at hl 3 rfl) ?_
  refine lv_iload_n hx hb dL_law_1289 rfl (lv_at hl 0 rfl) ?_
  refine lv_iconst (v := 1) hx hb dL_law_1290 (by decide) ?_
  refine lv_iadd hx hb dL_law_1291 ?_
  refine lv_topi (fun jv1 ejv1 => ?_)
  refine va_sld hx hb hX hbl hbA hS (sl_in (c := 1) ejv1 (by decide) (by decide) hi hL) dL_law_1292 ?_
  refine lv_topi (fun av2 eav2 => ?_)
  refine lv_aload_n hx hb dL_law_1293 rfl (lv_at hl 3 rfl) ?_
  refine lv_iload_n hx hb dL_law_1294 rfl (lv_at hl 0 rfl) ?_
  refine lv_iconst (v := 2) hx hb dL_law_1295 (by decide) ?_
  refine lv_iadd hx hb dL_law_1296 ?_
  refine lv_topi (fun jv3 ejv3 => ?_)
  refine va_sld hx hb hX hbl hbA hS (sl_in (c := 2) ejv3 (by decide) (by decide) hi hL) dL_law_1297 ?_
  refine lv_topi (fun av4 eav4 => ?_)
  refine lv_aload_n hx hb dL_law_1298 rfl (lv_at hl 3 rfl) ?_
  refine lv_iload_n hx hb dL_law_1299 rfl (lv_at hl 0 rfl) ?_
  refine lv_iconst (v := 3) hx hb dL_law_1300 (by decide) ?_
  refine lv_iadd hx hb dL_law_1301 ?_
  refine lv_topi (fun jv5 ejv5 => ?_)
  refine va_sld hx hb hX hbl hbA hS (sl_in (c := 3) ejv5 (by decide) (by decide) hi hL) dL_law_1302 ?_
  refine lv_topi (fun av6 eav6 => ?_)
  refine lv_aload_n hx hb dL_law_1303 rfl (lv_at hl 3 rfl) ?_
  refine lv_iload_n hx hb dL_law_1304 rfl (lv_at hl 0 rfl) ?_
  refine lv_iconst (v := 4) hx hb dL_law_1305 (by decide) ?_
  refine lv_iadd hx hb dL_law_1306 ?_
  refine lv_topi (fun jv7 ejv7 => ?_)
  refine va_sld hx hb hX hbl hbA hS (sl_in (c := 4) ejv7 (by decide) (by decide) hi hL) dL_law_1307 ?_
  refine lv_topi (fun av8 eav8 => ?_)
  refine lv_aload_n hx hb dL_law_1308 rfl (lv_at hl 3 rfl) ?_
  refine lv_iload_n hx hb dL_law_1309 rfl (lv_at hl 0 rfl) ?_
  refine lv_iconst (v := 5) hx hb dL_law_1310 (by decide) ?_
  refine lv_iadd hx hb dL_law_1311 ?_
  refine lv_topi (fun jv9 ejv9 => ?_)
  refine va_sld hx hb hX hbl hbA hS (sl_in (c := 5) ejv9 (by decide) (by decide) hi hL) dL_law_1312 ?_
  refine lv_topi (fun av10 eav10 => ?_)
  refine cx_sX9_paste (ob := x) (a1 := av2) (a2 := av4) (a3 := av6) (a4 := av8) (a5 := av10) (rest := []) C1  hB hP hD hS hl.1 (Nat.le_of_ble_eq_true rfl) ⟨by omega, by omega⟩ dL_law_1313 (fun an11 w12  H locs hq hB hP hD hS => ?_)
  have hP := P_perm (List.perm_append_comm_assoc w12 wm tl) hP
  have hD := D_perm (List.perm_append_comm_assoc w12 wm tl) hD
  refine lv_pop hx hb dL_law_1316 rfl ?_
  refine lv_aload_n hx hb dL_law_1317 rfl (lv_at hl 1 rfl) ?_
  refine lv_aload_n hx hb dL_law_1318 rfl (lv_at hl 3 rfl) ?_
  refine lv_iload_n hx hb dL_law_1319 rfl (lv_at hl 0 rfl) ?_
  refine lv_iconst (v := 1) hx hb dL_law_1320 (by decide) ?_
  refine lv_iadd hx hb dL_law_1321 ?_
  refine lv_topi (fun jv13 ejv13 => ?_)
  obtain rfl : jv1 = jv13 := ejv1.trans ejv13.symm
  refine va_sld hx hb hX hbl hbA hS (sl_in (c := 1) ejv1 (by decide) (by decide) hi hL) dL_law_1322 ?_
  refine lv_topi (fun av14 eav14 => ?_)
  obtain rfl : av2 = av14 := eav2.trans eav14.symm
  refine lv_aload_n hx hb dL_law_1323 rfl (lv_at hl 3 rfl) ?_
  refine lv_iload_n hx hb dL_law_1324 rfl (lv_at hl 0 rfl) ?_
  refine lv_iconst (v := 2) hx hb dL_law_1325 (by decide) ?_
  refine lv_iadd hx hb dL_law_1326 ?_
  refine lv_topi (fun jv15 ejv15 => ?_)
  obtain rfl : jv3 = jv15 := ejv3.trans ejv15.symm
  refine va_sld hx hb hX hbl hbA hS (sl_in (c := 2) ejv3 (by decide) (by decide) hi hL) dL_law_1327 ?_
  refine lv_topi (fun av16 eav16 => ?_)
  obtain rfl : av4 = av16 := eav4.trans eav16.symm
  refine lv_aload_n hx hb dL_law_1328 rfl (lv_at hl 3 rfl) ?_
  refine lv_iload_n hx hb dL_law_1329 rfl (lv_at hl 0 rfl) ?_
  refine lv_iconst (v := 3) hx hb dL_law_1330 (by decide) ?_
  refine lv_iadd hx hb dL_law_1331 ?_
  refine lv_topi (fun jv17 ejv17 => ?_)
  obtain rfl : jv5 = jv17 := ejv5.trans ejv17.symm
  refine va_sld hx hb hX hbl hbA hS (sl_in (c := 3) ejv5 (by decide) (by decide) hi hL) dL_law_1332 ?_
  refine lv_topi (fun av18 eav18 => ?_)
  obtain rfl : av6 = av18 := eav6.trans eav18.symm
  refine lv_aload_n hx hb dL_law_1333 rfl (lv_at hl 3 rfl) ?_
  refine lv_iload_n hx hb dL_law_1334 rfl (lv_at hl 0 rfl) ?_
  refine lv_iconst (v := 4) hx hb dL_law_1335 (by decide) ?_
  refine lv_iadd hx hb dL_law_1336 ?_
  refine lv_topi (fun jv19 ejv19 => ?_)
  obtain rfl : jv7 = jv19 := ejv7.trans ejv19.symm
  refine va_sld hx hb hX hbl hbA hS (sl_in (c := 4) ejv7 (by decide) (by decide) hi hL) dL_law_1337 ?_
  refine lv_topi (fun av20 eav20 => ?_)
  obtain rfl : av8 = av20 := eav8.trans eav20.symm
  refine lv_aload_n hx hb dL_law_1338 rfl (lv_at hl 3 rfl) ?_
  refine lv_iload_n hx hb dL_law_1339 rfl (lv_at hl 0 rfl) ?_
  refine lv_iconst (v := 5) hx hb dL_law_1340 (by decide) ?_
  refine lv_iadd hx hb dL_law_1341 ?_
  refine lv_topi (fun jv21 ejv21 => ?_)
  obtain rfl : jv9 = jv21 := ejv9.trans ejv21.symm
  refine va_sld hx hb hX hbl hbA hS (sl_in (c := 5) ejv9 (by decide) (by decide) hi hL) dL_law_1342 ?_
  refine lv_topi (fun av22 eav22 => ?_)
  obtain rfl : av10 = av22 := eav10.trans eav22.symm
  refine cx_sX10_paste (ob := q) (a1 := av2) (a2 := av4) (a3 := av6) (a4 := av8) (a5 := av10) (rest := []) C1  hM hP hD hS hl.1 (Nat.le_of_ble_eq_true rfl) ⟨by omega, by omega⟩ dL_law_1343 (fun an23 w24  H locs hq2 hM hP hD hS => ?_)
  have hP := P_perm (List.perm_append_comm_assoc w24 w12 tl) hP
  have hD := D_perm (List.perm_append_comm_assoc w24 w12 tl) hD
  refine lv_pop hx hb dL_law_1346 rfl ?_
  refine lv_goto (tgt := 1350) hx hb dL_law_1347 (by decide) ?_
  exact K _ _ _ _ ⟨w12, w24, tl, ts, fl0, wi0, sz0, fl1, wi1, sz1, fl2, wi2, sz2, fl3, wi3, sz3, tp, rf, rp, f, ta, fm, fw, fh, tq, fk, fp, hB, hM, hI, ⟨r0, r1, r2, r3, r4, i0, i1, i2, ttp, ttf, ttq⟩, hP, hD, hS, hl, by omega, by omega⟩
