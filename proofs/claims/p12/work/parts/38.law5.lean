set_option maxHeartbeats 4000000 in
set_option maxRecDepth 100000 in
theorem law_30 {p : Program} {e : Env} {s : State} {m : MethodId} {below : List Frame} {meth : Method} {c : Code} {l : Launch} {b L : Nat} {xs : Nat → Int32} {A : Nat → Prop} {G : va_G} {y : Nat → ClassId} {aK aV : Nat → Nat} {H : Heap} {locs : List Loc} {cells slots : Nat} {ls : Array Slot} {Q : State → Prop} (C0 : lawC p s m meth c b L xs A G y aK aV) {x q : Nat} {i : Int32} (hi : 0 ≤ i.toInt ∧ i.toInt + 6 ≤ (L : Int)) (I : LI s b A G y x q i H locs ls cells slots) (K : ∀ H1 locs1 cells1 slots1, LI s b A G y x q i H1 locs1 ls cells1 slots1 → W p l e room_1 s m #[Value.ref b] below meth c H1 locs1 cells1 slots1 Q (F0 m 1350 ls [])) : W p l e room_1 s m #[Value.ref b] below meth c H locs cells slots Q (F0 m 1102 ls []) := by
  have C1 := C0
  obtain ⟨hx, hb, hr, hml, hown, hw0, hX, hbl, hbA, hA, hAf, hlocks, hK, hE, hL⟩ := C0
  obtain ⟨w, wm, tl, ts, fl0, wi0, sz0, fl1, wi1, sz1, fl2, wi2, sz2, fl3, wi3, sz3, tp, rf, rp, nb0, nb1, nb2, nb3, g, xd, f, ta, fm, fw, fh, tq, fk, fp, ww, wv, nm, g0, g1, g2, xd0, xd1, xd2, hB, hM, hI, hR, hP, hD, hS, hl, hc1, hc2⟩ := I
  obtain ⟨r0, r1, r2, r3, r4, i0, i1, i2, ttp, ttf, ttq, ttg, tte0, tte1, tte2, ttn0, ttn1, ttn2, ttn3, ttx, ttx0, ttx1, ttx2⟩ := hR
  refine lv_aload_n hx hb dL_law_1102 rfl (lv_at hl 2 rfl) ?_
  refine lv_aload_n hx hb dL_law_1103 rfl (lv_at hl 3 rfl) ?_
  refine lv_iload_n hx hb dL_law_1104 rfl (lv_at hl 0 rfl) ?_
  refine lv_iconst (v := 1) hx hb dL_law_1105 (by decide) ?_
  refine lv_iadd hx hb dL_law_1106 ?_
  refine lv_topi (fun jv1 ejv1 => ?_)
  refine va_sld hx hb hX hbl hbA hS (sl_in (c := 1) ejv1 (by decide) (by decide) hi hL) dL_law_1107 ?_
  refine lv_topi (fun av2 eav2 => ?_)
  refine cx_sX9_count (ob := x) (a1 := av2) (rest := []) C1  hB hP hD hS hl.1 (Nat.le_of_ble_eq_true rfl) ⟨by omega, by omega⟩ dL_law_1108 (fun an3 w4  H locs hq hB hP hD hS => ?_)
  have hP := P_perm (List.perm_append_comm_assoc w4 wm tl) hP
  have hD := D_perm (List.perm_append_comm_assoc w4 wm tl) hD
  refine lv_pop hx hb dL_law_1111 rfl ?_
  refine lv_aload_n hx hb dL_law_1112 rfl (lv_at hl 1 rfl) ?_
  refine lv_aload_n hx hb dL_law_1113 rfl (lv_at hl 3 rfl) ?_
  refine lv_iload_n hx hb dL_law_1114 rfl (lv_at hl 0 rfl) ?_
  refine lv_iconst (v := 1) hx hb dL_law_1115 (by decide) ?_
  refine lv_iadd hx hb dL_law_1116 ?_
  refine lv_topi (fun jv5 ejv5 => ?_)
  obtain rfl : jv1 = jv5 := ejv1.trans ejv5.symm
  refine va_sld hx hb hX hbl hbA hS (sl_in (c := 1) ejv1 (by decide) (by decide) hi hL) dL_law_1117 ?_
  refine lv_topi (fun av6 eav6 => ?_)
  obtain rfl : av2 = av6 := eav2.trans eav6.symm
  have hM0 := hM
  refine cx_sX10_count (ob := q) (a1 := av2) (rest := []) C1  hM hP hD hS hl.1 (Nat.le_of_ble_eq_true rfl) ⟨by omega, by omega⟩ dL_law_1118 (fun an7 w8  H locs hq2 hM hP hD hS => ?_)
  have hP := P_perm (List.perm_append_comm_assoc w8 w4 tl) hP
  have hD := D_perm (List.perm_append_comm_assoc w8 w4 tl) hD
  refine lv_pop hx hb dL_law_1121 rfl ?_
  refine lv_goto (tgt := 1350) hx hb dL_law_1122 (by decide) ?_
  exact K _ _ _ _ ⟨w4, w8, tl, ts, fl0, wi0, sz0, fl1, wi1, sz1, fl2, wi2, sz2, fl3, wi3, sz3, tp, rf, rp, nb0, nb1, nb2, nb3, g, xd, f, ta, fm, fw, fh, tq, fk, fp, ww, wv, nm, g0, g1, g2, xd0, xd1, xd2, hB, hM, hI, ⟨r0, r1, r2, r3, r4, i0, i1, i2, ttp, ttf, ttq, ttg, tte0, tte1, tte2, ttn0, ttn1, ttn2, ttn3, ttx, ttx0, ttx1, ttx2⟩, hP, hD, hS, hl, by omega, by omega⟩

set_option maxHeartbeats 4000000 in
set_option maxRecDepth 100000 in
theorem law_31 {p : Program} {e : Env} {s : State} {m : MethodId} {below : List Frame} {meth : Method} {c : Code} {l : Launch} {b L : Nat} {xs : Nat → Int32} {A : Nat → Prop} {G : va_G} {y : Nat → ClassId} {aK aV : Nat → Nat} {H : Heap} {locs : List Loc} {cells slots : Nat} {ls : Array Slot} {Q : State → Prop} (C0 : lawC p s m meth c b L xs A G y aK aV) {x q : Nat} {i : Int32} (hi : 0 ≤ i.toInt ∧ i.toInt + 6 ≤ (L : Int)) (I : LI s b A G y x q i H locs ls cells slots) (K : ∀ H1 locs1 cells1 slots1, LI s b A G y x q i H1 locs1 ls cells1 slots1 → W p l e room_1 s m #[Value.ref b] below meth c H1 locs1 cells1 slots1 Q (F0 m 1350 ls [])) : W p l e room_1 s m #[Value.ref b] below meth c H locs cells slots Q (F0 m 1125 ls []) := by
  have C1 := C0
  obtain ⟨hx, hb, hr, hml, hown, hw0, hX, hbl, hbA, hA, hAf, hlocks, hK, hE, hL⟩ := C0
  obtain ⟨w, wm, tl, ts, fl0, wi0, sz0, fl1, wi1, sz1, fl2, wi2, sz2, fl3, wi3, sz3, tp, rf, rp, nb0, nb1, nb2, nb3, g, xd, f, ta, fm, fw, fh, tq, fk, fp, ww, wv, nm, g0, g1, g2, xd0, xd1, xd2, hB, hM, hI, hR, hP, hD, hS, hl, hc1, hc2⟩ := I
  obtain ⟨r0, r1, r2, r3, r4, i0, i1, i2, ttp, ttf, ttq, ttg, tte0, tte1, tte2, ttn0, ttn1, ttn2, ttn3, ttx, ttx0, ttx1, ttx2⟩ := hR
  refine lv_aload_n hx hb dL_law_1125 rfl (lv_at hl 2 rfl) ?_
  refine lv_aload_n hx hb dL_law_1126 rfl (lv_at hl 3 rfl) ?_
  refine lv_iload_n hx hb dL_law_1127 rfl (lv_at hl 0 rfl) ?_
  refine lv_iconst (v := 1) hx hb dL_law_1128 (by decide) ?_
  refine lv_iadd hx hb dL_law_1129 ?_
  refine lv_topi (fun jv1 ejv1 => ?_)
  refine va_sld hx hb hX hbl hbA hS (sl_in (c := 1) ejv1 (by decide) (by decide) hi hL) dL_law_1130 ?_
  refine lv_topi (fun av2 eav2 => ?_)
  rcases im_c5 av2 with h9 | h9 | h9 | h9 | h9
  · obtain rfl : 0 = av2 := h9.symm
    obtain ⟨t0, t1, t2, rfl, j0, j1, j2⟩ := hI
    rcases j0 with ⟨ze, zt⟩ | ⟨z, ze, zt⟩
    · skip
      have hB : BC y x ts fl0 wi0 sz0 fl1 wi1 sz1 fl2 wi2 sz2 fl3 wi3 sz3 tp rf rp nb0 nb1 nb2 nb3 g xd (va_up f 0 none) w := by rw [upE ze]; exact hB
      subst zt
      have hn9 : nn f = nn (va_up f 0 (some 0)) + 1 := by simp [nn, n1, va_up, ze] <;> omega
      have hc3 : 1 ≤ nn f := by omega
      refine cx_skeep0n (ob := x) (fim := f) (rest := []) C1 hB hP hD hS hl.1 (Nat.le_of_ble_eq_true rfl) ⟨by omega, by omega⟩ dL_law_1131 (fun an3 w4 f2 tk im2 H locs hq hB hT hP hD hS => ?_)
      obtain ⟨hq0, hf2, -⟩ := hq
      have hq : an3 = 0 ∧ True := ⟨hq0, trivial⟩
      rw [up2] at hf2
      have hP := P_perm ((List.Perm.append_left (w4 ++ tk) (List.Perm.append_left wm (p_0 [] t1 t2))).trans (pk_to (p_0 tk t1 t2)).symm) hP
      have hD := D_perm ((List.Perm.append_left (w4 ++ tk) (List.Perm.append_left wm (p_0 [] t1 t2))).trans (pk_to (p_0 tk t1 t2)).symm) hD
      have gf0 : f2 0 = some im2 := by rw [hf2]; exact va_up_self _ _ _
      have gf2 : f2 1 = f 1 := by rw [hf2]; exact va_up_ne _ _ (by decide)
      have gf3 : f2 2 = f 2 := by rw [hf2]; exact va_up_ne _ _ (by decide)
      have hI : IM y f2 g g1 g2 xd xd1 xd2 (tk ++ (t1 ++ t2)) := ⟨tk, t1, t2, rfl, Or.inr ⟨im2, gf0, hT⟩, (by rw [gf2]; exact j1), (by rw [gf3]; exact j2)⟩
      have hn8 : nn f = nn f2 + 1 := by simp only [nn, n1, gf0, ze, gf2, gf3]; omega
      have hP := P_perm (List.perm_append_comm_assoc w4 wm (tk ++ (t1 ++ t2))) hP
      have hD := D_perm (List.perm_append_comm_assoc w4 wm (tk ++ (t1 ++ t2))) hD
      refine lv_pop hx hb dL_law_1134 rfl ?_
      refine lv_aload_n hx hb dL_law_1135 rfl (lv_at hl 1 rfl) ?_
      refine lv_aload_n hx hb dL_law_1136 rfl (lv_at hl 3 rfl) ?_
      refine lv_iload_n hx hb dL_law_1137 rfl (lv_at hl 0 rfl) ?_
      refine lv_iconst (v := 1) hx hb dL_law_1138 (by decide) ?_
      refine lv_iadd hx hb dL_law_1139 ?_
      refine lv_topi (fun jv5 ejv5 => ?_)
      obtain rfl : jv1 = jv5 := ejv1.trans ejv5.symm
      refine va_sld hx hb hX hbl hbA hS (sl_in (c := 1) ejv1 (by decide) (by decide) hi hL) dL_law_1140 ?_
      refine lv_topi (fun av6 eav6 => ?_)
      obtain rfl : 0 = av6 := eav2.trans eav6.symm
      have hM0 := hM
      refine cx_fkeepM0 (ob := q)  (rest := []) C1  hM hP hD hS hl.1 (Nat.le_of_ble_eq_true rfl) ⟨by omega, by omega⟩ dL_law_1141 (fun an7 w8 fh_9 wv_10 H locs hq2 hM hP hD hS => ?_)
      have hP := P_perm (List.perm_append_comm_assoc w8 w4 (tk ++ (t1 ++ t2))) hP
      have hD := D_perm (List.perm_append_comm_assoc w8 w4 (tk ++ (t1 ++ t2))) hD
      refine lv_pop hx hb dL_law_1144 rfl ?_
      refine lv_goto (tgt := 1350) hx hb dL_law_1145 (by decide) ?_
      have hkw := BM_k hM0
      obtain ⟨-, y0, y1, y2, x9, -⟩ := hq2
      have ix0 : iR (f2 0) (fh_9 0).toInt := Or.inr ⟨by rw [gf0]; simp, by omega⟩
      have ix1 : iR (f2 1) (fh_9 1).toInt := by rw [y1, gf2]; exact i1
      have ix2 : iR (f2 2) (fh_9 2).toInt := by rw [y2, gf3]; exact i2
      exact K _ _ _ _ ⟨w4, w8, (tk ++ (t1 ++ t2)), ts, fl0, wi0, sz0, fl1, wi1, sz1, fl2, wi2, sz2, fl3, wi3, sz3, tp, rf, rp, nb0, nb1, nb2, nb3, g, xd, f2, ta, fm, fw, fh_9, tq, fk, fp, ww, wv_10, nm, g, g1, g2, xd, xd1, xd2, hB, hM, hI, ⟨r0, r1, r2, r3, r4, ix0, ix1, ix2, ttp, ttf, ttq, ttg, (Or.inr (kp_i ttg x9)), (by rw [gf2]; exact Or.imp id (fun h9 => kp_o h9 x9 (by decide)) tte1), (by rw [gf3]; exact Or.imp id (fun h9 => kp_o h9 x9 (by decide)) tte2), ttn0, ttn1, ttn2, ttn3, ttx, (Or.inr (mx_kp ttx hkw.1 x9)), (by rw [gf2]; exact Or.imp id (fun h9 => mx_o h9 (hkw.2.2.1) x9 (by decide)) ttx1), (by rw [gf3]; exact Or.imp id (fun h9 => mx_o h9 (hkw.2.2.2) x9 (by decide)) ttx2)⟩, hP, hD, hS, hl, by omega, by omega⟩
    · skip
      have hB : BC y x ts fl0 wi0 sz0 fl1 wi1 sz1 fl2 wi2 sz2 fl3 wi3 sz3 tp rf rp nb0 nb1 nb2 nb3 g xd (va_up f 0 (some z)) w := by rw [upE ze]; exact hB
      have hP := P_perm (pk_to (p_0 t0 t1 t2)) hP
      have hD := D_perm (pk_to (p_0 t0 t1 t2)) hD
      refine cx_skeep0s (ob := x) (fim := f) (im := z) (rest := []) C1 hB zt hP hD hS hl.1 (Nat.le_of_ble_eq_true rfl) ⟨by omega, by omega⟩ dL_law_1131 (fun an11 w12 tk H locs hq hB hT hP hD hS => ?_)
      rw [upE ze] at hB
      have hP := P_perm (pk_to (p_0 tk t1 t2)).symm hP
      have hD := D_perm (pk_to (p_0 tk t1 t2)).symm hD
      have hI : IM y f g g1 g2 xd xd1 xd2 (tk ++ (t1 ++ t2)) := ⟨tk, t1, t2, rfl, Or.inr ⟨z, ze, hT⟩, j1, j2⟩
      have hP := P_perm (List.perm_append_comm_assoc w12 wm (tk ++ (t1 ++ t2))) hP
      have hD := D_perm (List.perm_append_comm_assoc w12 wm (tk ++ (t1 ++ t2))) hD
      refine lv_pop hx hb dL_law_1134 rfl ?_
      refine lv_aload_n hx hb dL_law_1135 rfl (lv_at hl 1 rfl) ?_
      refine lv_aload_n hx hb dL_law_1136 rfl (lv_at hl 3 rfl) ?_
      refine lv_iload_n hx hb dL_law_1137 rfl (lv_at hl 0 rfl) ?_
      refine lv_iconst (v := 1) hx hb dL_law_1138 (by decide) ?_
      refine lv_iadd hx hb dL_law_1139 ?_
      refine lv_topi (fun jv13 ejv13 => ?_)
      obtain rfl : jv1 = jv13 := ejv1.trans ejv13.symm
      refine va_sld hx hb hX hbl hbA hS (sl_in (c := 1) ejv1 (by decide) (by decide) hi hL) dL_law_1140 ?_
      refine lv_topi (fun av14 eav14 => ?_)
      obtain rfl : 0 = av14 := eav2.trans eav14.symm
      have hM0 := hM
      refine cx_fkeepM0 (ob := q)  (rest := []) C1  hM hP hD hS hl.1 (Nat.le_of_ble_eq_true rfl) ⟨by omega, by omega⟩ dL_law_1141 (fun an15 w16 fh_17 wv_18 H locs hq2 hM hP hD hS => ?_)
      have hP := P_perm (List.perm_append_comm_assoc w16 w12 (tk ++ (t1 ++ t2))) hP
      have hD := D_perm (List.perm_append_comm_assoc w16 w12 (tk ++ (t1 ++ t2))) hD
      refine lv_pop hx hb dL_law_1144 rfl ?_
      refine lv_goto (tgt := 1350) hx hb dL_law_1145 (by decide) ?_
      have hkw := BM_k hM0
      obtain ⟨-, y0, y1, y2, x9, -⟩ := hq2
      have ix0 : iR (f 0) (fh_17 0).toInt := Or.inr ⟨by rw [ze]; simp, by omega⟩
      have ix1 : iR (f 1) (fh_17 1).toInt := by rw [y1]; exact i1
      have ix2 : iR (f 2) (fh_17 2).toInt := by rw [y2]; exact i2
      exact K _ _ _ _ ⟨w12, w16, (tk ++ (t1 ++ t2)), ts, fl0, wi0, sz0, fl1, wi1, sz1, fl2, wi2, sz2, fl3, wi3, sz3, tp, rf, rp, nb0, nb1, nb2, nb3, g, xd, f, ta, fm, fw, fh_17, tq, fk, fp, ww, wv_18, nm, g, g1, g2, xd, xd1, xd2, hB, hM, hI, ⟨r0, r1, r2, r3, r4, ix0, ix1, ix2, ttp, ttf, ttq, ttg, (Or.inr (kp_i ttg x9)), (by exact Or.imp id (fun h9 => kp_o h9 x9 (by decide)) tte1), (by exact Or.imp id (fun h9 => kp_o h9 x9 (by decide)) tte2), ttn0, ttn1, ttn2, ttn3, ttx, (Or.inr (mx_kp ttx hkw.1 x9)), (by exact Or.imp id (fun h9 => mx_o h9 (hkw.2.2.1) x9 (by decide)) ttx1), (by exact Or.imp id (fun h9 => mx_o h9 (hkw.2.2.2) x9 (by decide)) ttx2)⟩, hP, hD, hS, hl, by omega, by omega⟩
  · obtain rfl : 1 = av2 := h9.symm
    obtain ⟨t0, t1, t2, rfl, j0, j1, j2⟩ := hI
    rcases j1 with ⟨ze, zt⟩ | ⟨z, ze, zt⟩
    · skip
      have hB : BC y x ts fl0 wi0 sz0 fl1 wi1 sz1 fl2 wi2 sz2 fl3 wi3 sz3 tp rf rp nb0 nb1 nb2 nb3 g xd (va_up f 1 none) w := by rw [upE ze]; exact hB
      subst zt
      have hn9 : nn f = nn (va_up f 1 (some 0)) + 1 := by simp [nn, n1, va_up, ze] <;> omega
      have hc3 : 1 ≤ nn f := by omega
      refine cx_skeep1n (ob := x) (fim := f) (rest := []) C1 hB hP hD hS hl.1 (Nat.le_of_ble_eq_true rfl) ⟨by omega, by omega⟩ dL_law_1131 (fun an19 w20 f2 tk im2 H locs hq hB hT hP hD hS => ?_)
      obtain ⟨hq0, hf2, -⟩ := hq
      have hq : an19 = 0 ∧ True := ⟨hq0, trivial⟩
      rw [up2] at hf2
      have hP := P_perm ((List.Perm.append_left (w20 ++ tk) (List.Perm.append_left wm (p_1 t0 [] t2))).trans (pk_to (p_1 t0 tk t2)).symm) hP
      have hD := D_perm ((List.Perm.append_left (w20 ++ tk) (List.Perm.append_left wm (p_1 t0 [] t2))).trans (pk_to (p_1 t0 tk t2)).symm) hD
      have gf0 : f2 1 = some im2 := by rw [hf2]; exact va_up_self _ _ _
      have gf1 : f2 0 = f 0 := by rw [hf2]; exact va_up_ne _ _ (by decide)
      have gf3 : f2 2 = f 2 := by rw [hf2]; exact va_up_ne _ _ (by decide)
      have hI : IM y f2 g0 g g2 xd0 xd xd2 (t0 ++ (tk ++ t2)) := ⟨t0, tk, t2, rfl, (by rw [gf1]; exact j0), Or.inr ⟨im2, gf0, hT⟩, (by rw [gf3]; exact j2)⟩
      have hn8 : nn f = nn f2 + 1 := by simp only [nn, n1, gf0, ze, gf1, gf3]; omega
      have hP := P_perm (List.perm_append_comm_assoc w20 wm (t0 ++ (tk ++ t2))) hP
      have hD := D_perm (List.perm_append_comm_assoc w20 wm (t0 ++ (tk ++ t2))) hD
      refine lv_pop hx hb dL_law_1134 rfl ?_
      refine lv_aload_n hx hb dL_law_1135 rfl (lv_at hl 1 rfl) ?_
      refine lv_aload_n hx hb dL_law_1136 rfl (lv_at hl 3 rfl) ?_
      refine lv_iload_n hx hb dL_law_1137 rfl (lv_at hl 0 rfl) ?_
      refine lv_iconst (v := 1) hx hb dL_law_1138 (by decide) ?_
      refine lv_iadd hx hb dL_law_1139 ?_
      refine lv_topi (fun jv21 ejv21 => ?_)
      obtain rfl : jv1 = jv21 := ejv1.trans ejv21.symm
      refine va_sld hx hb hX hbl hbA hS (sl_in (c := 1) ejv1 (by decide) (by decide) hi hL) dL_law_1140 ?_
      refine lv_topi (fun av22 eav22 => ?_)
      obtain rfl : 1 = av22 := eav2.trans eav22.symm
      have hM0 := hM
      refine cx_fkeepM1 (ob := q)  (rest := []) C1  hM hP hD hS hl.1 (Nat.le_of_ble_eq_true rfl) ⟨by omega, by omega⟩ dL_law_1141 (fun an23 w24 fh_25 wv_26 H locs hq2 hM hP hD hS => ?_)
      have hP := P_perm (List.perm_append_comm_assoc w24 w20 (t0 ++ (tk ++ t2))) hP
      have hD := D_perm (List.perm_append_comm_assoc w24 w20 (t0 ++ (tk ++ t2))) hD
      refine lv_pop hx hb dL_law_1144 rfl ?_
      refine lv_goto (tgt := 1350) hx hb dL_law_1145 (by decide) ?_
      have hkw := BM_k hM0
      obtain ⟨-, y0, y1, y2, x9, -⟩ := hq2
      have ix0 : iR (f2 0) (fh_25 0).toInt := by rw [y0, gf1]; exact i0
      have ix1 : iR (f2 1) (fh_25 1).toInt := Or.inr ⟨by rw [gf0]; simp, by omega⟩
      have ix2 : iR (f2 2) (fh_25 2).toInt := by rw [y2, gf3]; exact i2
      exact K _ _ _ _ ⟨w20, w24, (t0 ++ (tk ++ t2)), ts, fl0, wi0, sz0, fl1, wi1, sz1, fl2, wi2, sz2, fl3, wi3, sz3, tp, rf, rp, nb0, nb1, nb2, nb3, g, xd, f2, ta, fm, fw, fh_25, tq, fk, fp, ww, wv_26, nm, g0, g, g2, xd0, xd, xd2, hB, hM, hI, ⟨r0, r1, r2, r3, r4, ix0, ix1, ix2, ttp, ttf, ttq, ttg, (by rw [gf1]; exact Or.imp id (fun h9 => kp_o h9 x9 (by decide)) tte0), (Or.inr (kp_i ttg x9)), (by rw [gf3]; exact Or.imp id (fun h9 => kp_o h9 x9 (by decide)) tte2), ttn0, ttn1, ttn2, ttn3, ttx, (by rw [gf1]; exact Or.imp id (fun h9 => mx_o h9 (hkw.2.1) x9 (by decide)) ttx0), (Or.inr (mx_kp ttx hkw.1 x9)), (by rw [gf3]; exact Or.imp id (fun h9 => mx_o h9 (hkw.2.2.2) x9 (by decide)) ttx2)⟩, hP, hD, hS, hl, by omega, by omega⟩
    · skip
      have hB : BC y x ts fl0 wi0 sz0 fl1 wi1 sz1 fl2 wi2 sz2 fl3 wi3 sz3 tp rf rp nb0 nb1 nb2 nb3 g xd (va_up f 1 (some z)) w := by rw [upE ze]; exact hB
      have hP := P_perm (pk_to (p_1 t0 t1 t2)) hP
      have hD := D_perm (pk_to (p_1 t0 t1 t2)) hD
      refine cx_skeep1s (ob := x) (fim := f) (im := z) (rest := []) C1 hB zt hP hD hS hl.1 (Nat.le_of_ble_eq_true rfl) ⟨by omega, by omega⟩ dL_law_1131 (fun an27 w28 tk H locs hq hB hT hP hD hS => ?_)
      rw [upE ze] at hB
      have hP := P_perm (pk_to (p_1 t0 tk t2)).symm hP
      have hD := D_perm (pk_to (p_1 t0 tk t2)).symm hD
      have hI : IM y f g0 g g2 xd0 xd xd2 (t0 ++ (tk ++ t2)) := ⟨t0, tk, t2, rfl, j0, Or.inr ⟨z, ze, hT⟩, j2⟩
      have hP := P_perm (List.perm_append_comm_assoc w28 wm (t0 ++ (tk ++ t2))) hP
      have hD := D_perm (List.perm_append_comm_assoc w28 wm (t0 ++ (tk ++ t2))) hD
      refine lv_pop hx hb dL_law_1134 rfl ?_
      refine lv_aload_n hx hb dL_law_1135 rfl (lv_at hl 1 rfl) ?_
      refine lv_aload_n hx hb dL_law_1136 rfl (lv_at hl 3 rfl) ?_
      refine lv_iload_n hx hb dL_law_1137 rfl (lv_at hl 0 rfl) ?_
      refine lv_iconst (v := 1) hx hb dL_law_1138 (by decide) ?_
      refine lv_iadd hx hb dL_law_1139 ?_
      refine lv_topi (fun jv29 ejv29 => ?_)
      obtain rfl : jv1 = jv29 := ejv1.trans ejv29.symm
      refine va_sld hx hb hX hbl hbA hS (sl_in (c := 1) ejv1 (by decide) (by decide) hi hL) dL_law_1140 ?_
      refine lv_topi (fun av30 eav30 => ?_)
      obtain rfl : 1 = av30 := eav2.trans eav30.symm
      have hM0 := hM
      refine cx_fkeepM1 (ob := q)  (rest := []) C1  hM hP hD hS hl.1 (Nat.le_of_ble_eq_true rfl) ⟨by omega, by omega⟩ dL_law_1141 (fun an31 w32 fh_33 wv_34 H locs hq2 hM hP hD hS => ?_)
      have hP := P_perm (List.perm_append_comm_assoc w32 w28 (t0 ++ (tk ++ t2))) hP
      have hD := D_perm (List.perm_append_comm_assoc w32 w28 (t0 ++ (tk ++ t2))) hD
      refine lv_pop hx hb dL_law_1144 rfl ?_
      refine lv_goto (tgt := 1350) hx hb dL_law_1145 (by decide) ?_
      have hkw := BM_k hM0
      obtain ⟨-, y0, y1, y2, x9, -⟩ := hq2
      have ix0 : iR (f 0) (fh_33 0).toInt := by rw [y0]; exact i0
      have ix1 : iR (f 1) (fh_33 1).toInt := Or.inr ⟨by rw [ze]; simp, by omega⟩
      have ix2 : iR (f 2) (fh_33 2).toInt := by rw [y2]; exact i2
      exact K _ _ _ _ ⟨w28, w32, (t0 ++ (tk ++ t2)), ts, fl0, wi0, sz0, fl1, wi1, sz1, fl2, wi2, sz2, fl3, wi3, sz3, tp, rf, rp, nb0, nb1, nb2, nb3, g, xd, f, ta, fm, fw, fh_33, tq, fk, fp, ww, wv_34, nm, g0, g, g2, xd0, xd, xd2, hB, hM, hI, ⟨r0, r1, r2, r3, r4, ix0, ix1, ix2, ttp, ttf, ttq, ttg, (by exact Or.imp id (fun h9 => kp_o h9 x9 (by decide)) tte0), (Or.inr (kp_i ttg x9)), (by exact Or.imp id (fun h9 => kp_o h9 x9 (by decide)) tte2), ttn0, ttn1, ttn2, ttn3, ttx, (by exact Or.imp id (fun h9 => mx_o h9 (hkw.2.1) x9 (by decide)) ttx0), (Or.inr (mx_kp ttx hkw.1 x9)), (by exact Or.imp id (fun h9 => mx_o h9 (hkw.2.2.2) x9 (by decide)) ttx2)⟩, hP, hD, hS, hl, by omega, by omega⟩
  · obtain rfl : 2 = av2 := h9.symm
    obtain ⟨t0, t1, t2, rfl, j0, j1, j2⟩ := hI
    rcases j2 with ⟨ze, zt⟩ | ⟨z, ze, zt⟩
    · skip
      have hB : BC y x ts fl0 wi0 sz0 fl1 wi1 sz1 fl2 wi2 sz2 fl3 wi3 sz3 tp rf rp nb0 nb1 nb2 nb3 g xd (va_up f 2 none) w := by rw [upE ze]; exact hB
      subst zt
      have hn9 : nn f = nn (va_up f 2 (some 0)) + 1 := by simp [nn, n1, va_up, ze] <;> omega
      have hc3 : 1 ≤ nn f := by omega
      refine cx_skeep2n (ob := x) (fim := f) (rest := []) C1 hB hP hD hS hl.1 (Nat.le_of_ble_eq_true rfl) ⟨by omega, by omega⟩ dL_law_1131 (fun an35 w36 f2 tk im2 H locs hq hB hT hP hD hS => ?_)
      obtain ⟨hq0, hf2, -⟩ := hq
      have hq : an35 = 0 ∧ True := ⟨hq0, trivial⟩
      rw [up2] at hf2
      have hP := P_perm ((List.Perm.append_left (w36 ++ tk) (List.Perm.append_left wm (p_2 t0 t1 []))).trans (pk_to (p_2 t0 t1 tk)).symm) hP
      have hD := D_perm ((List.Perm.append_left (w36 ++ tk) (List.Perm.append_left wm (p_2 t0 t1 []))).trans (pk_to (p_2 t0 t1 tk)).symm) hD
      have gf0 : f2 2 = some im2 := by rw [hf2]; exact va_up_self _ _ _
      have gf1 : f2 0 = f 0 := by rw [hf2]; exact va_up_ne _ _ (by decide)
      have gf2 : f2 1 = f 1 := by rw [hf2]; exact va_up_ne _ _ (by decide)
      have hI : IM y f2 g0 g1 g xd0 xd1 xd (t0 ++ (t1 ++ tk)) := ⟨t0, t1, tk, rfl, (by rw [gf1]; exact j0), (by rw [gf2]; exact j1), Or.inr ⟨im2, gf0, hT⟩⟩
      have hn8 : nn f = nn f2 + 1 := by simp only [nn, n1, gf0, ze, gf1, gf2]; omega
      have hP := P_perm (List.perm_append_comm_assoc w36 wm (t0 ++ (t1 ++ tk))) hP
      have hD := D_perm (List.perm_append_comm_assoc w36 wm (t0 ++ (t1 ++ tk))) hD
      refine lv_pop hx hb dL_law_1134 rfl ?_
      refine lv_aload_n hx hb dL_law_1135 rfl (lv_at hl 1 rfl) ?_
      refine lv_aload_n hx hb dL_law_1136 rfl (lv_at hl 3 rfl) ?_
      refine lv_iload_n hx hb dL_law_1137 rfl (lv_at hl 0 rfl) ?_
      refine lv_iconst (v := 1) hx hb dL_law_1138 (by decide) ?_
      refine lv_iadd hx hb dL_law_1139 ?_
      refine lv_topi (fun jv37 ejv37 => ?_)
      obtain rfl : jv1 = jv37 := ejv1.trans ejv37.symm
      refine va_sld hx hb hX hbl hbA hS (sl_in (c := 1) ejv1 (by decide) (by decide) hi hL) dL_law_1140 ?_
      refine lv_topi (fun av38 eav38 => ?_)
      obtain rfl : 2 = av38 := eav2.trans eav38.symm
      have hM0 := hM
      refine cx_fkeepM2 (ob := q)  (rest := []) C1  hM hP hD hS hl.1 (Nat.le_of_ble_eq_true rfl) ⟨by omega, by omega⟩ dL_law_1141 (fun an39 w40 fh_41 wv_42 H locs hq2 hM hP hD hS => ?_)
      have hP := P_perm (List.perm_append_comm_assoc w40 w36 (t0 ++ (t1 ++ tk))) hP
      have hD := D_perm (List.perm_append_comm_assoc w40 w36 (t0 ++ (t1 ++ tk))) hD
      refine lv_pop hx hb dL_law_1144 rfl ?_
      refine lv_goto (tgt := 1350) hx hb dL_law_1145 (by decide) ?_
      have hkw := BM_k hM0
      obtain ⟨-, y0, y1, y2, x9, -⟩ := hq2
      have ix0 : iR (f2 0) (fh_41 0).toInt := by rw [y0, gf1]; exact i0
      have ix1 : iR (f2 1) (fh_41 1).toInt := by rw [y1, gf2]; exact i1
      have ix2 : iR (f2 2) (fh_41 2).toInt := Or.inr ⟨by rw [gf0]; simp, by omega⟩
      exact K _ _ _ _ ⟨w36, w40, (t0 ++ (t1 ++ tk)), ts, fl0, wi0, sz0, fl1, wi1, sz1, fl2, wi2, sz2, fl3, wi3, sz3, tp, rf, rp, nb0, nb1, nb2, nb3, g, xd, f2, ta, fm, fw, fh_41, tq, fk, fp, ww, wv_42, nm, g0, g1, g, xd0, xd1, xd, hB, hM, hI, ⟨r0, r1, r2, r3, r4, ix0, ix1, ix2, ttp, ttf, ttq, ttg, (by rw [gf1]; exact Or.imp id (fun h9 => kp_o h9 x9 (by decide)) tte0), (by rw [gf2]; exact Or.imp id (fun h9 => kp_o h9 x9 (by decide)) tte1), (Or.inr (kp_i ttg x9)), ttn0, ttn1, ttn2, ttn3, ttx, (by rw [gf1]; exact Or.imp id (fun h9 => mx_o h9 (hkw.2.1) x9 (by decide)) ttx0), (by rw [gf2]; exact Or.imp id (fun h9 => mx_o h9 (hkw.2.2.1) x9 (by decide)) ttx1), (Or.inr (mx_kp ttx hkw.1 x9))⟩, hP, hD, hS, hl, by omega, by omega⟩
    · skip
      have hB : BC y x ts fl0 wi0 sz0 fl1 wi1 sz1 fl2 wi2 sz2 fl3 wi3 sz3 tp rf rp nb0 nb1 nb2 nb3 g xd (va_up f 2 (some z)) w := by rw [upE ze]; exact hB
      have hP := P_perm (pk_to (p_2 t0 t1 t2)) hP
      have hD := D_perm (pk_to (p_2 t0 t1 t2)) hD
      refine cx_skeep2s (ob := x) (fim := f) (im := z) (rest := []) C1 hB zt hP hD hS hl.1 (Nat.le_of_ble_eq_true rfl) ⟨by omega, by omega⟩ dL_law_1131 (fun an43 w44 tk H locs hq hB hT hP hD hS => ?_)
      rw [upE ze] at hB
      have hP := P_perm (pk_to (p_2 t0 t1 tk)).symm hP
      have hD := D_perm (pk_to (p_2 t0 t1 tk)).symm hD
      have hI : IM y f g0 g1 g xd0 xd1 xd (t0 ++ (t1 ++ tk)) := ⟨t0, t1, tk, rfl, j0, j1, Or.inr ⟨z, ze, hT⟩⟩
      have hP := P_perm (List.perm_append_comm_assoc w44 wm (t0 ++ (t1 ++ tk))) hP
      have hD := D_perm (List.perm_append_comm_assoc w44 wm (t0 ++ (t1 ++ tk))) hD
      refine lv_pop hx hb dL_law_1134 rfl ?_
      refine lv_aload_n hx hb dL_law_1135 rfl (lv_at hl 1 rfl) ?_
      refine lv_aload_n hx hb dL_law_1136 rfl (lv_at hl 3 rfl) ?_
      refine lv_iload_n hx hb dL_law_1137 rfl (lv_at hl 0 rfl) ?_
      refine lv_iconst (v := 1) hx hb dL_law_1138 (by decide) ?_
      refine lv_iadd hx hb dL_law_1139 ?_
      refine lv_topi (fun jv45 ejv45 => ?_)
      obtain rfl : jv1 = jv45 := ejv1.trans ejv45.symm
      refine va_sld hx hb hX hbl hbA hS (sl_in (c := 1) ejv1 (by decide) (by decide) hi hL) dL_law_1140 ?_
      refine lv_topi (fun av46 eav46 => ?_)
      obtain rfl : 2 = av46 := eav2.trans eav46.symm
      have hM0 := hM
      refine cx_fkeepM2 (ob := q)  (rest := []) C1  hM hP hD hS hl.1 (Nat.le_of_ble_eq_true rfl) ⟨by omega, by omega⟩ dL_law_1141 (fun an47 w48 fh_49 wv_50 H locs hq2 hM hP hD hS => ?_)
      have hP := P_perm (List.perm_append_comm_assoc w48 w44 (t0 ++ (t1 ++ tk))) hP
      have hD := D_perm (List.perm_append_comm_assoc w48 w44 (t0 ++ (t1 ++ tk))) hD
      refine lv_pop hx hb dL_law_1144 rfl ?_
      refine lv_goto (tgt := 1350) hx hb dL_law_1145 (by decide) ?_
      have hkw := BM_k hM0
      obtain ⟨-, y0, y1, y2, x9, -⟩ := hq2
      have ix0 : iR (f 0) (fh_49 0).toInt := by rw [y0]; exact i0
      have ix1 : iR (f 1) (fh_49 1).toInt := by rw [y1]; exact i1
      have ix2 : iR (f 2) (fh_49 2).toInt := Or.inr ⟨by rw [ze]; simp, by omega⟩
      exact K _ _ _ _ ⟨w44, w48, (t0 ++ (t1 ++ tk)), ts, fl0, wi0, sz0, fl1, wi1, sz1, fl2, wi2, sz2, fl3, wi3, sz3, tp, rf, rp, nb0, nb1, nb2, nb3, g, xd, f, ta, fm, fw, fh_49, tq, fk, fp, ww, wv_50, nm, g0, g1, g, xd0, xd1, xd, hB, hM, hI, ⟨r0, r1, r2, r3, r4, ix0, ix1, ix2, ttp, ttf, ttq, ttg, (by exact Or.imp id (fun h9 => kp_o h9 x9 (by decide)) tte0), (by exact Or.imp id (fun h9 => kp_o h9 x9 (by decide)) tte1), (Or.inr (kp_i ttg x9)), ttn0, ttn1, ttn2, ttn3, ttx, (by exact Or.imp id (fun h9 => mx_o h9 (hkw.2.1) x9 (by decide)) ttx0), (by exact Or.imp id (fun h9 => mx_o h9 (hkw.2.2.1) x9 (by decide)) ttx1), (Or.inr (mx_kp ttx hkw.1 x9))⟩, hP, hD, hS, hl, by omega, by omega⟩
  · have hav2 := h9
    refine cx_skeeplo (ob := x) (a1 := av2) (rest := []) C1 hav2 hB hP hD hS hl.1 (Nat.le_of_ble_eq_true rfl) ⟨by omega, by omega⟩ dL_law_1131 (fun an51 w52  H locs hq hB hP hD hS => ?_)
    have hP := P_perm (List.perm_append_comm_assoc w52 wm tl) hP
    have hD := D_perm (List.perm_append_comm_assoc w52 wm tl) hD
    refine lv_pop hx hb dL_law_1134 rfl ?_
    refine lv_aload_n hx hb dL_law_1135 rfl (lv_at hl 1 rfl) ?_
    refine lv_aload_n hx hb dL_law_1136 rfl (lv_at hl 3 rfl) ?_
    refine lv_iload_n hx hb dL_law_1137 rfl (lv_at hl 0 rfl) ?_
    refine lv_iconst (v := 1) hx hb dL_law_1138 (by decide) ?_
    refine lv_iadd hx hb dL_law_1139 ?_
    refine lv_topi (fun jv53 ejv53 => ?_)
    obtain rfl : jv1 = jv53 := ejv1.trans ejv53.symm
    refine va_sld hx hb hX hbl hbA hS (sl_in (c := 1) ejv1 (by decide) (by decide) hi hL) dL_law_1140 ?_
    refine lv_topi (fun av54 eav54 => ?_)
    obtain rfl : av2 = av54 := eav2.trans eav54.symm
    have hM0 := hM
    refine cx_skeepMlo (ob := q) (a1 := av2) (rest := []) C1 hav2 hM hP hD hS hl.1 (Nat.le_of_ble_eq_true rfl) ⟨by omega, by omega⟩ dL_law_1141 (fun an55 w56  H locs hq2 hM hP hD hS => ?_)
    have hP := P_perm (List.perm_append_comm_assoc w56 w52 tl) hP
    have hD := D_perm (List.perm_append_comm_assoc w56 w52 tl) hD
    refine lv_pop hx hb dL_law_1144 rfl ?_
    refine lv_goto (tgt := 1350) hx hb dL_law_1145 (by decide) ?_
    exact K _ _ _ _ ⟨w52, w56, tl, ts, fl0, wi0, sz0, fl1, wi1, sz1, fl2, wi2, sz2, fl3, wi3, sz3, tp, rf, rp, nb0, nb1, nb2, nb3, g, xd, f, ta, fm, fw, fh, tq, fk, fp, ww, wv, nm, g0, g1, g2, xd0, xd1, xd2, hB, hM, hI, ⟨r0, r1, r2, r3, r4, i0, i1, i2, ttp, ttf, ttq, ttg, tte0, tte1, tte2, ttn0, ttn1, ttn2, ttn3, ttx, ttx0, ttx1, ttx2⟩, hP, hD, hS, hl, by omega, by omega⟩
  · have hav2 := h9
    refine cx_skeephi (ob := x) (a1 := av2) (rest := []) C1 hav2 hB hP hD hS hl.1 (Nat.le_of_ble_eq_true rfl) ⟨by omega, by omega⟩ dL_law_1131 (fun an57 w58  H locs hq hB hP hD hS => ?_)
    have hP := P_perm (List.perm_append_comm_assoc w58 wm tl) hP
    have hD := D_perm (List.perm_append_comm_assoc w58 wm tl) hD
    refine lv_pop hx hb dL_law_1134 rfl ?_
    refine lv_aload_n hx hb dL_law_1135 rfl (lv_at hl 1 rfl) ?_
    refine lv_aload_n hx hb dL_law_1136 rfl (lv_at hl 3 rfl) ?_
    refine lv_iload_n hx hb dL_law_1137 rfl (lv_at hl 0 rfl) ?_
    refine lv_iconst (v := 1) hx hb dL_law_1138 (by decide) ?_
    refine lv_iadd hx hb dL_law_1139 ?_
    refine lv_topi (fun jv59 ejv59 => ?_)
    obtain rfl : jv1 = jv59 := ejv1.trans ejv59.symm
    refine va_sld hx hb hX hbl hbA hS (sl_in (c := 1) ejv1 (by decide) (by decide) hi hL) dL_law_1140 ?_
    refine lv_topi (fun av60 eav60 => ?_)
    obtain rfl : av2 = av60 := eav2.trans eav60.symm
    have hM0 := hM
    refine cx_skeepMhi (ob := q) (a1 := av2) (rest := []) C1 hav2 hM hP hD hS hl.1 (Nat.le_of_ble_eq_true rfl) ⟨by omega, by omega⟩ dL_law_1141 (fun an61 w62  H locs hq2 hM hP hD hS => ?_)
    have hP := P_perm (List.perm_append_comm_assoc w62 w58 tl) hP
    have hD := D_perm (List.perm_append_comm_assoc w62 w58 tl) hD
    refine lv_pop hx hb dL_law_1144 rfl ?_
    refine lv_goto (tgt := 1350) hx hb dL_law_1145 (by decide) ?_
    exact K _ _ _ _ ⟨w58, w62, tl, ts, fl0, wi0, sz0, fl1, wi1, sz1, fl2, wi2, sz2, fl3, wi3, sz3, tp, rf, rp, nb0, nb1, nb2, nb3, g, xd, f, ta, fm, fw, fh, tq, fk, fp, ww, wv, nm, g0, g1, g2, xd0, xd1, xd2, hB, hM, hI, ⟨r0, r1, r2, r3, r4, i0, i1, i2, ttp, ttf, ttq, ttg, tte0, tte1, tte2, ttn0, ttn1, ttn2, ttn3, ttx, ttx0, ttx1, ttx2⟩, hP, hD, hS, hl, by omega, by omega⟩

set_option maxHeartbeats 4000000 in
set_option maxRecDepth 100000 in
theorem law_32 {p : Program} {e : Env} {s : State} {m : MethodId} {below : List Frame} {meth : Method} {c : Code} {l : Launch} {b L : Nat} {xs : Nat → Int32} {A : Nat → Prop} {G : va_G} {y : Nat → ClassId} {aK aV : Nat → Nat} {H : Heap} {locs : List Loc} {cells slots : Nat} {ls : Array Slot} {Q : State → Prop} (C0 : lawC p s m meth c b L xs A G y aK aV) {x q : Nat} {i : Int32} (hi : 0 ≤ i.toInt ∧ i.toInt + 6 ≤ (L : Int)) (I : LI s b A G y x q i H locs ls cells slots) (K : ∀ H1 locs1 cells1 slots1, LI s b A G y x q i H1 locs1 ls cells1 slots1 → W p l e room_1 s m #[Value.ref b] below meth c H1 locs1 cells1 slots1 Q (F0 m 1350 ls [])) : W p l e room_1 s m #[Value.ref b] below meth c H locs cells slots Q (F0 m 1148 ls []) := by
  have C1 := C0
  obtain ⟨hx, hb, hr, hml, hown, hw0, hX, hbl, hbA, hA, hAf, hlocks, hK, hE, hL⟩ := C0
  obtain ⟨w, wm, tl, ts, fl0, wi0, sz0, fl1, wi1, sz1, fl2, wi2, sz2, fl3, wi3, sz3, tp, rf, rp, nb0, nb1, nb2, nb3, g, xd, f, ta, fm, fw, fh, tq, fk, fp, ww, wv, nm, g0, g1, g2, xd0, xd1, xd2, hB, hM, hI, hR, hP, hD, hS, hl, hc1, hc2⟩ := I
  obtain ⟨r0, r1, r2, r3, r4, i0, i1, i2, ttp, ttf, ttq, ttg, tte0, tte1, tte2, ttn0, ttn1, ttn2, ttn3, ttx, ttx0, ttx1, ttx2⟩ := hR
  refine lv_aload_n hx hb dL_law_1148 rfl (lv_at hl 2 rfl) ?_
  refine lv_aload_n hx hb dL_law_1149 rfl (lv_at hl 3 rfl) ?_
  refine lv_iload_n hx hb dL_law_1150 rfl (lv_at hl 0 rfl) ?_
  refine lv_iconst (v := 1) hx hb dL_law_1151 (by decide) ?_
  refine lv_iadd hx hb dL_law_1152 ?_
  refine lv_topi (fun jv1 ejv1 => ?_)
  refine va_sld hx hb hX hbl hbA hS (sl_in (c := 1) ejv1 (by decide) (by decide) hi hL) dL_law_1153 ?_
  refine lv_topi (fun av2 eav2 => ?_)
  rcases im_c5 av2 with h9 | h9 | h9 | h9 | h9
  · obtain rfl : 0 = av2 := h9.symm
    obtain ⟨t0, t1, t2, rfl, j0, j1, j2⟩ := hI
    rcases j0 with ⟨ze, zt⟩ | ⟨z, ze, zt⟩
    · skip
      have hB : BC y x ts fl0 wi0 sz0 fl1 wi1 sz1 fl2 wi2 sz2 fl3 wi3 sz3 tp rf rp nb0 nb1 nb2 nb3 g xd (va_up f 0 none) w := by rw [upE ze]; exact hB
      refine cx_sback0n (ob := x) (fim := f) (rest := []) C1 hB hP hD hS hl.1 (Nat.le_of_ble_eq_true rfl) ⟨by omega, by omega⟩ dL_law_1154 (fun an3 w4 H locs hq hB hP hD hS => ?_)
      rw [upE ze] at hB
      have hI : IM y f g0 g1 g2 xd0 xd1 xd2 (t0 ++ (t1 ++ t2)) := ⟨t0, t1, t2, rfl, Or.inl ⟨ze, zt⟩, j1, j2⟩
      have hP := P_perm (List.perm_append_comm_assoc w4 wm (t0 ++ (t1 ++ t2))) hP
      have hD := D_perm (List.perm_append_comm_assoc w4 wm (t0 ++ (t1 ++ t2))) hD
      refine lv_pop hx hb dL_law_1157 rfl ?_
      refine lv_aload_n hx hb dL_law_1158 rfl (lv_at hl 1 rfl) ?_
      refine lv_aload_n hx hb dL_law_1159 rfl (lv_at hl 3 rfl) ?_
      refine lv_iload_n hx hb dL_law_1160 rfl (lv_at hl 0 rfl) ?_
      refine lv_iconst (v := 1) hx hb dL_law_1161 (by decide) ?_
      refine lv_iadd hx hb dL_law_1162 ?_
      refine lv_topi (fun jv5 ejv5 => ?_)
      obtain rfl : jv1 = jv5 := ejv1.trans ejv5.symm
      refine va_sld hx hb hX hbl hbA hS (sl_in (c := 1) ejv1 (by decide) (by decide) hi hL) dL_law_1163 ?_
      refine lv_topi (fun av6 eav6 => ?_)
      obtain rfl : 0 = av6 := eav2.trans eav6.symm
      have hM0 := hM
      refine cx_fbackM0 (ob := q)  (rest := []) C1  hM hP hD hS hl.1 (Nat.le_of_ble_eq_true rfl) ⟨by omega, by omega⟩ dL_law_1164 (fun an7 w8 ww_9 H locs hq2 hM hP hD hS => ?_)
      have hP := P_perm (List.perm_append_comm_assoc w8 w4 (t0 ++ (t1 ++ t2))) hP
      have hD := D_perm (List.perm_append_comm_assoc w8 w4 (t0 ++ (t1 ++ t2))) hD
      refine lv_pop hx hb dL_law_1167 rfl ?_
      refine lv_goto (tgt := 1350) hx hb dL_law_1168 (by decide) ?_
      have hww : (ww 0).toInt ≤ 16 := BM_h hM0
      have ttg2 : tgd g ww_9 := by
        rcases hq2 with hq2 | hq2
        · skip
          rw [hq2.2.1]; exact ttg
        · skip
          exact False.elim (Or.elim i0 (fun a9 => hq2.2.1 a9.2) (fun a9 => a9.1 ze))
      have hkw := BM_k hM0
      have ttx9 : mxt xd ww_9 := by
        rcases hq2 with hq2 | hq2
        · skip
          rw [(hq2.2.1)]; exact ttx
        · skip
          exact False.elim (Or.elim i0 (fun a9 => hq2.2.1 a9.2) (fun a9 => a9.1 ze))
      exact K _ _ _ _ ⟨w4, w8, (t0 ++ (t1 ++ t2)), ts, fl0, wi0, sz0, fl1, wi1, sz1, fl2, wi2, sz2, fl3, wi3, sz3, tp, rf, rp, nb0, nb1, nb2, nb3, g, xd, f, ta, fm, fw, fh, tq, fk, fp, ww_9, wv, nm, g0, g1, g2, xd0, xd1, xd2, hB, hM, hI, ⟨r0, r1, r2, r3, r4, i0, i1, i2, ttp, ttf, ttq, ttg2, tte0, tte1, tte2, ttn0, ttn1, ttn2, ttn3, ttx9, ttx0, ttx1, ttx2⟩, hP, hD, hS, hl, by omega, by omega⟩
    · skip
      have hB : BC y x ts fl0 wi0 sz0 fl1 wi1 sz1 fl2 wi2 sz2 fl3 wi3 sz3 tp rf rp nb0 nb1 nb2 nb3 g xd (va_up f 0 (some z)) w := by rw [upE ze]; exact hB
      have hP := P_perm (pk_to (p_0 t0 t1 t2)) hP
      have hD := D_perm (pk_to (p_0 t0 t1 t2)) hD
      refine cx_sback0s (ob := x) (fim := f) (im := z) (rest := []) C1 hB zt hP hD hS hl.1 (Nat.le_of_ble_eq_true rfl) ⟨by omega, by omega⟩ dL_law_1154 (fun an10 w11 tk H locs hq hB hT hP hD hS => ?_)
      rw [upE ze] at hB
      have hP := P_perm (pk_to (p_0 tk t1 t2)).symm hP
      have hD := D_perm (pk_to (p_0 tk t1 t2)).symm hD
      have hI : IM y f g0 g1 g2 xd0 xd1 xd2 (tk ++ (t1 ++ t2)) := ⟨tk, t1, t2, rfl, Or.inr ⟨z, ze, hT⟩, j1, j2⟩
      have hP := P_perm (List.perm_append_comm_assoc w11 wm (tk ++ (t1 ++ t2))) hP
      have hD := D_perm (List.perm_append_comm_assoc w11 wm (tk ++ (t1 ++ t2))) hD
      refine lv_pop hx hb dL_law_1157 rfl ?_
      refine lv_aload_n hx hb dL_law_1158 rfl (lv_at hl 1 rfl) ?_
      refine lv_aload_n hx hb dL_law_1159 rfl (lv_at hl 3 rfl) ?_
      refine lv_iload_n hx hb dL_law_1160 rfl (lv_at hl 0 rfl) ?_
      refine lv_iconst (v := 1) hx hb dL_law_1161 (by decide) ?_
      refine lv_iadd hx hb dL_law_1162 ?_
      refine lv_topi (fun jv12 ejv12 => ?_)
      obtain rfl : jv1 = jv12 := ejv1.trans ejv12.symm
      refine va_sld hx hb hX hbl hbA hS (sl_in (c := 1) ejv1 (by decide) (by decide) hi hL) dL_law_1163 ?_
      refine lv_topi (fun av13 eav13 => ?_)
      obtain rfl : 0 = av13 := eav2.trans eav13.symm
      have hM0 := hM
      refine cx_fbackM0 (ob := q)  (rest := []) C1  hM hP hD hS hl.1 (Nat.le_of_ble_eq_true rfl) ⟨by omega, by omega⟩ dL_law_1164 (fun an14 w15 ww_16 H locs hq2 hM hP hD hS => ?_)
      have hP := P_perm (List.perm_append_comm_assoc w15 w11 (tk ++ (t1 ++ t2))) hP
      have hD := D_perm (List.perm_append_comm_assoc w15 w11 (tk ++ (t1 ++ t2))) hD
      refine lv_pop hx hb dL_law_1167 rfl ?_
      refine lv_goto (tgt := 1350) hx hb dL_law_1168 (by decide) ?_
      have hww : (ww 0).toInt ≤ 16 := BM_h hM0
      have ttg2 : tgd g0 ww_16 := by
        rcases hq2 with hq2 | hq2
        · skip
          exact False.elim (Or.elim i0 (fun a9 => absurd (ze.symm.trans a9.1) (by simp)) (fun a9 => a9.2 hq2.2.2.1))
        · skip
          exact bk_i (Or.resolve_left tte0 (by rw [ze]; simp)) hq2.2.2.1
      have hkw := BM_k hM0
      have ttx9 : mxt xd0 ww_16 := by
        rcases hq2 with hq2 | hq2
        · skip
          exact False.elim (Or.elim i0 (fun a9 => absurd (ze.symm.trans a9.1) (by simp)) (fun a9 => a9.2 hq2.2.2.1))
        · skip
          exact mx_bk (Or.resolve_left ttx0 (by rw [ze]; simp)) (hkw.2.1) hq2.2.2.1
      exact K _ _ _ _ ⟨w11, w15, (tk ++ (t1 ++ t2)), ts, fl0, wi0, sz0, fl1, wi1, sz1, fl2, wi2, sz2, fl3, wi3, sz3, tp, rf, rp, nb0, nb1, nb2, nb3, g0, xd0, f, ta, fm, fw, fh, tq, fk, fp, ww_16, wv, nm, g0, g1, g2, xd0, xd1, xd2, hB, hM, hI, ⟨r0, r1, r2, r3, r4, i0, i1, i2, ttp, ttf, ttq, ttg2, tte0, tte1, tte2, ttn0, ttn1, ttn2, ttn3, ttx9, ttx0, ttx1, ttx2⟩, hP, hD, hS, hl, by omega, by omega⟩
  · obtain rfl : 1 = av2 := h9.symm
    obtain ⟨t0, t1, t2, rfl, j0, j1, j2⟩ := hI
    rcases j1 with ⟨ze, zt⟩ | ⟨z, ze, zt⟩
    · skip
      have hB : BC y x ts fl0 wi0 sz0 fl1 wi1 sz1 fl2 wi2 sz2 fl3 wi3 sz3 tp rf rp nb0 nb1 nb2 nb3 g xd (va_up f 1 none) w := by rw [upE ze]; exact hB
      refine cx_sback1n (ob := x) (fim := f) (rest := []) C1 hB hP hD hS hl.1 (Nat.le_of_ble_eq_true rfl) ⟨by omega, by omega⟩ dL_law_1154 (fun an17 w18 H locs hq hB hP hD hS => ?_)
      rw [upE ze] at hB
      have hI : IM y f g0 g1 g2 xd0 xd1 xd2 (t0 ++ (t1 ++ t2)) := ⟨t0, t1, t2, rfl, j0, Or.inl ⟨ze, zt⟩, j2⟩
      have hP := P_perm (List.perm_append_comm_assoc w18 wm (t0 ++ (t1 ++ t2))) hP
      have hD := D_perm (List.perm_append_comm_assoc w18 wm (t0 ++ (t1 ++ t2))) hD
      refine lv_pop hx hb dL_law_1157 rfl ?_
      refine lv_aload_n hx hb dL_law_1158 rfl (lv_at hl 1 rfl) ?_
      refine lv_aload_n hx hb dL_law_1159 rfl (lv_at hl 3 rfl) ?_
      refine lv_iload_n hx hb dL_law_1160 rfl (lv_at hl 0 rfl) ?_
      refine lv_iconst (v := 1) hx hb dL_law_1161 (by decide) ?_
      refine lv_iadd hx hb dL_law_1162 ?_
      refine lv_topi (fun jv19 ejv19 => ?_)
      obtain rfl : jv1 = jv19 := ejv1.trans ejv19.symm
      refine va_sld hx hb hX hbl hbA hS (sl_in (c := 1) ejv1 (by decide) (by decide) hi hL) dL_law_1163 ?_
      refine lv_topi (fun av20 eav20 => ?_)
      obtain rfl : 1 = av20 := eav2.trans eav20.symm
      have hM0 := hM
      refine cx_fbackM1 (ob := q)  (rest := []) C1  hM hP hD hS hl.1 (Nat.le_of_ble_eq_true rfl) ⟨by omega, by omega⟩ dL_law_1164 (fun an21 w22 ww_23 H locs hq2 hM hP hD hS => ?_)
      have hP := P_perm (List.perm_append_comm_assoc w22 w18 (t0 ++ (t1 ++ t2))) hP
      have hD := D_perm (List.perm_append_comm_assoc w22 w18 (t0 ++ (t1 ++ t2))) hD
      refine lv_pop hx hb dL_law_1167 rfl ?_
      refine lv_goto (tgt := 1350) hx hb dL_law_1168 (by decide) ?_
      have hww : (ww 0).toInt ≤ 16 := BM_h hM0
      have ttg2 : tgd g ww_23 := by
        rcases hq2 with hq2 | hq2
        · skip
          rw [hq2.2.1]; exact ttg
        · skip
          exact False.elim (Or.elim i1 (fun a9 => hq2.2.1 a9.2) (fun a9 => a9.1 ze))
      have hkw := BM_k hM0
      have ttx9 : mxt xd ww_23 := by
        rcases hq2 with hq2 | hq2
        · skip
          rw [(hq2.2.1)]; exact ttx
        · skip
          exact False.elim (Or.elim i1 (fun a9 => hq2.2.1 a9.2) (fun a9 => a9.1 ze))
      exact K _ _ _ _ ⟨w18, w22, (t0 ++ (t1 ++ t2)), ts, fl0, wi0, sz0, fl1, wi1, sz1, fl2, wi2, sz2, fl3, wi3, sz3, tp, rf, rp, nb0, nb1, nb2, nb3, g, xd, f, ta, fm, fw, fh, tq, fk, fp, ww_23, wv, nm, g0, g1, g2, xd0, xd1, xd2, hB, hM, hI, ⟨r0, r1, r2, r3, r4, i0, i1, i2, ttp, ttf, ttq, ttg2, tte0, tte1, tte2, ttn0, ttn1, ttn2, ttn3, ttx9, ttx0, ttx1, ttx2⟩, hP, hD, hS, hl, by omega, by omega⟩
    · skip
      have hB : BC y x ts fl0 wi0 sz0 fl1 wi1 sz1 fl2 wi2 sz2 fl3 wi3 sz3 tp rf rp nb0 nb1 nb2 nb3 g xd (va_up f 1 (some z)) w := by rw [upE ze]; exact hB
      have hP := P_perm (pk_to (p_1 t0 t1 t2)) hP
      have hD := D_perm (pk_to (p_1 t0 t1 t2)) hD
      refine cx_sback1s (ob := x) (fim := f) (im := z) (rest := []) C1 hB zt hP hD hS hl.1 (Nat.le_of_ble_eq_true rfl) ⟨by omega, by omega⟩ dL_law_1154 (fun an24 w25 tk H locs hq hB hT hP hD hS => ?_)
      rw [upE ze] at hB
      have hP := P_perm (pk_to (p_1 t0 tk t2)).symm hP
      have hD := D_perm (pk_to (p_1 t0 tk t2)).symm hD
      have hI : IM y f g0 g1 g2 xd0 xd1 xd2 (t0 ++ (tk ++ t2)) := ⟨t0, tk, t2, rfl, j0, Or.inr ⟨z, ze, hT⟩, j2⟩
      have hP := P_perm (List.perm_append_comm_assoc w25 wm (t0 ++ (tk ++ t2))) hP
      have hD := D_perm (List.perm_append_comm_assoc w25 wm (t0 ++ (tk ++ t2))) hD
      refine lv_pop hx hb dL_law_1157 rfl ?_
      refine lv_aload_n hx hb dL_law_1158 rfl (lv_at hl 1 rfl) ?_
      refine lv_aload_n hx hb dL_law_1159 rfl (lv_at hl 3 rfl) ?_
      refine lv_iload_n hx hb dL_law_1160 rfl (lv_at hl 0 rfl) ?_
      refine lv_iconst (v := 1) hx hb dL_law_1161 (by decide) ?_
      refine lv_iadd hx hb dL_law_1162 ?_
      refine lv_topi (fun jv26 ejv26 => ?_)
      obtain rfl : jv1 = jv26 := ejv1.trans ejv26.symm
      refine va_sld hx hb hX hbl hbA hS (sl_in (c := 1) ejv1 (by decide) (by decide) hi hL) dL_law_1163 ?_
      refine lv_topi (fun av27 eav27 => ?_)
      obtain rfl : 1 = av27 := eav2.trans eav27.symm
      have hM0 := hM
      refine cx_fbackM1 (ob := q)  (rest := []) C1  hM hP hD hS hl.1 (Nat.le_of_ble_eq_true rfl) ⟨by omega, by omega⟩ dL_law_1164 (fun an28 w29 ww_30 H locs hq2 hM hP hD hS => ?_)
      have hP := P_perm (List.perm_append_comm_assoc w29 w25 (t0 ++ (tk ++ t2))) hP
      have hD := D_perm (List.perm_append_comm_assoc w29 w25 (t0 ++ (tk ++ t2))) hD
      refine lv_pop hx hb dL_law_1167 rfl ?_
      refine lv_goto (tgt := 1350) hx hb dL_law_1168 (by decide) ?_
      have hww : (ww 0).toInt ≤ 16 := BM_h hM0
      have ttg2 : tgd g1 ww_30 := by
        rcases hq2 with hq2 | hq2
        · skip
          exact False.elim (Or.elim i1 (fun a9 => absurd (ze.symm.trans a9.1) (by simp)) (fun a9 => a9.2 hq2.2.2.1))
        · skip
          exact bk_i (Or.resolve_left tte1 (by rw [ze]; simp)) hq2.2.2.1
      have hkw := BM_k hM0
      have ttx9 : mxt xd1 ww_30 := by
        rcases hq2 with hq2 | hq2
        · skip
          exact False.elim (Or.elim i1 (fun a9 => absurd (ze.symm.trans a9.1) (by simp)) (fun a9 => a9.2 hq2.2.2.1))
        · skip
          exact mx_bk (Or.resolve_left ttx1 (by rw [ze]; simp)) (hkw.2.2.1) hq2.2.2.1
      exact K _ _ _ _ ⟨w25, w29, (t0 ++ (tk ++ t2)), ts, fl0, wi0, sz0, fl1, wi1, sz1, fl2, wi2, sz2, fl3, wi3, sz3, tp, rf, rp, nb0, nb1, nb2, nb3, g1, xd1, f, ta, fm, fw, fh, tq, fk, fp, ww_30, wv, nm, g0, g1, g2, xd0, xd1, xd2, hB, hM, hI, ⟨r0, r1, r2, r3, r4, i0, i1, i2, ttp, ttf, ttq, ttg2, tte0, tte1, tte2, ttn0, ttn1, ttn2, ttn3, ttx9, ttx0, ttx1, ttx2⟩, hP, hD, hS, hl, by omega, by omega⟩
  · obtain rfl : 2 = av2 := h9.symm
    obtain ⟨t0, t1, t2, rfl, j0, j1, j2⟩ := hI
    rcases j2 with ⟨ze, zt⟩ | ⟨z, ze, zt⟩
    · skip
      have hB : BC y x ts fl0 wi0 sz0 fl1 wi1 sz1 fl2 wi2 sz2 fl3 wi3 sz3 tp rf rp nb0 nb1 nb2 nb3 g xd (va_up f 2 none) w := by rw [upE ze]; exact hB
      refine cx_sback2n (ob := x) (fim := f) (rest := []) C1 hB hP hD hS hl.1 (Nat.le_of_ble_eq_true rfl) ⟨by omega, by omega⟩ dL_law_1154 (fun an31 w32 H locs hq hB hP hD hS => ?_)
      rw [upE ze] at hB
      have hI : IM y f g0 g1 g2 xd0 xd1 xd2 (t0 ++ (t1 ++ t2)) := ⟨t0, t1, t2, rfl, j0, j1, Or.inl ⟨ze, zt⟩⟩
      have hP := P_perm (List.perm_append_comm_assoc w32 wm (t0 ++ (t1 ++ t2))) hP
      have hD := D_perm (List.perm_append_comm_assoc w32 wm (t0 ++ (t1 ++ t2))) hD
      refine lv_pop hx hb dL_law_1157 rfl ?_
      refine lv_aload_n hx hb dL_law_1158 rfl (lv_at hl 1 rfl) ?_
      refine lv_aload_n hx hb dL_law_1159 rfl (lv_at hl 3 rfl) ?_
      refine lv_iload_n hx hb dL_law_1160 rfl (lv_at hl 0 rfl) ?_
      refine lv_iconst (v := 1) hx hb dL_law_1161 (by decide) ?_
      refine lv_iadd hx hb dL_law_1162 ?_
      refine lv_topi (fun jv33 ejv33 => ?_)
      obtain rfl : jv1 = jv33 := ejv1.trans ejv33.symm
      refine va_sld hx hb hX hbl hbA hS (sl_in (c := 1) ejv1 (by decide) (by decide) hi hL) dL_law_1163 ?_
      refine lv_topi (fun av34 eav34 => ?_)
      obtain rfl : 2 = av34 := eav2.trans eav34.symm
      have hM0 := hM
      refine cx_fbackM2 (ob := q)  (rest := []) C1  hM hP hD hS hl.1 (Nat.le_of_ble_eq_true rfl) ⟨by omega, by omega⟩ dL_law_1164 (fun an35 w36 ww_37 H locs hq2 hM hP hD hS => ?_)
      have hP := P_perm (List.perm_append_comm_assoc w36 w32 (t0 ++ (t1 ++ t2))) hP
      have hD := D_perm (List.perm_append_comm_assoc w36 w32 (t0 ++ (t1 ++ t2))) hD
      refine lv_pop hx hb dL_law_1167 rfl ?_
      refine lv_goto (tgt := 1350) hx hb dL_law_1168 (by decide) ?_
      have hww : (ww 0).toInt ≤ 16 := BM_h hM0
      have ttg2 : tgd g ww_37 := by
        rcases hq2 with hq2 | hq2
        · skip
          rw [hq2.2.1]; exact ttg
        · skip
          exact False.elim (Or.elim i2 (fun a9 => hq2.2.1 a9.2) (fun a9 => a9.1 ze))
      have hkw := BM_k hM0
      have ttx9 : mxt xd ww_37 := by
        rcases hq2 with hq2 | hq2
        · skip
          rw [(hq2.2.1)]; exact ttx
        · skip
          exact False.elim (Or.elim i2 (fun a9 => hq2.2.1 a9.2) (fun a9 => a9.1 ze))
      exact K _ _ _ _ ⟨w32, w36, (t0 ++ (t1 ++ t2)), ts, fl0, wi0, sz0, fl1, wi1, sz1, fl2, wi2, sz2, fl3, wi3, sz3, tp, rf, rp, nb0, nb1, nb2, nb3, g, xd, f, ta, fm, fw, fh, tq, fk, fp, ww_37, wv, nm, g0, g1, g2, xd0, xd1, xd2, hB, hM, hI, ⟨r0, r1, r2, r3, r4, i0, i1, i2, ttp, ttf, ttq, ttg2, tte0, tte1, tte2, ttn0, ttn1, ttn2, ttn3, ttx9, ttx0, ttx1, ttx2⟩, hP, hD, hS, hl, by omega, by omega⟩
    · skip
      have hB : BC y x ts fl0 wi0 sz0 fl1 wi1 sz1 fl2 wi2 sz2 fl3 wi3 sz3 tp rf rp nb0 nb1 nb2 nb3 g xd (va_up f 2 (some z)) w := by rw [upE ze]; exact hB
      have hP := P_perm (pk_to (p_2 t0 t1 t2)) hP
      have hD := D_perm (pk_to (p_2 t0 t1 t2)) hD
      refine cx_sback2s (ob := x) (fim := f) (im := z) (rest := []) C1 hB zt hP hD hS hl.1 (Nat.le_of_ble_eq_true rfl) ⟨by omega, by omega⟩ dL_law_1154 (fun an38 w39 tk H locs hq hB hT hP hD hS => ?_)
      rw [upE ze] at hB
      have hP := P_perm (pk_to (p_2 t0 t1 tk)).symm hP
      have hD := D_perm (pk_to (p_2 t0 t1 tk)).symm hD
      have hI : IM y f g0 g1 g2 xd0 xd1 xd2 (t0 ++ (t1 ++ tk)) := ⟨t0, t1, tk, rfl, j0, j1, Or.inr ⟨z, ze, hT⟩⟩
      have hP := P_perm (List.perm_append_comm_assoc w39 wm (t0 ++ (t1 ++ tk))) hP
      have hD := D_perm (List.perm_append_comm_assoc w39 wm (t0 ++ (t1 ++ tk))) hD
      refine lv_pop hx hb dL_law_1157 rfl ?_
      refine lv_aload_n hx hb dL_law_1158 rfl (lv_at hl 1 rfl) ?_
      refine lv_aload_n hx hb dL_law_1159 rfl (lv_at hl 3 rfl) ?_
      refine lv_iload_n hx hb dL_law_1160 rfl (lv_at hl 0 rfl) ?_
      refine lv_iconst (v := 1) hx hb dL_law_1161 (by decide) ?_
      refine lv_iadd hx hb dL_law_1162 ?_
      refine lv_topi (fun jv40 ejv40 => ?_)
      obtain rfl : jv1 = jv40 := ejv1.trans ejv40.symm
      refine va_sld hx hb hX hbl hbA hS (sl_in (c := 1) ejv1 (by decide) (by decide) hi hL) dL_law_1163 ?_
      refine lv_topi (fun av41 eav41 => ?_)
      obtain rfl : 2 = av41 := eav2.trans eav41.symm
      have hM0 := hM
      refine cx_fbackM2 (ob := q)  (rest := []) C1  hM hP hD hS hl.1 (Nat.le_of_ble_eq_true rfl) ⟨by omega, by omega⟩ dL_law_1164 (fun an42 w43 ww_44 H locs hq2 hM hP hD hS => ?_)
      have hP := P_perm (List.perm_append_comm_assoc w43 w39 (t0 ++ (t1 ++ tk))) hP
      have hD := D_perm (List.perm_append_comm_assoc w43 w39 (t0 ++ (t1 ++ tk))) hD
      refine lv_pop hx hb dL_law_1167 rfl ?_
      refine lv_goto (tgt := 1350) hx hb dL_law_1168 (by decide) ?_
      have hww : (ww 0).toInt ≤ 16 := BM_h hM0
      have ttg2 : tgd g2 ww_44 := by
        rcases hq2 with hq2 | hq2
        · skip
          exact False.elim (Or.elim i2 (fun a9 => absurd (ze.symm.trans a9.1) (by simp)) (fun a9 => a9.2 hq2.2.2.1))
        · skip
          exact bk_i (Or.resolve_left tte2 (by rw [ze]; simp)) hq2.2.2.1
      have hkw := BM_k hM0
      have ttx9 : mxt xd2 ww_44 := by
        rcases hq2 with hq2 | hq2
        · skip
          exact False.elim (Or.elim i2 (fun a9 => absurd (ze.symm.trans a9.1) (by simp)) (fun a9 => a9.2 hq2.2.2.1))
        · skip
          exact mx_bk (Or.resolve_left ttx2 (by rw [ze]; simp)) (hkw.2.2.2) hq2.2.2.1
      exact K _ _ _ _ ⟨w39, w43, (t0 ++ (t1 ++ tk)), ts, fl0, wi0, sz0, fl1, wi1, sz1, fl2, wi2, sz2, fl3, wi3, sz3, tp, rf, rp, nb0, nb1, nb2, nb3, g2, xd2, f, ta, fm, fw, fh, tq, fk, fp, ww_44, wv, nm, g0, g1, g2, xd0, xd1, xd2, hB, hM, hI, ⟨r0, r1, r2, r3, r4, i0, i1, i2, ttp, ttf, ttq, ttg2, tte0, tte1, tte2, ttn0, ttn1, ttn2, ttn3, ttx9, ttx0, ttx1, ttx2⟩, hP, hD, hS, hl, by omega, by omega⟩
  · have hav2 := h9
    refine cx_sbacklo (ob := x) (a1 := av2) (rest := []) C1 hav2 hB hP hD hS hl.1 (Nat.le_of_ble_eq_true rfl) ⟨by omega, by omega⟩ dL_law_1154 (fun an45 w46  H locs hq hB hP hD hS => ?_)
    have hP := P_perm (List.perm_append_comm_assoc w46 wm tl) hP
    have hD := D_perm (List.perm_append_comm_assoc w46 wm tl) hD
    refine lv_pop hx hb dL_law_1157 rfl ?_
    refine lv_aload_n hx hb dL_law_1158 rfl (lv_at hl 1 rfl) ?_
    refine lv_aload_n hx hb dL_law_1159 rfl (lv_at hl 3 rfl) ?_
    refine lv_iload_n hx hb dL_law_1160 rfl (lv_at hl 0 rfl) ?_
    refine lv_iconst (v := 1) hx hb dL_law_1161 (by decide) ?_
    refine lv_iadd hx hb dL_law_1162 ?_
    refine lv_topi (fun jv47 ejv47 => ?_)
    obtain rfl : jv1 = jv47 := ejv1.trans ejv47.symm
    refine va_sld hx hb hX hbl hbA hS (sl_in (c := 1) ejv1 (by decide) (by decide) hi hL) dL_law_1163 ?_
    refine lv_topi (fun av48 eav48 => ?_)
    obtain rfl : av2 = av48 := eav2.trans eav48.symm
    have hM0 := hM
    refine cx_sbackMlo (ob := q) (a1 := av2) (rest := []) C1 hav2 hM hP hD hS hl.1 (Nat.le_of_ble_eq_true rfl) ⟨by omega, by omega⟩ dL_law_1164 (fun an49 w50  H locs hq2 hM hP hD hS => ?_)
    have hP := P_perm (List.perm_append_comm_assoc w50 w46 tl) hP
    have hD := D_perm (List.perm_append_comm_assoc w50 w46 tl) hD
    refine lv_pop hx hb dL_law_1167 rfl ?_
    refine lv_goto (tgt := 1350) hx hb dL_law_1168 (by decide) ?_
    exact K _ _ _ _ ⟨w46, w50, tl, ts, fl0, wi0, sz0, fl1, wi1, sz1, fl2, wi2, sz2, fl3, wi3, sz3, tp, rf, rp, nb0, nb1, nb2, nb3, g, xd, f, ta, fm, fw, fh, tq, fk, fp, ww, wv, nm, g0, g1, g2, xd0, xd1, xd2, hB, hM, hI, ⟨r0, r1, r2, r3, r4, i0, i1, i2, ttp, ttf, ttq, ttg, tte0, tte1, tte2, ttn0, ttn1, ttn2, ttn3, ttx, ttx0, ttx1, ttx2⟩, hP, hD, hS, hl, by omega, by omega⟩
  · have hav2 := h9
    refine cx_sbackhi (ob := x) (a1 := av2) (rest := []) C1 hav2 hB hP hD hS hl.1 (Nat.le_of_ble_eq_true rfl) ⟨by omega, by omega⟩ dL_law_1154 (fun an51 w52  H locs hq hB hP hD hS => ?_)
    have hP := P_perm (List.perm_append_comm_assoc w52 wm tl) hP
    have hD := D_perm (List.perm_append_comm_assoc w52 wm tl) hD
    refine lv_pop hx hb dL_law_1157 rfl ?_
    refine lv_aload_n hx hb dL_law_1158 rfl (lv_at hl 1 rfl) ?_
    refine lv_aload_n hx hb dL_law_1159 rfl (lv_at hl 3 rfl) ?_
    refine lv_iload_n hx hb dL_law_1160 rfl (lv_at hl 0 rfl) ?_
    refine lv_iconst (v := 1) hx hb dL_law_1161 (by decide) ?_
    refine lv_iadd hx hb dL_law_1162 ?_
    refine lv_topi (fun jv53 ejv53 => ?_)
    obtain rfl : jv1 = jv53 := ejv1.trans ejv53.symm
    refine va_sld hx hb hX hbl hbA hS (sl_in (c := 1) ejv1 (by decide) (by decide) hi hL) dL_law_1163 ?_
    refine lv_topi (fun av54 eav54 => ?_)
    obtain rfl : av2 = av54 := eav2.trans eav54.symm
    have hM0 := hM
    refine cx_sbackMhi (ob := q) (a1 := av2) (rest := []) C1 hav2 hM hP hD hS hl.1 (Nat.le_of_ble_eq_true rfl) ⟨by omega, by omega⟩ dL_law_1164 (fun an55 w56  H locs hq2 hM hP hD hS => ?_)
    have hP := P_perm (List.perm_append_comm_assoc w56 w52 tl) hP
    have hD := D_perm (List.perm_append_comm_assoc w56 w52 tl) hD
    refine lv_pop hx hb dL_law_1167 rfl ?_
    refine lv_goto (tgt := 1350) hx hb dL_law_1168 (by decide) ?_
    exact K _ _ _ _ ⟨w52, w56, tl, ts, fl0, wi0, sz0, fl1, wi1, sz1, fl2, wi2, sz2, fl3, wi3, sz3, tp, rf, rp, nb0, nb1, nb2, nb3, g, xd, f, ta, fm, fw, fh, tq, fk, fp, ww, wv, nm, g0, g1, g2, xd0, xd1, xd2, hB, hM, hI, ⟨r0, r1, r2, r3, r4, i0, i1, i2, ttp, ttf, ttq, ttg, tte0, tte1, tte2, ttn0, ttn1, ttn2, ttn3, ttx, ttx0, ttx1, ttx2⟩, hP, hD, hS, hl, by omega, by omega⟩

set_option maxHeartbeats 4000000 in
set_option maxRecDepth 100000 in
theorem law_33 {p : Program} {e : Env} {s : State} {m : MethodId} {below : List Frame} {meth : Method} {c : Code} {l : Launch} {b L : Nat} {xs : Nat → Int32} {A : Nat → Prop} {G : va_G} {y : Nat → ClassId} {aK aV : Nat → Nat} {H : Heap} {locs : List Loc} {cells slots : Nat} {ls : Array Slot} {Q : State → Prop} (C0 : lawC p s m meth c b L xs A G y aK aV) {x q : Nat} {i : Int32} (hi : 0 ≤ i.toInt ∧ i.toInt + 6 ≤ (L : Int)) (I : LI s b A G y x q i H locs ls cells slots) (K : ∀ H1 locs1 cells1 slots1, LI s b A G y x q i H1 locs1 ls cells1 slots1 → W p l e room_1 s m #[Value.ref b] below meth c H1 locs1 cells1 slots1 Q (F0 m 1350 ls [])) : W p l e room_1 s m #[Value.ref b] below meth c H locs cells slots Q (F0 m 1171 ls []) := by
  have C1 := C0
  obtain ⟨hx, hb, hr, hml, hown, hw0, hX, hbl, hbA, hA, hAf, hlocks, hK, hE, hL⟩ := C0
  obtain ⟨w, wm, tl, ts, fl0, wi0, sz0, fl1, wi1, sz1, fl2, wi2, sz2, fl3, wi3, sz3, tp, rf, rp, nb0, nb1, nb2, nb3, g, xd, f, ta, fm, fw, fh, tq, fk, fp, ww, wv, nm, g0, g1, g2, xd0, xd1, xd2, hB, hM, hI, hR, hP, hD, hS, hl, hc1, hc2⟩ := I
  obtain ⟨r0, r1, r2, r3, r4, i0, i1, i2, ttp, ttf, ttq, ttg, tte0, tte1, tte2, ttn0, ttn1, ttn2, ttn3, ttx, ttx0, ttx1, ttx2⟩ := hR
  refine lv_aload_n hx hb dL_law_1171 rfl (lv_at hl 2 rfl) ?_
  refine lv_aload_n hx hb dL_law_1172 rfl (lv_at hl 3 rfl) ?_
  refine lv_iload_n hx hb dL_law_1173 rfl (lv_at hl 0 rfl) ?_
  refine lv_iconst (v := 1) hx hb dL_law_1174 (by decide) ?_
  refine lv_iadd hx hb dL_law_1175 ?_
  refine lv_topi (fun jv1 ejv1 => ?_)
  refine va_sld hx hb hX hbl hbA hS (sl_in (c := 1) ejv1 (by decide) (by decide) hi hL) dL_law_1176 ?_
  refine lv_topi (fun av2 eav2 => ?_)
  refine lv_aload_n hx hb dL_law_1177 rfl (lv_at hl 3 rfl) ?_
  refine lv_iload_n hx hb dL_law_1178 rfl (lv_at hl 0 rfl) ?_
  refine lv_iconst (v := 2) hx hb dL_law_1179 (by decide) ?_
  refine lv_iadd hx hb dL_law_1180 ?_
  refine lv_topi (fun jv3 ejv3 => ?_)
  refine va_sld hx hb hX hbl hbA hS (sl_in (c := 2) ejv3 (by decide) (by decide) hi hL) dL_law_1181 ?_
  refine lv_topi (fun av4 eav4 => ?_)
  refine lv_aload_n hx hb dL_law_1182 rfl (lv_at hl 3 rfl) ?_
  refine lv_iload_n hx hb dL_law_1183 rfl (lv_at hl 0 rfl) ?_
  refine lv_iconst (v := 3) hx hb dL_law_1184 (by decide) ?_
  refine lv_iadd hx hb dL_law_1185 ?_
  refine lv_topi (fun jv5 ejv5 => ?_)
  refine va_sld hx hb hX hbl hbA hS (sl_in (c := 3) ejv5 (by decide) (by decide) hi hL) dL_law_1186 ?_
  refine lv_topi (fun av6 eav6 => ?_)
  rcases so_cases av2 with h9 | h9 | h9 | h9 | h9 | h9
  · obtain rfl : 0 = av2 := h9.symm
    refine cx_frow0 (ob := x) (a2 := av4) (a3 := av6) (rest := []) C1  hB hP hD hS hl.1 (Nat.le_of_ble_eq_true rfl) ⟨by omega, by omega⟩ dL_law_1187 (fun an7 w8 fl0_9 wi0_10 sz0_11 nb0_12 H locs hq hB hP hD hS => ?_)
    have hP := P_perm (List.perm_append_comm_assoc w8 wm tl) hP
    have hD := D_perm (List.perm_append_comm_assoc w8 wm tl) hD
    refine lv_pop hx hb dL_law_1190 rfl ?_
    refine lv_aload_n hx hb dL_law_1191 rfl (lv_at hl 1 rfl) ?_
    refine lv_aload_n hx hb dL_law_1192 rfl (lv_at hl 3 rfl) ?_
    refine lv_iload_n hx hb dL_law_1193 rfl (lv_at hl 0 rfl) ?_
    refine lv_iconst (v := 1) hx hb dL_law_1194 (by decide) ?_
    refine lv_iadd hx hb dL_law_1195 ?_
    refine lv_topi (fun jv13 ejv13 => ?_)
    obtain rfl : jv1 = jv13 := ejv1.trans ejv13.symm
    refine va_sld hx hb hX hbl hbA hS (sl_in (c := 1) ejv1 (by decide) (by decide) hi hL) dL_law_1196 ?_
    refine lv_topi (fun av14 eav14 => ?_)
    obtain rfl : 0 = av14 := eav2.trans eav14.symm
    refine lv_aload_n hx hb dL_law_1197 rfl (lv_at hl 3 rfl) ?_
    refine lv_iload_n hx hb dL_law_1198 rfl (lv_at hl 0 rfl) ?_
    refine lv_iconst (v := 2) hx hb dL_law_1199 (by decide) ?_
    refine lv_iadd hx hb dL_law_1200 ?_
    refine lv_topi (fun jv15 ejv15 => ?_)
    obtain rfl : jv3 = jv15 := ejv3.trans ejv15.symm
    refine va_sld hx hb hX hbl hbA hS (sl_in (c := 2) ejv3 (by decide) (by decide) hi hL) dL_law_1201 ?_
    refine lv_topi (fun av16 eav16 => ?_)
    obtain rfl : av4 = av16 := eav4.trans eav16.symm
    refine lv_aload_n hx hb dL_law_1202 rfl (lv_at hl 3 rfl) ?_
    refine lv_iload_n hx hb dL_law_1203 rfl (lv_at hl 0 rfl) ?_
    refine lv_iconst (v := 3) hx hb dL_law_1204 (by decide) ?_
    refine lv_iadd hx hb dL_law_1205 ?_
    refine lv_topi (fun jv17 ejv17 => ?_)
    obtain rfl : jv5 = jv17 := ejv5.trans ejv17.symm
    refine va_sld hx hb hX hbl hbA hS (sl_in (c := 3) ejv5 (by decide) (by decide) hi hL) dL_law_1206 ?_
    refine lv_topi (fun av18 eav18 => ?_)
    obtain rfl : av6 = av18 := eav6.trans eav18.symm
    have hM0 := hM
    refine cx_frowM0 (ob := q) (a2 := av4) (a3 := av6) (rest := []) C1  hM hP hD hS hl.1 (Nat.le_of_ble_eq_true rfl) ⟨by omega, by omega⟩ dL_law_1207 (fun an19 w20 fm_21 fw_22 nm_23 H locs hq2 hM hP hD hS => ?_)
    have hP := P_perm (List.perm_append_comm_assoc w20 w8 tl) hP
    have hD := D_perm (List.perm_append_comm_assoc w20 w8 tl) hD
    refine lv_pop hx hb dL_law_1210 rfl ?_
    refine lv_goto (tgt := 1350) hx hb dL_law_1211 (by decide) ?_
    have u1 : Int32.toInt 1 = 1 := by decide
    unfold sR at r1 r2 r3 r4
    have hm09 := BM_n hM0 0
    have hm19 := BM_n hM0 1
    have hm29 := BM_n hM0 2
    have hm39 := BM_n hM0 3
    rcases hq with hq | hq | hq
    · skip
      obtain ⟨rfl, rfl, rfl, rfl, rfl, hz⟩ := hq
      rcases hq2 with hq2 | hq2 | hq2
      · skip
        obtain ⟨rfl, rfl, rfl, rfl, hy⟩ := hq2
        exact K _ _ _ _ ⟨w8, w20, tl, _, _, _, _, _, _, _, _, _, _, _, _, _, _, _, _, _, _, _, _, _, _, _, _, _, _, _, _, _, _, _, _, _, g0, g1, g2, xd0, xd1, xd2, (by assumption), (by assumption), hI, ⟨r0, (by unfold sR; omega), (by unfold sR; omega), (by unfold sR; omega), (by unfold sR; omega), i0, i1, i2, ttp, ttf, ttq, ttg, tte0, tte1, tte2, ttn0, ttn1, ttn2, ttn3, ttx, ttx0, ttx1, ttx2⟩, hP, hD, hS, hl, by omega, by omega⟩
      · skip
        obtain ⟨rfl, rfl, rfl, rfl, hy⟩ := hq2
        exfalso
        omega
      · skip
        obtain ⟨rfl, hy⟩ := hq2
        exfalso
        omega
    · skip
      obtain ⟨rfl, rfl, rfl, rfl, rfl, hz⟩ := hq
      rcases hq2 with hq2 | hq2 | hq2
      · skip
        obtain ⟨rfl, rfl, rfl, rfl, hy⟩ := hq2
        exfalso
        omega
      · skip
        obtain ⟨rfl, rfl, rfl, rfl, hy⟩ := hq2
        exact K _ _ _ _ ⟨w8, w20, tl, _, _, _, _, _, _, _, _, _, _, _, _, _, _, _, _, _, _, _, _, _, _, _, _, _, _, _, _, _, _, _, _, _, g0, g1, g2, xd0, xd1, xd2, (by assumption), (by assumption), hI, ⟨r0, (by unfold sR; omega), (by unfold sR; omega), (by unfold sR; omega), (by unfold sR; omega), i0, i1, i2, ttp, ttf, ttq, ttg, tte0, tte1, tte2, ttn0, ttn1, ttn2, ttn3, ttx, ttx0, ttx1, ttx2⟩, hP, hD, hS, hl, by omega, by omega⟩
      · skip
        obtain ⟨rfl, hy⟩ := hq2
        exfalso
        omega
    · skip
      obtain ⟨rfl, rfl, rfl, rfl, hz⟩ := hq
      rcases hq2 with hq2 | hq2 | hq2
      · skip
        obtain ⟨rfl, rfl, rfl, rfl, hy⟩ := hq2
        exfalso
        omega
      · skip
        obtain ⟨rfl, rfl, rfl, rfl, hy⟩ := hq2
        exfalso
        omega
      · skip
        obtain ⟨rfl, hy⟩ := hq2
        exact K _ _ _ _ ⟨w8, w20, tl, _, _, _, _, _, _, _, _, _, _, _, _, _, _, _, _, _, _, _, _, _, _, _, _, _, _, _, _, _, _, _, _, _, g0, g1, g2, xd0, xd1, xd2, (by assumption), (by assumption), hI, ⟨r0, (by unfold sR; omega), (by unfold sR; omega), (by unfold sR; omega), (by unfold sR; omega), i0, i1, i2, ttp, ttf, ttq, ttg, tte0, tte1, tte2, (nt_row (hz.1) (hy.2.2.2.2.2.2.2.2.2.1)), (nt_rowO ttn1 (hy.2.2.2.2.2.2.2.2.2.1) (by decide)), (nt_rowO ttn2 (hy.2.2.2.2.2.2.2.2.2.1) (by decide)), (nt_rowO ttn3 (hy.2.2.2.2.2.2.2.2.2.1) (by decide)), ttx, ttx0, ttx1, ttx2⟩, hP, hD, hS, hl, by omega, by omega⟩
  · obtain rfl : 1 = av2 := h9.symm
    refine cx_frow1 (ob := x) (a2 := av4) (a3 := av6) (rest := []) C1  hB hP hD hS hl.1 (Nat.le_of_ble_eq_true rfl) ⟨by omega, by omega⟩ dL_law_1187 (fun an24 w25 fl1_26 wi1_27 sz1_28 nb1_29 H locs hq hB hP hD hS => ?_)
    have hP := P_perm (List.perm_append_comm_assoc w25 wm tl) hP
    have hD := D_perm (List.perm_append_comm_assoc w25 wm tl) hD
    refine lv_pop hx hb dL_law_1190 rfl ?_
    refine lv_aload_n hx hb dL_law_1191 rfl (lv_at hl 1 rfl) ?_
    refine lv_aload_n hx hb dL_law_1192 rfl (lv_at hl 3 rfl) ?_
    refine lv_iload_n hx hb dL_law_1193 rfl (lv_at hl 0 rfl) ?_
    refine lv_iconst (v := 1) hx hb dL_law_1194 (by decide) ?_
    refine lv_iadd hx hb dL_law_1195 ?_
    refine lv_topi (fun jv30 ejv30 => ?_)
    obtain rfl : jv1 = jv30 := ejv1.trans ejv30.symm
    refine va_sld hx hb hX hbl hbA hS (sl_in (c := 1) ejv1 (by decide) (by decide) hi hL) dL_law_1196 ?_
    refine lv_topi (fun av31 eav31 => ?_)
    obtain rfl : 1 = av31 := eav2.trans eav31.symm
    refine lv_aload_n hx hb dL_law_1197 rfl (lv_at hl 3 rfl) ?_
    refine lv_iload_n hx hb dL_law_1198 rfl (lv_at hl 0 rfl) ?_
    refine lv_iconst (v := 2) hx hb dL_law_1199 (by decide) ?_
    refine lv_iadd hx hb dL_law_1200 ?_
    refine lv_topi (fun jv32 ejv32 => ?_)
    obtain rfl : jv3 = jv32 := ejv3.trans ejv32.symm
    refine va_sld hx hb hX hbl hbA hS (sl_in (c := 2) ejv3 (by decide) (by decide) hi hL) dL_law_1201 ?_
    refine lv_topi (fun av33 eav33 => ?_)
    obtain rfl : av4 = av33 := eav4.trans eav33.symm
    refine lv_aload_n hx hb dL_law_1202 rfl (lv_at hl 3 rfl) ?_
    refine lv_iload_n hx hb dL_law_1203 rfl (lv_at hl 0 rfl) ?_
    refine lv_iconst (v := 3) hx hb dL_law_1204 (by decide) ?_
    refine lv_iadd hx hb dL_law_1205 ?_
    refine lv_topi (fun jv34 ejv34 => ?_)
    obtain rfl : jv5 = jv34 := ejv5.trans ejv34.symm
    refine va_sld hx hb hX hbl hbA hS (sl_in (c := 3) ejv5 (by decide) (by decide) hi hL) dL_law_1206 ?_
    refine lv_topi (fun av35 eav35 => ?_)
    obtain rfl : av6 = av35 := eav6.trans eav35.symm
    have hM0 := hM
    refine cx_frowM1 (ob := q) (a2 := av4) (a3 := av6) (rest := []) C1  hM hP hD hS hl.1 (Nat.le_of_ble_eq_true rfl) ⟨by omega, by omega⟩ dL_law_1207 (fun an36 w37 fm_38 fw_39 nm_40 H locs hq2 hM hP hD hS => ?_)
    have hP := P_perm (List.perm_append_comm_assoc w37 w25 tl) hP
    have hD := D_perm (List.perm_append_comm_assoc w37 w25 tl) hD
    refine lv_pop hx hb dL_law_1210 rfl ?_
    refine lv_goto (tgt := 1350) hx hb dL_law_1211 (by decide) ?_
    have u1 : Int32.toInt 1 = 1 := by decide
    unfold sR at r1 r2 r3 r4
    have hm09 := BM_n hM0 0
    have hm19 := BM_n hM0 1
    have hm29 := BM_n hM0 2
    have hm39 := BM_n hM0 3
    rcases hq with hq | hq | hq
    · skip
      obtain ⟨rfl, rfl, rfl, rfl, rfl, hz⟩ := hq
      rcases hq2 with hq2 | hq2 | hq2
      · skip
        obtain ⟨rfl, rfl, rfl, rfl, hy⟩ := hq2
        exact K _ _ _ _ ⟨w25, w37, tl, _, _, _, _, _, _, _, _, _, _, _, _, _, _, _, _, _, _, _, _, _, _, _, _, _, _, _, _, _, _, _, _, _, g0, g1, g2, xd0, xd1, xd2, (by assumption), (by assumption), hI, ⟨r0, (by unfold sR; omega), (by unfold sR; omega), (by unfold sR; omega), (by unfold sR; omega), i0, i1, i2, ttp, ttf, ttq, ttg, tte0, tte1, tte2, ttn0, ttn1, ttn2, ttn3, ttx, ttx0, ttx1, ttx2⟩, hP, hD, hS, hl, by omega, by omega⟩
      · skip
        obtain ⟨rfl, rfl, rfl, rfl, hy⟩ := hq2
        exfalso
        omega
      · skip
        obtain ⟨rfl, hy⟩ := hq2
        exfalso
        omega
    · skip
      obtain ⟨rfl, rfl, rfl, rfl, rfl, hz⟩ := hq
      rcases hq2 with hq2 | hq2 | hq2
      · skip
        obtain ⟨rfl, rfl, rfl, rfl, hy⟩ := hq2
        exfalso
        omega
      · skip
        obtain ⟨rfl, rfl, rfl, rfl, hy⟩ := hq2
        exact K _ _ _ _ ⟨w25, w37, tl, _, _, _, _, _, _, _, _, _, _, _, _, _, _, _, _, _, _, _, _, _, _, _, _, _, _, _, _, _, _, _, _, _, g0, g1, g2, xd0, xd1, xd2, (by assumption), (by assumption), hI, ⟨r0, (by unfold sR; omega), (by unfold sR; omega), (by unfold sR; omega), (by unfold sR; omega), i0, i1, i2, ttp, ttf, ttq, ttg, tte0, tte1, tte2, ttn0, ttn1, ttn2, ttn3, ttx, ttx0, ttx1, ttx2⟩, hP, hD, hS, hl, by omega, by omega⟩
      · skip
        obtain ⟨rfl, hy⟩ := hq2
        exfalso
        omega
    · skip
      obtain ⟨rfl, rfl, rfl, rfl, hz⟩ := hq
      rcases hq2 with hq2 | hq2 | hq2
      · skip
        obtain ⟨rfl, rfl, rfl, rfl, hy⟩ := hq2
        exfalso
        omega
      · skip
        obtain ⟨rfl, rfl, rfl, rfl, hy⟩ := hq2
        exfalso
        omega
      · skip
        obtain ⟨rfl, hy⟩ := hq2
        exact K _ _ _ _ ⟨w25, w37, tl, _, _, _, _, _, _, _, _, _, _, _, _, _, _, _, _, _, _, _, _, _, _, _, _, _, _, _, _, _, _, _, _, _, g0, g1, g2, xd0, xd1, xd2, (by assumption), (by assumption), hI, ⟨r0, (by unfold sR; omega), (by unfold sR; omega), (by unfold sR; omega), (by unfold sR; omega), i0, i1, i2, ttp, ttf, ttq, ttg, tte0, tte1, tte2, (nt_rowO ttn0 (hy.2.2.2.2.2.2.2.2.2.1) (by decide)), (nt_row (hz.1) (hy.2.2.2.2.2.2.2.2.2.1)), (nt_rowO ttn2 (hy.2.2.2.2.2.2.2.2.2.1) (by decide)), (nt_rowO ttn3 (hy.2.2.2.2.2.2.2.2.2.1) (by decide)), ttx, ttx0, ttx1, ttx2⟩, hP, hD, hS, hl, by omega, by omega⟩
  · obtain rfl : 2 = av2 := h9.symm
    refine cx_frow2 (ob := x) (a2 := av4) (a3 := av6) (rest := []) C1  hB hP hD hS hl.1 (Nat.le_of_ble_eq_true rfl) ⟨by omega, by omega⟩ dL_law_1187 (fun an41 w42 fl2_43 wi2_44 sz2_45 nb2_46 H locs hq hB hP hD hS => ?_)
    have hP := P_perm (List.perm_append_comm_assoc w42 wm tl) hP
    have hD := D_perm (List.perm_append_comm_assoc w42 wm tl) hD
    refine lv_pop hx hb dL_law_1190 rfl ?_
    refine lv_aload_n hx hb dL_law_1191 rfl (lv_at hl 1 rfl) ?_
    refine lv_aload_n hx hb dL_law_1192 rfl (lv_at hl 3 rfl) ?_
    refine lv_iload_n hx hb dL_law_1193 rfl (lv_at hl 0 rfl) ?_
    refine lv_iconst (v := 1) hx hb dL_law_1194 (by decide) ?_
    refine lv_iadd hx hb dL_law_1195 ?_
    refine lv_topi (fun jv47 ejv47 => ?_)
    obtain rfl : jv1 = jv47 := ejv1.trans ejv47.symm
    refine va_sld hx hb hX hbl hbA hS (sl_in (c := 1) ejv1 (by decide) (by decide) hi hL) dL_law_1196 ?_
    refine lv_topi (fun av48 eav48 => ?_)
    obtain rfl : 2 = av48 := eav2.trans eav48.symm
    refine lv_aload_n hx hb dL_law_1197 rfl (lv_at hl 3 rfl) ?_
    refine lv_iload_n hx hb dL_law_1198 rfl (lv_at hl 0 rfl) ?_
    refine lv_iconst (v := 2) hx hb dL_law_1199 (by decide) ?_
    refine lv_iadd hx hb dL_law_1200 ?_
    refine lv_topi (fun jv49 ejv49 => ?_)
    obtain rfl : jv3 = jv49 := ejv3.trans ejv49.symm
    refine va_sld hx hb hX hbl hbA hS (sl_in (c := 2) ejv3 (by decide) (by decide) hi hL) dL_law_1201 ?_
    refine lv_topi (fun av50 eav50 => ?_)
    obtain rfl : av4 = av50 := eav4.trans eav50.symm
    refine lv_aload_n hx hb dL_law_1202 rfl (lv_at hl 3 rfl) ?_
    refine lv_iload_n hx hb dL_law_1203 rfl (lv_at hl 0 rfl) ?_
    refine lv_iconst (v := 3) hx hb dL_law_1204 (by decide) ?_
    refine lv_iadd hx hb dL_law_1205 ?_
    refine lv_topi (fun jv51 ejv51 => ?_)
    obtain rfl : jv5 = jv51 := ejv5.trans ejv51.symm
    refine va_sld hx hb hX hbl hbA hS (sl_in (c := 3) ejv5 (by decide) (by decide) hi hL) dL_law_1206 ?_
    refine lv_topi (fun av52 eav52 => ?_)
    obtain rfl : av6 = av52 := eav6.trans eav52.symm
    have hM0 := hM
    refine cx_frowM2 (ob := q) (a2 := av4) (a3 := av6) (rest := []) C1  hM hP hD hS hl.1 (Nat.le_of_ble_eq_true rfl) ⟨by omega, by omega⟩ dL_law_1207 (fun an53 w54 fm_55 fw_56 nm_57 H locs hq2 hM hP hD hS => ?_)
    have hP := P_perm (List.perm_append_comm_assoc w54 w42 tl) hP
    have hD := D_perm (List.perm_append_comm_assoc w54 w42 tl) hD
    refine lv_pop hx hb dL_law_1210 rfl ?_
    refine lv_goto (tgt := 1350) hx hb dL_law_1211 (by decide) ?_
    have u1 : Int32.toInt 1 = 1 := by decide
    unfold sR at r1 r2 r3 r4
    have hm09 := BM_n hM0 0
    have hm19 := BM_n hM0 1
    have hm29 := BM_n hM0 2
    have hm39 := BM_n hM0 3
    rcases hq with hq | hq | hq
    · skip
      obtain ⟨rfl, rfl, rfl, rfl, rfl, hz⟩ := hq
      rcases hq2 with hq2 | hq2 | hq2
      · skip
        obtain ⟨rfl, rfl, rfl, rfl, hy⟩ := hq2
        exact K _ _ _ _ ⟨w42, w54, tl, _, _, _, _, _, _, _, _, _, _, _, _, _, _, _, _, _, _, _, _, _, _, _, _, _, _, _, _, _, _, _, _, _, g0, g1, g2, xd0, xd1, xd2, (by assumption), (by assumption), hI, ⟨r0, (by unfold sR; omega), (by unfold sR; omega), (by unfold sR; omega), (by unfold sR; omega), i0, i1, i2, ttp, ttf, ttq, ttg, tte0, tte1, tte2, ttn0, ttn1, ttn2, ttn3, ttx, ttx0, ttx1, ttx2⟩, hP, hD, hS, hl, by omega, by omega⟩
      · skip
        obtain ⟨rfl, rfl, rfl, rfl, hy⟩ := hq2
        exfalso
        omega
      · skip
        obtain ⟨rfl, hy⟩ := hq2
        exfalso
        omega
    · skip
      obtain ⟨rfl, rfl, rfl, rfl, rfl, hz⟩ := hq
      rcases hq2 with hq2 | hq2 | hq2
      · skip
        obtain ⟨rfl, rfl, rfl, rfl, hy⟩ := hq2
        exfalso
        omega
      · skip
        obtain ⟨rfl, rfl, rfl, rfl, hy⟩ := hq2
        exact K _ _ _ _ ⟨w42, w54, tl, _, _, _, _, _, _, _, _, _, _, _, _, _, _, _, _, _, _, _, _, _, _, _, _, _, _, _, _, _, _, _, _, _, g0, g1, g2, xd0, xd1, xd2, (by assumption), (by assumption), hI, ⟨r0, (by unfold sR; omega), (by unfold sR; omega), (by unfold sR; omega), (by unfold sR; omega), i0, i1, i2, ttp, ttf, ttq, ttg, tte0, tte1, tte2, ttn0, ttn1, ttn2, ttn3, ttx, ttx0, ttx1, ttx2⟩, hP, hD, hS, hl, by omega, by omega⟩
      · skip
        obtain ⟨rfl, hy⟩ := hq2
        exfalso
        omega
    · skip
      obtain ⟨rfl, rfl, rfl, rfl, hz⟩ := hq
      rcases hq2 with hq2 | hq2 | hq2
      · skip
        obtain ⟨rfl, rfl, rfl, rfl, hy⟩ := hq2
        exfalso
        omega
      · skip
        obtain ⟨rfl, rfl, rfl, rfl, hy⟩ := hq2
        exfalso
        omega
      · skip
        obtain ⟨rfl, hy⟩ := hq2
        exact K _ _ _ _ ⟨w42, w54, tl, _, _, _, _, _, _, _, _, _, _, _, _, _, _, _, _, _, _, _, _, _, _, _, _, _, _, _, _, _, _, _, _, _, g0, g1, g2, xd0, xd1, xd2, (by assumption), (by assumption), hI, ⟨r0, (by unfold sR; omega), (by unfold sR; omega), (by unfold sR; omega), (by unfold sR; omega), i0, i1, i2, ttp, ttf, ttq, ttg, tte0, tte1, tte2, (nt_rowO ttn0 (hy.2.2.2.2.2.2.2.2.2.1) (by decide)), (nt_rowO ttn1 (hy.2.2.2.2.2.2.2.2.2.1) (by decide)), (nt_row (hz.1) (hy.2.2.2.2.2.2.2.2.2.1)), (nt_rowO ttn3 (hy.2.2.2.2.2.2.2.2.2.1) (by decide)), ttx, ttx0, ttx1, ttx2⟩, hP, hD, hS, hl, by omega, by omega⟩
  · obtain rfl : 3 = av2 := h9.symm
    refine cx_frow3 (ob := x) (a2 := av4) (a3 := av6) (rest := []) C1  hB hP hD hS hl.1 (Nat.le_of_ble_eq_true rfl) ⟨by omega, by omega⟩ dL_law_1187 (fun an58 w59 fl3_60 wi3_61 sz3_62 nb3_63 H locs hq hB hP hD hS => ?_)
    have hP := P_perm (List.perm_append_comm_assoc w59 wm tl) hP
    have hD := D_perm (List.perm_append_comm_assoc w59 wm tl) hD
    refine lv_pop hx hb dL_law_1190 rfl ?_
    refine lv_aload_n hx hb dL_law_1191 rfl (lv_at hl 1 rfl) ?_
    refine lv_aload_n hx hb dL_law_1192 rfl (lv_at hl 3 rfl) ?_
    refine lv_iload_n hx hb dL_law_1193 rfl (lv_at hl 0 rfl) ?_
    refine lv_iconst (v := 1) hx hb dL_law_1194 (by decide) ?_
    refine lv_iadd hx hb dL_law_1195 ?_
    refine lv_topi (fun jv64 ejv64 => ?_)
    obtain rfl : jv1 = jv64 := ejv1.trans ejv64.symm
    refine va_sld hx hb hX hbl hbA hS (sl_in (c := 1) ejv1 (by decide) (by decide) hi hL) dL_law_1196 ?_
    refine lv_topi (fun av65 eav65 => ?_)
    obtain rfl : 3 = av65 := eav2.trans eav65.symm
    refine lv_aload_n hx hb dL_law_1197 rfl (lv_at hl 3 rfl) ?_
    refine lv_iload_n hx hb dL_law_1198 rfl (lv_at hl 0 rfl) ?_
    refine lv_iconst (v := 2) hx hb dL_law_1199 (by decide) ?_
    refine lv_iadd hx hb dL_law_1200 ?_
    refine lv_topi (fun jv66 ejv66 => ?_)
    obtain rfl : jv3 = jv66 := ejv3.trans ejv66.symm
    refine va_sld hx hb hX hbl hbA hS (sl_in (c := 2) ejv3 (by decide) (by decide) hi hL) dL_law_1201 ?_
    refine lv_topi (fun av67 eav67 => ?_)
    obtain rfl : av4 = av67 := eav4.trans eav67.symm
    refine lv_aload_n hx hb dL_law_1202 rfl (lv_at hl 3 rfl) ?_
    refine lv_iload_n hx hb dL_law_1203 rfl (lv_at hl 0 rfl) ?_
    refine lv_iconst (v := 3) hx hb dL_law_1204 (by decide) ?_
    refine lv_iadd hx hb dL_law_1205 ?_
    refine lv_topi (fun jv68 ejv68 => ?_)
    obtain rfl : jv5 = jv68 := ejv5.trans ejv68.symm
    refine va_sld hx hb hX hbl hbA hS (sl_in (c := 3) ejv5 (by decide) (by decide) hi hL) dL_law_1206 ?_
    refine lv_topi (fun av69 eav69 => ?_)
    obtain rfl : av6 = av69 := eav6.trans eav69.symm
    have hM0 := hM
    refine cx_frowM3 (ob := q) (a2 := av4) (a3 := av6) (rest := []) C1  hM hP hD hS hl.1 (Nat.le_of_ble_eq_true rfl) ⟨by omega, by omega⟩ dL_law_1207 (fun an70 w71 fm_72 fw_73 nm_74 H locs hq2 hM hP hD hS => ?_)
    have hP := P_perm (List.perm_append_comm_assoc w71 w59 tl) hP
    have hD := D_perm (List.perm_append_comm_assoc w71 w59 tl) hD
    refine lv_pop hx hb dL_law_1210 rfl ?_
    refine lv_goto (tgt := 1350) hx hb dL_law_1211 (by decide) ?_
    have u1 : Int32.toInt 1 = 1 := by decide
    unfold sR at r1 r2 r3 r4
    have hm09 := BM_n hM0 0
    have hm19 := BM_n hM0 1
    have hm29 := BM_n hM0 2
    have hm39 := BM_n hM0 3
    rcases hq with hq | hq | hq
    · skip
      obtain ⟨rfl, rfl, rfl, rfl, rfl, hz⟩ := hq
      rcases hq2 with hq2 | hq2 | hq2
      · skip
        obtain ⟨rfl, rfl, rfl, rfl, hy⟩ := hq2
        exact K _ _ _ _ ⟨w59, w71, tl, _, _, _, _, _, _, _, _, _, _, _, _, _, _, _, _, _, _, _, _, _, _, _, _, _, _, _, _, _, _, _, _, _, g0, g1, g2, xd0, xd1, xd2, (by assumption), (by assumption), hI, ⟨r0, (by unfold sR; omega), (by unfold sR; omega), (by unfold sR; omega), (by unfold sR; omega), i0, i1, i2, ttp, ttf, ttq, ttg, tte0, tte1, tte2, ttn0, ttn1, ttn2, ttn3, ttx, ttx0, ttx1, ttx2⟩, hP, hD, hS, hl, by omega, by omega⟩
      · skip
        obtain ⟨rfl, rfl, rfl, rfl, hy⟩ := hq2
        exfalso
        omega
      · skip
        obtain ⟨rfl, hy⟩ := hq2
        exfalso
        omega
    · skip
      obtain ⟨rfl, rfl, rfl, rfl, rfl, hz⟩ := hq
      rcases hq2 with hq2 | hq2 | hq2
      · skip
        obtain ⟨rfl, rfl, rfl, rfl, hy⟩ := hq2
        exfalso
        omega
      · skip
        obtain ⟨rfl, rfl, rfl, rfl, hy⟩ := hq2
        exact K _ _ _ _ ⟨w59, w71, tl, _, _, _, _, _, _, _, _, _, _, _, _, _, _, _, _, _, _, _, _, _, _, _, _, _, _, _, _, _, _, _, _, _, g0, g1, g2, xd0, xd1, xd2, (by assumption), (by assumption), hI, ⟨r0, (by unfold sR; omega), (by unfold sR; omega), (by unfold sR; omega), (by unfold sR; omega), i0, i1, i2, ttp, ttf, ttq, ttg, tte0, tte1, tte2, ttn0, ttn1, ttn2, ttn3, ttx, ttx0, ttx1, ttx2⟩, hP, hD, hS, hl, by omega, by omega⟩
      · skip
        obtain ⟨rfl, hy⟩ := hq2
        exfalso
        omega
    · skip
      obtain ⟨rfl, rfl, rfl, rfl, hz⟩ := hq
      rcases hq2 with hq2 | hq2 | hq2
      · skip
        obtain ⟨rfl, rfl, rfl, rfl, hy⟩ := hq2
        exfalso
        omega
      · skip
        obtain ⟨rfl, rfl, rfl, rfl, hy⟩ := hq2
        exfalso
        omega
      · skip
        obtain ⟨rfl, hy⟩ := hq2
        exact K _ _ _ _ ⟨w59, w71, tl, _, _, _, _, _, _, _, _, _, _, _, _, _, _, _, _, _, _, _, _, _, _, _, _, _, _, _, _, _, _, _, _, _, g0, g1, g2, xd0, xd1, xd2, (by assumption), (by assumption), hI, ⟨r0, (by unfold sR; omega), (by unfold sR; omega), (by unfold sR; omega), (by unfold sR; omega), i0, i1, i2, ttp, ttf, ttq, ttg, tte0, tte1, tte2, (nt_rowO ttn0 (hy.2.2.2.2.2.2.2.2.2.1) (by decide)), (nt_rowO ttn1 (hy.2.2.2.2.2.2.2.2.2.1) (by decide)), (nt_rowO ttn2 (hy.2.2.2.2.2.2.2.2.2.1) (by decide)), (nt_row (hz.1) (hy.2.2.2.2.2.2.2.2.2.1)), ttx, ttx0, ttx1, ttx2⟩, hP, hD, hS, hl, by omega, by omega⟩
  · have hav2 := h9
    refine cx_srowlo (ob := x) (a1 := av2) (a2 := av4) (a3 := av6) (rest := []) C1 hav2 hB hP hD hS hl.1 (Nat.le_of_ble_eq_true rfl) ⟨by omega, by omega⟩ dL_law_1187 (fun an75 w76  H locs hq hB hP hD hS => ?_)
    have hP := P_perm (List.perm_append_comm_assoc w76 wm tl) hP
    have hD := D_perm (List.perm_append_comm_assoc w76 wm tl) hD
    refine lv_pop hx hb dL_law_1190 rfl ?_
    refine lv_aload_n hx hb dL_law_1191 rfl (lv_at hl 1 rfl) ?_
    refine lv_aload_n hx hb dL_law_1192 rfl (lv_at hl 3 rfl) ?_
    refine lv_iload_n hx hb dL_law_1193 rfl (lv_at hl 0 rfl) ?_
    refine lv_iconst (v := 1) hx hb dL_law_1194 (by decide) ?_
    refine lv_iadd hx hb dL_law_1195 ?_
    refine lv_topi (fun jv77 ejv77 => ?_)
    obtain rfl : jv1 = jv77 := ejv1.trans ejv77.symm
    refine va_sld hx hb hX hbl hbA hS (sl_in (c := 1) ejv1 (by decide) (by decide) hi hL) dL_law_1196 ?_
    refine lv_topi (fun av78 eav78 => ?_)
    obtain rfl : av2 = av78 := eav2.trans eav78.symm
    refine lv_aload_n hx hb dL_law_1197 rfl (lv_at hl 3 rfl) ?_
    refine lv_iload_n hx hb dL_law_1198 rfl (lv_at hl 0 rfl) ?_
    refine lv_iconst (v := 2) hx hb dL_law_1199 (by decide) ?_
    refine lv_iadd hx hb dL_law_1200 ?_
    refine lv_topi (fun jv79 ejv79 => ?_)
    obtain rfl : jv3 = jv79 := ejv3.trans ejv79.symm
    refine va_sld hx hb hX hbl hbA hS (sl_in (c := 2) ejv3 (by decide) (by decide) hi hL) dL_law_1201 ?_
    refine lv_topi (fun av80 eav80 => ?_)
    obtain rfl : av4 = av80 := eav4.trans eav80.symm
    refine lv_aload_n hx hb dL_law_1202 rfl (lv_at hl 3 rfl) ?_
    refine lv_iload_n hx hb dL_law_1203 rfl (lv_at hl 0 rfl) ?_
    refine lv_iconst (v := 3) hx hb dL_law_1204 (by decide) ?_
    refine lv_iadd hx hb dL_law_1205 ?_
    refine lv_topi (fun jv81 ejv81 => ?_)
    obtain rfl : jv5 = jv81 := ejv5.trans ejv81.symm
    refine va_sld hx hb hX hbl hbA hS (sl_in (c := 3) ejv5 (by decide) (by decide) hi hL) dL_law_1206 ?_
    refine lv_topi (fun av82 eav82 => ?_)
    obtain rfl : av6 = av82 := eav6.trans eav82.symm
    have hM0 := hM
    refine cx_srowMlo (ob := q) (a1 := av2) (a2 := av4) (a3 := av6) (rest := []) C1 hav2 hM hP hD hS hl.1 (Nat.le_of_ble_eq_true rfl) ⟨by omega, by omega⟩ dL_law_1207 (fun an83 w84  H locs hq2 hM hP hD hS => ?_)
    have hP := P_perm (List.perm_append_comm_assoc w84 w76 tl) hP
    have hD := D_perm (List.perm_append_comm_assoc w84 w76 tl) hD
    refine lv_pop hx hb dL_law_1210 rfl ?_
    refine lv_goto (tgt := 1350) hx hb dL_law_1211 (by decide) ?_
    exact K _ _ _ _ ⟨w76, w84, tl, ts, fl0, wi0, sz0, fl1, wi1, sz1, fl2, wi2, sz2, fl3, wi3, sz3, tp, rf, rp, nb0, nb1, nb2, nb3, g, xd, f, ta, fm, fw, fh, tq, fk, fp, ww, wv, nm, g0, g1, g2, xd0, xd1, xd2, hB, hM, hI, ⟨r0, r1, r2, r3, r4, i0, i1, i2, ttp, ttf, ttq, ttg, tte0, tte1, tte2, ttn0, ttn1, ttn2, ttn3, ttx, ttx0, ttx1, ttx2⟩, hP, hD, hS, hl, by omega, by omega⟩
  · have hav2 := h9
    refine cx_srowhi (ob := x) (a1 := av2) (a2 := av4) (a3 := av6) (rest := []) C1 hav2 hB hP hD hS hl.1 (Nat.le_of_ble_eq_true rfl) ⟨by omega, by omega⟩ dL_law_1187 (fun an85 w86  H locs hq hB hP hD hS => ?_)
    have hP := P_perm (List.perm_append_comm_assoc w86 wm tl) hP
    have hD := D_perm (List.perm_append_comm_assoc w86 wm tl) hD
    refine lv_pop hx hb dL_law_1190 rfl ?_
    refine lv_aload_n hx hb dL_law_1191 rfl (lv_at hl 1 rfl) ?_
    refine lv_aload_n hx hb dL_law_1192 rfl (lv_at hl 3 rfl) ?_
    refine lv_iload_n hx hb dL_law_1193 rfl (lv_at hl 0 rfl) ?_
    refine lv_iconst (v := 1) hx hb dL_law_1194 (by decide) ?_
    refine lv_iadd hx hb dL_law_1195 ?_
    refine lv_topi (fun jv87 ejv87 => ?_)
    obtain rfl : jv1 = jv87 := ejv1.trans ejv87.symm
    refine va_sld hx hb hX hbl hbA hS (sl_in (c := 1) ejv1 (by decide) (by decide) hi hL) dL_law_1196 ?_
    refine lv_topi (fun av88 eav88 => ?_)
    obtain rfl : av2 = av88 := eav2.trans eav88.symm
    refine lv_aload_n hx hb dL_law_1197 rfl (lv_at hl 3 rfl) ?_
    refine lv_iload_n hx hb dL_law_1198 rfl (lv_at hl 0 rfl) ?_
    refine lv_iconst (v := 2) hx hb dL_law_1199 (by decide) ?_
    refine lv_iadd hx hb dL_law_1200 ?_
    refine lv_topi (fun jv89 ejv89 => ?_)
    obtain rfl : jv3 = jv89 := ejv3.trans ejv89.symm
    refine va_sld hx hb hX hbl hbA hS (sl_in (c := 2) ejv3 (by decide) (by decide) hi hL) dL_law_1201 ?_
    refine lv_topi (fun av90 eav90 => ?_)
    obtain rfl : av4 = av90 := eav4.trans eav90.symm
    refine lv_aload_n hx hb dL_law_1202 rfl (lv_at hl 3 rfl) ?_
    refine lv_iload_n hx hb dL_law_1203 rfl (lv_at hl 0 rfl) ?_
    refine lv_iconst (v := 3) hx hb dL_law_1204 (by decide) ?_
    refine lv_iadd hx hb dL_law_1205 ?_
    refine lv_topi (fun jv91 ejv91 => ?_)
    obtain rfl : jv5 = jv91 := ejv5.trans ejv91.symm
    refine va_sld hx hb hX hbl hbA hS (sl_in (c := 3) ejv5 (by decide) (by decide) hi hL) dL_law_1206 ?_
    refine lv_topi (fun av92 eav92 => ?_)
    obtain rfl : av6 = av92 := eav6.trans eav92.symm
    have hM0 := hM
    refine cx_srowMhi (ob := q) (a1 := av2) (a2 := av4) (a3 := av6) (rest := []) C1 hav2 hM hP hD hS hl.1 (Nat.le_of_ble_eq_true rfl) ⟨by omega, by omega⟩ dL_law_1207 (fun an93 w94  H locs hq2 hM hP hD hS => ?_)
    have hP := P_perm (List.perm_append_comm_assoc w94 w86 tl) hP
    have hD := D_perm (List.perm_append_comm_assoc w94 w86 tl) hD
    refine lv_pop hx hb dL_law_1210 rfl ?_
    refine lv_goto (tgt := 1350) hx hb dL_law_1211 (by decide) ?_
    exact K _ _ _ _ ⟨w86, w94, tl, ts, fl0, wi0, sz0, fl1, wi1, sz1, fl2, wi2, sz2, fl3, wi3, sz3, tp, rf, rp, nb0, nb1, nb2, nb3, g, xd, f, ta, fm, fw, fh, tq, fk, fp, ww, wv, nm, g0, g1, g2, xd0, xd1, xd2, hB, hM, hI, ⟨r0, r1, r2, r3, r4, i0, i1, i2, ttp, ttf, ttq, ttg, tte0, tte1, tte2, ttn0, ttn1, ttn2, ttn3, ttx, ttx0, ttx1, ttx2⟩, hP, hD, hS, hl, by omega, by omega⟩

set_option maxHeartbeats 4000000 in
set_option maxRecDepth 100000 in
theorem law_34 {p : Program} {e : Env} {s : State} {m : MethodId} {below : List Frame} {meth : Method} {c : Code} {l : Launch} {b L : Nat} {xs : Nat → Int32} {A : Nat → Prop} {G : va_G} {y : Nat → ClassId} {aK aV : Nat → Nat} {H : Heap} {locs : List Loc} {cells slots : Nat} {ls : Array Slot} {Q : State → Prop} (C0 : lawC p s m meth c b L xs A G y aK aV) {x q : Nat} {i : Int32} (hi : 0 ≤ i.toInt ∧ i.toInt + 6 ≤ (L : Int)) (I : LI s b A G y x q i H locs ls cells slots) (K : ∀ H1 locs1 cells1 slots1, LI s b A G y x q i H1 locs1 ls cells1 slots1 → W p l e room_1 s m #[Value.ref b] below meth c H1 locs1 cells1 slots1 Q (F0 m 1350 ls [])) : W p l e room_1 s m #[Value.ref b] below meth c H locs cells slots Q (F0 m 1214 ls []) := by
  have C1 := C0
  obtain ⟨hx, hb, hr, hml, hown, hw0, hX, hbl, hbA, hA, hAf, hlocks, hK, hE, hL⟩ := C0
  obtain ⟨w, wm, tl, ts, fl0, wi0, sz0, fl1, wi1, sz1, fl2, wi2, sz2, fl3, wi3, sz3, tp, rf, rp, nb0, nb1, nb2, nb3, g, xd, f, ta, fm, fw, fh, tq, fk, fp, ww, wv, nm, g0, g1, g2, xd0, xd1, xd2, hB, hM, hI, hR, hP, hD, hS, hl, hc1, hc2⟩ := I
  obtain ⟨r0, r1, r2, r3, r4, i0, i1, i2, ttp, ttf, ttq, ttg, tte0, tte1, tte2, ttn0, ttn1, ttn2, ttn3, ttx, ttx0, ttx1, ttx2⟩ := hR
  refine lv_aload_n hx hb dL_law_1214 rfl (lv_at hl 2 rfl) ?_
  refine lv_aload_n hx hb dL_law_1215 rfl (lv_at hl 3 rfl) ?_
  refine lv_iload_n hx hb dL_law_1216 rfl (lv_at hl 0 rfl) ?_
  refine lv_iconst (v := 1) hx hb dL_law_1217 (by decide) ?_
  refine lv_iadd hx hb dL_law_1218 ?_
  refine lv_topi (fun jv1 ejv1 => ?_)
  refine va_sld hx hb hX hbl hbA hS (sl_in (c := 1) ejv1 (by decide) (by decide) hi hL) dL_law_1219 ?_
  refine lv_topi (fun av2 eav2 => ?_)
  refine lv_aload_n hx hb dL_law_1220 rfl (lv_at hl 3 rfl) ?_
  refine lv_iload_n hx hb dL_law_1221 rfl (lv_at hl 0 rfl) ?_
  refine lv_iconst (v := 2) hx hb dL_law_1222 (by decide) ?_
  refine lv_iadd hx hb dL_law_1223 ?_
  refine lv_topi (fun jv3 ejv3 => ?_)
  refine va_sld hx hb hX hbl hbA hS (sl_in (c := 2) ejv3 (by decide) (by decide) hi hL) dL_law_1224 ?_
  refine lv_topi (fun av4 eav4 => ?_)
  refine lv_aload_n hx hb dL_law_1225 rfl (lv_at hl 3 rfl) ?_
  refine lv_iload_n hx hb dL_law_1226 rfl (lv_at hl 0 rfl) ?_
  refine lv_iconst (v := 3) hx hb dL_law_1227 (by decide) ?_
  refine lv_iadd hx hb dL_law_1228 ?_
  refine lv_topi (fun jv5 ejv5 => ?_)
  refine va_sld hx hb hX hbl hbA hS (sl_in (c := 3) ejv5 (by decide) (by decide) hi hL) dL_law_1229 ?_
  refine lv_topi (fun av6 eav6 => ?_)
  refine lv_i2l hx hb dL_law_1230 rfl ?_
  refine lv_bipush (v := 32) hx hb dL_law_1231 (by decide) ?_
  refine lv_lshl hx hb dL_law_1233 rfl ?_
  refine lv_topl (fun lv7 elv7 => ?_)
  refine lv_aload_n hx hb dL_law_1234 rfl (lv_at hl 3 rfl) ?_
  refine lv_iload_n hx hb dL_law_1235 rfl (lv_at hl 0 rfl) ?_
  refine lv_iconst (v := 4) hx hb dL_law_1236 (by decide) ?_
  refine lv_iadd hx hb dL_law_1237 ?_
  refine lv_topi (fun jv8 ejv8 => ?_)
  refine va_sld hx hb hX hbl hbA hS (sl_in (c := 4) ejv8 (by decide) (by decide) hi hL) dL_law_1238 ?_
  refine lv_topi (fun av9 eav9 => ?_)
  refine lv_i2l hx hb dL_law_1239 rfl ?_
  refine lv_ldc2 (own := RL) (v := 4294967295) hx hb hown (hw0 _ m_248) dL_law_1240 ?_
  refine lv_land hx hb dL_law_1243 ?_
  refine lv_topl (fun lv10 elv10 => ?_)
  refine lv_lor hx hb dL_law_1244 ?_
  refine lv_topl (fun lv11 elv11 => ?_)
  rcases so_cases av2 with h9 | h9 | h9 | h9 | h9 | h9
  · obtain rfl : 0 = av2 := h9.symm
    refine cx_fwrite0 (ob := x) (a2 := av4) (a3 := lv11) (rest := []) C1  hB hP hD hS hl.1 (Nat.le_of_ble_eq_true rfl) ⟨by omega, by omega⟩ dL_law_1245 (fun an12 w13 wi0_14 nb0_15 H locs hq hB hP hD hS => ?_)
    have hP := P_perm (List.perm_append_comm_assoc w13 wm tl) hP
    have hD := D_perm (List.perm_append_comm_assoc w13 wm tl) hD
    refine lv_pop hx hb dL_law_1248 rfl ?_
    refine lv_aload_n hx hb dL_law_1249 rfl (lv_at hl 1 rfl) ?_
    refine lv_aload_n hx hb dL_law_1250 rfl (lv_at hl 3 rfl) ?_
    refine lv_iload_n hx hb dL_law_1251 rfl (lv_at hl 0 rfl) ?_
    refine lv_iconst (v := 1) hx hb dL_law_1252 (by decide) ?_
    refine lv_iadd hx hb dL_law_1253 ?_
    refine lv_topi (fun jv16 ejv16 => ?_)
    obtain rfl : jv1 = jv16 := ejv1.trans ejv16.symm
    refine va_sld hx hb hX hbl hbA hS (sl_in (c := 1) ejv1 (by decide) (by decide) hi hL) dL_law_1254 ?_
    refine lv_topi (fun av17 eav17 => ?_)
    obtain rfl : 0 = av17 := eav2.trans eav17.symm
    refine lv_aload_n hx hb dL_law_1255 rfl (lv_at hl 3 rfl) ?_
    refine lv_iload_n hx hb dL_law_1256 rfl (lv_at hl 0 rfl) ?_
    refine lv_iconst (v := 2) hx hb dL_law_1257 (by decide) ?_
    refine lv_iadd hx hb dL_law_1258 ?_
    refine lv_topi (fun jv18 ejv18 => ?_)
    obtain rfl : jv3 = jv18 := ejv3.trans ejv18.symm
    refine va_sld hx hb hX hbl hbA hS (sl_in (c := 2) ejv3 (by decide) (by decide) hi hL) dL_law_1259 ?_
    refine lv_topi (fun av19 eav19 => ?_)
    obtain rfl : av4 = av19 := eav4.trans eav19.symm
    refine lv_aload_n hx hb dL_law_1260 rfl (lv_at hl 3 rfl) ?_
    refine lv_iload_n hx hb dL_law_1261 rfl (lv_at hl 0 rfl) ?_
    refine lv_iconst (v := 3) hx hb dL_law_1262 (by decide) ?_
    refine lv_iadd hx hb dL_law_1263 ?_
    refine lv_topi (fun jv20 ejv20 => ?_)
    obtain rfl : jv5 = jv20 := ejv5.trans ejv20.symm
    refine va_sld hx hb hX hbl hbA hS (sl_in (c := 3) ejv5 (by decide) (by decide) hi hL) dL_law_1264 ?_
    refine lv_topi (fun av21 eav21 => ?_)
    obtain rfl : av6 = av21 := eav6.trans eav21.symm
    refine lv_i2l hx hb dL_law_1265 rfl ?_
    refine lv_bipush (v := 32) hx hb dL_law_1266 (by decide) ?_
    refine lv_lshl hx hb dL_law_1268 rfl ?_
    refine lv_topl (fun lv22 elv22 => ?_)
    obtain rfl : lv7 = lv22 := elv7.trans elv22.symm
    refine lv_aload_n hx hb dL_law_1269 rfl (lv_at hl 3 rfl) ?_
    refine lv_iload_n hx hb dL_law_1270 rfl (lv_at hl 0 rfl) ?_
    refine lv_iconst (v := 4) hx hb dL_law_1271 (by decide) ?_
    refine lv_iadd hx hb dL_law_1272 ?_
    refine lv_topi (fun jv23 ejv23 => ?_)
    obtain rfl : jv8 = jv23 := ejv8.trans ejv23.symm
    refine va_sld hx hb hX hbl hbA hS (sl_in (c := 4) ejv8 (by decide) (by decide) hi hL) dL_law_1273 ?_
    refine lv_topi (fun av24 eav24 => ?_)
    obtain rfl : av9 = av24 := eav9.trans eav24.symm
    refine lv_i2l hx hb dL_law_1274 rfl ?_
    refine lv_ldc2 (own := RL) (v := 4294967295) hx hb hown (hw0 _ m_248) dL_law_1275 ?_
    refine lv_land hx hb dL_law_1278 ?_
    refine lv_topl (fun lv25 elv25 => ?_)
    obtain rfl : lv10 = lv25 := elv10.trans elv25.symm
    refine lv_lor hx hb dL_law_1279 ?_
    refine lv_topl (fun lv26 elv26 => ?_)
    obtain rfl : lv11 = lv26 := elv11.trans elv26.symm
    have hM0 := hM
    refine cx_fwriteM0 (ob := q) (a2 := av4) (a3 := lv11) (rest := []) C1  hM hP hD hS hl.1 (Nat.le_of_ble_eq_true rfl) ⟨by omega, by omega⟩ dL_law_1280 (fun an27 w28 nm_29 H locs hq2 hM hP hD hS => ?_)
    have hP := P_perm (List.perm_append_comm_assoc w28 w13 tl) hP
    have hD := D_perm (List.perm_append_comm_assoc w28 w13 tl) hD
    refine lv_pop hx hb dL_law_1283 rfl ?_
    refine lv_goto (tgt := 1350) hx hb dL_law_1284 (by decide) ?_
    have u1 : Int32.toInt 1 = 1 := by decide
    unfold sR at r1 r2 r3 r4
    have hm09 := BM_n hM0 0
    have hm19 := BM_n hM0 1
    have hm29 := BM_n hM0 2
    have hm39 := BM_n hM0 3
    rcases hq with hq | hq | hq
    · skip
      obtain ⟨rfl, rfl, rfl, hz⟩ := hq
      rcases hq2 with hq2 | hq2 | hq2
      · skip
        obtain ⟨rfl, rfl, hy⟩ := hq2
        exact K _ _ _ _ ⟨w13, w28, tl, _, _, _, _, _, _, _, _, _, _, _, _, _, _, _, _, _, _, _, _, _, _, _, _, _, _, _, _, _, _, _, _, _, g0, g1, g2, xd0, xd1, xd2, (by assumption), (by assumption), hI, ⟨r0, (by unfold sR; omega), r2, r3, r4, i0, i1, i2, ttp, ttf, ttq, ttg, tte0, tte1, tte2, ttn0, ttn1, ttn2, ttn3, ttx, ttx0, ttx1, ttx2⟩, hP, hD, hS, hl, by omega, by omega⟩
      · skip
        obtain ⟨rfl, rfl, hy⟩ := hq2
        exfalso
        omega
      · skip
        obtain ⟨rfl, hy⟩ := hq2
        exfalso
        omega
    · skip
      obtain ⟨rfl, rfl, rfl, hz⟩ := hq
      rcases hq2 with hq2 | hq2 | hq2
      · skip
        obtain ⟨rfl, rfl, hy⟩ := hq2
        exfalso
        omega
      · skip
        obtain ⟨rfl, rfl, hy⟩ := hq2
        exact K _ _ _ _ ⟨w13, w28, tl, _, _, _, _, _, _, _, _, _, _, _, _, _, _, _, _, _, _, _, _, _, _, _, _, _, _, _, _, _, _, _, _, _, g0, g1, g2, xd0, xd1, xd2, (by assumption), (by assumption), hI, ⟨r0, (by unfold sR; omega), r2, r3, r4, i0, i1, i2, ttp, ttf, ttq, ttg, tte0, tte1, tte2, ttn0, ttn1, ttn2, ttn3, ttx, ttx0, ttx1, ttx2⟩, hP, hD, hS, hl, by omega, by omega⟩
      · skip
        obtain ⟨rfl, hy⟩ := hq2
        exfalso
        omega
    · skip
      obtain ⟨rfl, hz⟩ := hq
      rcases hq2 with hq2 | hq2 | hq2
      · skip
        obtain ⟨rfl, rfl, hy⟩ := hq2
        exfalso
        omega
      · skip
        obtain ⟨rfl, rfl, hy⟩ := hq2
        exfalso
        omega
      · skip
        obtain ⟨rfl, hy⟩ := hq2
        exact K _ _ _ _ ⟨w13, w28, tl, _, _, _, _, _, _, _, _, _, _, _, _, _, _, _, _, _, _, _, _, _, _, _, _, _, _, _, _, _, _, _, _, _, g0, g1, g2, xd0, xd1, xd2, (by assumption), (by assumption), hI, ⟨r0, (by unfold sR; omega), r2, r3, r4, i0, i1, i2, ttp, ttf, ttq, ttg, tte0, tte1, tte2, (nt_wr ttn0 (hz.1) (hy.2.1) (congrArg (fun q => qcut q _) (Int32.toInt_inj.mp (by omega)))), (nt_wrO ttn1 (hy.2.1) (by omega) (by decide)), (nt_wrO ttn2 (hy.2.1) (by omega) (by decide)), (nt_wrO ttn3 (hy.2.1) (by omega) (by decide)), ttx, ttx0, ttx1, ttx2⟩, hP, hD, hS, hl, by omega, by omega⟩
  · obtain rfl : 1 = av2 := h9.symm
    refine cx_fwrite1 (ob := x) (a2 := av4) (a3 := lv11) (rest := []) C1  hB hP hD hS hl.1 (Nat.le_of_ble_eq_true rfl) ⟨by omega, by omega⟩ dL_law_1245 (fun an30 w31 wi1_32 nb1_33 H locs hq hB hP hD hS => ?_)
    have hP := P_perm (List.perm_append_comm_assoc w31 wm tl) hP
    have hD := D_perm (List.perm_append_comm_assoc w31 wm tl) hD
    refine lv_pop hx hb dL_law_1248 rfl ?_
    refine lv_aload_n hx hb dL_law_1249 rfl (lv_at hl 1 rfl) ?_
    refine lv_aload_n hx hb dL_law_1250 rfl (lv_at hl 3 rfl) ?_
    refine lv_iload_n hx hb dL_law_1251 rfl (lv_at hl 0 rfl) ?_
    refine lv_iconst (v := 1) hx hb dL_law_1252 (by decide) ?_
    refine lv_iadd hx hb dL_law_1253 ?_
    refine lv_topi (fun jv34 ejv34 => ?_)
    obtain rfl : jv1 = jv34 := ejv1.trans ejv34.symm
    refine va_sld hx hb hX hbl hbA hS (sl_in (c := 1) ejv1 (by decide) (by decide) hi hL) dL_law_1254 ?_
    refine lv_topi (fun av35 eav35 => ?_)
    obtain rfl : 1 = av35 := eav2.trans eav35.symm
    refine lv_aload_n hx hb dL_law_1255 rfl (lv_at hl 3 rfl) ?_
    refine lv_iload_n hx hb dL_law_1256 rfl (lv_at hl 0 rfl) ?_
    refine lv_iconst (v := 2) hx hb dL_law_1257 (by decide) ?_
    refine lv_iadd hx hb dL_law_1258 ?_
    refine lv_topi (fun jv36 ejv36 => ?_)
    obtain rfl : jv3 = jv36 := ejv3.trans ejv36.symm
    refine va_sld hx hb hX hbl hbA hS (sl_in (c := 2) ejv3 (by decide) (by decide) hi hL) dL_law_1259 ?_
    refine lv_topi (fun av37 eav37 => ?_)
    obtain rfl : av4 = av37 := eav4.trans eav37.symm
    refine lv_aload_n hx hb dL_law_1260 rfl (lv_at hl 3 rfl) ?_
    refine lv_iload_n hx hb dL_law_1261 rfl (lv_at hl 0 rfl) ?_
    refine lv_iconst (v := 3) hx hb dL_law_1262 (by decide) ?_
    refine lv_iadd hx hb dL_law_1263 ?_
    refine lv_topi (fun jv38 ejv38 => ?_)
    obtain rfl : jv5 = jv38 := ejv5.trans ejv38.symm
    refine va_sld hx hb hX hbl hbA hS (sl_in (c := 3) ejv5 (by decide) (by decide) hi hL) dL_law_1264 ?_
    refine lv_topi (fun av39 eav39 => ?_)
    obtain rfl : av6 = av39 := eav6.trans eav39.symm
    refine lv_i2l hx hb dL_law_1265 rfl ?_
    refine lv_bipush (v := 32) hx hb dL_law_1266 (by decide) ?_
    refine lv_lshl hx hb dL_law_1268 rfl ?_
    refine lv_topl (fun lv40 elv40 => ?_)
    obtain rfl : lv7 = lv40 := elv7.trans elv40.symm
    refine lv_aload_n hx hb dL_law_1269 rfl (lv_at hl 3 rfl) ?_
    refine lv_iload_n hx hb dL_law_1270 rfl (lv_at hl 0 rfl) ?_
    refine lv_iconst (v := 4) hx hb dL_law_1271 (by decide) ?_
    refine lv_iadd hx hb dL_law_1272 ?_
    refine lv_topi (fun jv41 ejv41 => ?_)
    obtain rfl : jv8 = jv41 := ejv8.trans ejv41.symm
    refine va_sld hx hb hX hbl hbA hS (sl_in (c := 4) ejv8 (by decide) (by decide) hi hL) dL_law_1273 ?_
    refine lv_topi (fun av42 eav42 => ?_)
    obtain rfl : av9 = av42 := eav9.trans eav42.symm
    refine lv_i2l hx hb dL_law_1274 rfl ?_
    refine lv_ldc2 (own := RL) (v := 4294967295) hx hb hown (hw0 _ m_248) dL_law_1275 ?_
    refine lv_land hx hb dL_law_1278 ?_
    refine lv_topl (fun lv43 elv43 => ?_)
    obtain rfl : lv10 = lv43 := elv10.trans elv43.symm
    refine lv_lor hx hb dL_law_1279 ?_
    refine lv_topl (fun lv44 elv44 => ?_)
    obtain rfl : lv11 = lv44 := elv11.trans elv44.symm
    have hM0 := hM
    refine cx_fwriteM1 (ob := q) (a2 := av4) (a3 := lv11) (rest := []) C1  hM hP hD hS hl.1 (Nat.le_of_ble_eq_true rfl) ⟨by omega, by omega⟩ dL_law_1280 (fun an45 w46 nm_47 H locs hq2 hM hP hD hS => ?_)
    have hP := P_perm (List.perm_append_comm_assoc w46 w31 tl) hP
    have hD := D_perm (List.perm_append_comm_assoc w46 w31 tl) hD
    refine lv_pop hx hb dL_law_1283 rfl ?_
    refine lv_goto (tgt := 1350) hx hb dL_law_1284 (by decide) ?_
    have u1 : Int32.toInt 1 = 1 := by decide
    unfold sR at r1 r2 r3 r4
    have hm09 := BM_n hM0 0
    have hm19 := BM_n hM0 1
    have hm29 := BM_n hM0 2
    have hm39 := BM_n hM0 3
    rcases hq with hq | hq | hq
    · skip
      obtain ⟨rfl, rfl, rfl, hz⟩ := hq
      rcases hq2 with hq2 | hq2 | hq2
      · skip
        obtain ⟨rfl, rfl, hy⟩ := hq2
        exact K _ _ _ _ ⟨w31, w46, tl, _, _, _, _, _, _, _, _, _, _, _, _, _, _, _, _, _, _, _, _, _, _, _, _, _, _, _, _, _, _, _, _, _, g0, g1, g2, xd0, xd1, xd2, (by assumption), (by assumption), hI, ⟨r0, r1, (by unfold sR; omega), r3, r4, i0, i1, i2, ttp, ttf, ttq, ttg, tte0, tte1, tte2, ttn0, ttn1, ttn2, ttn3, ttx, ttx0, ttx1, ttx2⟩, hP, hD, hS, hl, by omega, by omega⟩
      · skip
        obtain ⟨rfl, rfl, hy⟩ := hq2
        exfalso
        omega
      · skip
        obtain ⟨rfl, hy⟩ := hq2
        exfalso
        omega
    · skip
      obtain ⟨rfl, rfl, rfl, hz⟩ := hq
      rcases hq2 with hq2 | hq2 | hq2
      · skip
        obtain ⟨rfl, rfl, hy⟩ := hq2
        exfalso
        omega
      · skip
        obtain ⟨rfl, rfl, hy⟩ := hq2
        exact K _ _ _ _ ⟨w31, w46, tl, _, _, _, _, _, _, _, _, _, _, _, _, _, _, _, _, _, _, _, _, _, _, _, _, _, _, _, _, _, _, _, _, _, g0, g1, g2, xd0, xd1, xd2, (by assumption), (by assumption), hI, ⟨r0, r1, (by unfold sR; omega), r3, r4, i0, i1, i2, ttp, ttf, ttq, ttg, tte0, tte1, tte2, ttn0, ttn1, ttn2, ttn3, ttx, ttx0, ttx1, ttx2⟩, hP, hD, hS, hl, by omega, by omega⟩
      · skip
        obtain ⟨rfl, hy⟩ := hq2
        exfalso
        omega
    · skip
      obtain ⟨rfl, hz⟩ := hq
      rcases hq2 with hq2 | hq2 | hq2
      · skip
        obtain ⟨rfl, rfl, hy⟩ := hq2
        exfalso
        omega
      · skip
        obtain ⟨rfl, rfl, hy⟩ := hq2
        exfalso
        omega
      · skip
        obtain ⟨rfl, hy⟩ := hq2
        exact K _ _ _ _ ⟨w31, w46, tl, _, _, _, _, _, _, _, _, _, _, _, _, _, _, _, _, _, _, _, _, _, _, _, _, _, _, _, _, _, _, _, _, _, g0, g1, g2, xd0, xd1, xd2, (by assumption), (by assumption), hI, ⟨r0, r1, (by unfold sR; omega), r3, r4, i0, i1, i2, ttp, ttf, ttq, ttg, tte0, tte1, tte2, (nt_wrO ttn0 (hy.2.1) (by omega) (by decide)), (nt_wr ttn1 (hz.1) (hy.2.1) (congrArg (fun q => qcut q _) (Int32.toInt_inj.mp (by omega)))), (nt_wrO ttn2 (hy.2.1) (by omega) (by decide)), (nt_wrO ttn3 (hy.2.1) (by omega) (by decide)), ttx, ttx0, ttx1, ttx2⟩, hP, hD, hS, hl, by omega, by omega⟩
  · obtain rfl : 2 = av2 := h9.symm
    refine cx_fwrite2 (ob := x) (a2 := av4) (a3 := lv11) (rest := []) C1  hB hP hD hS hl.1 (Nat.le_of_ble_eq_true rfl) ⟨by omega, by omega⟩ dL_law_1245 (fun an48 w49 wi2_50 nb2_51 H locs hq hB hP hD hS => ?_)
    have hP := P_perm (List.perm_append_comm_assoc w49 wm tl) hP
    have hD := D_perm (List.perm_append_comm_assoc w49 wm tl) hD
    refine lv_pop hx hb dL_law_1248 rfl ?_
    refine lv_aload_n hx hb dL_law_1249 rfl (lv_at hl 1 rfl) ?_
    refine lv_aload_n hx hb dL_law_1250 rfl (lv_at hl 3 rfl) ?_
    refine lv_iload_n hx hb dL_law_1251 rfl (lv_at hl 0 rfl) ?_
    refine lv_iconst (v := 1) hx hb dL_law_1252 (by decide) ?_
    refine lv_iadd hx hb dL_law_1253 ?_
    refine lv_topi (fun jv52 ejv52 => ?_)
    obtain rfl : jv1 = jv52 := ejv1.trans ejv52.symm
    refine va_sld hx hb hX hbl hbA hS (sl_in (c := 1) ejv1 (by decide) (by decide) hi hL) dL_law_1254 ?_
    refine lv_topi (fun av53 eav53 => ?_)
    obtain rfl : 2 = av53 := eav2.trans eav53.symm
    refine lv_aload_n hx hb dL_law_1255 rfl (lv_at hl 3 rfl) ?_
    refine lv_iload_n hx hb dL_law_1256 rfl (lv_at hl 0 rfl) ?_
    refine lv_iconst (v := 2) hx hb dL_law_1257 (by decide) ?_
    refine lv_iadd hx hb dL_law_1258 ?_
    refine lv_topi (fun jv54 ejv54 => ?_)
    obtain rfl : jv3 = jv54 := ejv3.trans ejv54.symm
    refine va_sld hx hb hX hbl hbA hS (sl_in (c := 2) ejv3 (by decide) (by decide) hi hL) dL_law_1259 ?_
    refine lv_topi (fun av55 eav55 => ?_)
    obtain rfl : av4 = av55 := eav4.trans eav55.symm
    refine lv_aload_n hx hb dL_law_1260 rfl (lv_at hl 3 rfl) ?_
    refine lv_iload_n hx hb dL_law_1261 rfl (lv_at hl 0 rfl) ?_
    refine lv_iconst (v := 3) hx hb dL_law_1262 (by decide) ?_
    refine lv_iadd hx hb dL_law_1263 ?_
    refine lv_topi (fun jv56 ejv56 => ?_)
    obtain rfl : jv5 = jv56 := ejv5.trans ejv56.symm
    refine va_sld hx hb hX hbl hbA hS (sl_in (c := 3) ejv5 (by decide) (by decide) hi hL) dL_law_1264 ?_
    refine lv_topi (fun av57 eav57 => ?_)
    obtain rfl : av6 = av57 := eav6.trans eav57.symm
    refine lv_i2l hx hb dL_law_1265 rfl ?_
    refine lv_bipush (v := 32) hx hb dL_law_1266 (by decide) ?_
    refine lv_lshl hx hb dL_law_1268 rfl ?_
    refine lv_topl (fun lv58 elv58 => ?_)
    obtain rfl : lv7 = lv58 := elv7.trans elv58.symm
    refine lv_aload_n hx hb dL_law_1269 rfl (lv_at hl 3 rfl) ?_
    refine lv_iload_n hx hb dL_law_1270 rfl (lv_at hl 0 rfl) ?_
    refine lv_iconst (v := 4) hx hb dL_law_1271 (by decide) ?_
    refine lv_iadd hx hb dL_law_1272 ?_
    refine lv_topi (fun jv59 ejv59 => ?_)
    obtain rfl : jv8 = jv59 := ejv8.trans ejv59.symm
    refine va_sld hx hb hX hbl hbA hS (sl_in (c := 4) ejv8 (by decide) (by decide) hi hL) dL_law_1273 ?_
    refine lv_topi (fun av60 eav60 => ?_)
    obtain rfl : av9 = av60 := eav9.trans eav60.symm
    refine lv_i2l hx hb dL_law_1274 rfl ?_
    refine lv_ldc2 (own := RL) (v := 4294967295) hx hb hown (hw0 _ m_248) dL_law_1275 ?_
    refine lv_land hx hb dL_law_1278 ?_
    refine lv_topl (fun lv61 elv61 => ?_)
    obtain rfl : lv10 = lv61 := elv10.trans elv61.symm
    refine lv_lor hx hb dL_law_1279 ?_
    refine lv_topl (fun lv62 elv62 => ?_)
    obtain rfl : lv11 = lv62 := elv11.trans elv62.symm
    have hM0 := hM
    refine cx_fwriteM2 (ob := q) (a2 := av4) (a3 := lv11) (rest := []) C1  hM hP hD hS hl.1 (Nat.le_of_ble_eq_true rfl) ⟨by omega, by omega⟩ dL_law_1280 (fun an63 w64 nm_65 H locs hq2 hM hP hD hS => ?_)
    have hP := P_perm (List.perm_append_comm_assoc w64 w49 tl) hP
    have hD := D_perm (List.perm_append_comm_assoc w64 w49 tl) hD
    refine lv_pop hx hb dL_law_1283 rfl ?_
    refine lv_goto (tgt := 1350) hx hb dL_law_1284 (by decide) ?_
    have u1 : Int32.toInt 1 = 1 := by decide
    unfold sR at r1 r2 r3 r4
    have hm09 := BM_n hM0 0
    have hm19 := BM_n hM0 1
    have hm29 := BM_n hM0 2
    have hm39 := BM_n hM0 3
    rcases hq with hq | hq | hq
    · skip
      obtain ⟨rfl, rfl, rfl, hz⟩ := hq
      rcases hq2 with hq2 | hq2 | hq2
      · skip
        obtain ⟨rfl, rfl, hy⟩ := hq2
        exact K _ _ _ _ ⟨w49, w64, tl, _, _, _, _, _, _, _, _, _, _, _, _, _, _, _, _, _, _, _, _, _, _, _, _, _, _, _, _, _, _, _, _, _, g0, g1, g2, xd0, xd1, xd2, (by assumption), (by assumption), hI, ⟨r0, r1, r2, (by unfold sR; omega), r4, i0, i1, i2, ttp, ttf, ttq, ttg, tte0, tte1, tte2, ttn0, ttn1, ttn2, ttn3, ttx, ttx0, ttx1, ttx2⟩, hP, hD, hS, hl, by omega, by omega⟩
      · skip
        obtain ⟨rfl, rfl, hy⟩ := hq2
        exfalso
        omega
      · skip
        obtain ⟨rfl, hy⟩ := hq2
        exfalso
        omega
    · skip
      obtain ⟨rfl, rfl, rfl, hz⟩ := hq
      rcases hq2 with hq2 | hq2 | hq2
      · skip
        obtain ⟨rfl, rfl, hy⟩ := hq2
        exfalso
        omega
      · skip
        obtain ⟨rfl, rfl, hy⟩ := hq2
        exact K _ _ _ _ ⟨w49, w64, tl, _, _, _, _, _, _, _, _, _, _, _, _, _, _, _, _, _, _, _, _, _, _, _, _, _, _, _, _, _, _, _, _, _, g0, g1, g2, xd0, xd1, xd2, (by assumption), (by assumption), hI, ⟨r0, r1, r2, (by unfold sR; omega), r4, i0, i1, i2, ttp, ttf, ttq, ttg, tte0, tte1, tte2, ttn0, ttn1, ttn2, ttn3, ttx, ttx0, ttx1, ttx2⟩, hP, hD, hS, hl, by omega, by omega⟩
      · skip
        obtain ⟨rfl, hy⟩ := hq2
        exfalso
        omega
    · skip
      obtain ⟨rfl, hz⟩ := hq
      rcases hq2 with hq2 | hq2 | hq2
      · skip
        obtain ⟨rfl, rfl, hy⟩ := hq2
        exfalso
        omega
      · skip
        obtain ⟨rfl, rfl, hy⟩ := hq2
        exfalso
        omega
      · skip
        obtain ⟨rfl, hy⟩ := hq2
        exact K _ _ _ _ ⟨w49, w64, tl, _, _, _, _, _, _, _, _, _, _, _, _, _, _, _, _, _, _, _, _, _, _, _, _, _, _, _, _, _, _, _, _, _, g0, g1, g2, xd0, xd1, xd2, (by assumption), (by assumption), hI, ⟨r0, r1, r2, (by unfold sR; omega), r4, i0, i1, i2, ttp, ttf, ttq, ttg, tte0, tte1, tte2, (nt_wrO ttn0 (hy.2.1) (by omega) (by decide)), (nt_wrO ttn1 (hy.2.1) (by omega) (by decide)), (nt_wr ttn2 (hz.1) (hy.2.1) (congrArg (fun q => qcut q _) (Int32.toInt_inj.mp (by omega)))), (nt_wrO ttn3 (hy.2.1) (by omega) (by decide)), ttx, ttx0, ttx1, ttx2⟩, hP, hD, hS, hl, by omega, by omega⟩
  · obtain rfl : 3 = av2 := h9.symm
    refine cx_fwrite3 (ob := x) (a2 := av4) (a3 := lv11) (rest := []) C1  hB hP hD hS hl.1 (Nat.le_of_ble_eq_true rfl) ⟨by omega, by omega⟩ dL_law_1245 (fun an66 w67 wi3_68 nb3_69 H locs hq hB hP hD hS => ?_)
    have hP := P_perm (List.perm_append_comm_assoc w67 wm tl) hP
    have hD := D_perm (List.perm_append_comm_assoc w67 wm tl) hD
    refine lv_pop hx hb dL_law_1248 rfl ?_
    refine lv_aload_n hx hb dL_law_1249 rfl (lv_at hl 1 rfl) ?_
    refine lv_aload_n hx hb dL_law_1250 rfl (lv_at hl 3 rfl) ?_
    refine lv_iload_n hx hb dL_law_1251 rfl (lv_at hl 0 rfl) ?_
    refine lv_iconst (v := 1) hx hb dL_law_1252 (by decide) ?_
    refine lv_iadd hx hb dL_law_1253 ?_
    refine lv_topi (fun jv70 ejv70 => ?_)
    obtain rfl : jv1 = jv70 := ejv1.trans ejv70.symm
    refine va_sld hx hb hX hbl hbA hS (sl_in (c := 1) ejv1 (by decide) (by decide) hi hL) dL_law_1254 ?_
    refine lv_topi (fun av71 eav71 => ?_)
    obtain rfl : 3 = av71 := eav2.trans eav71.symm
    refine lv_aload_n hx hb dL_law_1255 rfl (lv_at hl 3 rfl) ?_
    refine lv_iload_n hx hb dL_law_1256 rfl (lv_at hl 0 rfl) ?_
    refine lv_iconst (v := 2) hx hb dL_law_1257 (by decide) ?_
    refine lv_iadd hx hb dL_law_1258 ?_
    refine lv_topi (fun jv72 ejv72 => ?_)
    obtain rfl : jv3 = jv72 := ejv3.trans ejv72.symm
    refine va_sld hx hb hX hbl hbA hS (sl_in (c := 2) ejv3 (by decide) (by decide) hi hL) dL_law_1259 ?_
    refine lv_topi (fun av73 eav73 => ?_)
    obtain rfl : av4 = av73 := eav4.trans eav73.symm
    refine lv_aload_n hx hb dL_law_1260 rfl (lv_at hl 3 rfl) ?_
    refine lv_iload_n hx hb dL_law_1261 rfl (lv_at hl 0 rfl) ?_
    refine lv_iconst (v := 3) hx hb dL_law_1262 (by decide) ?_
    refine lv_iadd hx hb dL_law_1263 ?_
    refine lv_topi (fun jv74 ejv74 => ?_)
    obtain rfl : jv5 = jv74 := ejv5.trans ejv74.symm
    refine va_sld hx hb hX hbl hbA hS (sl_in (c := 3) ejv5 (by decide) (by decide) hi hL) dL_law_1264 ?_
    refine lv_topi (fun av75 eav75 => ?_)
    obtain rfl : av6 = av75 := eav6.trans eav75.symm
    refine lv_i2l hx hb dL_law_1265 rfl ?_
    refine lv_bipush (v := 32) hx hb dL_law_1266 (by decide) ?_
    refine lv_lshl hx hb dL_law_1268 rfl ?_
    refine lv_topl (fun lv76 elv76 => ?_)
    obtain rfl : lv7 = lv76 := elv7.trans elv76.symm
    refine lv_aload_n hx hb dL_law_1269 rfl (lv_at hl 3 rfl) ?_
    refine lv_iload_n hx hb dL_law_1270 rfl (lv_at hl 0 rfl) ?_
    refine lv_iconst (v := 4) hx hb dL_law_1271 (by decide) ?_
    refine lv_iadd hx hb dL_law_1272 ?_
    refine lv_topi (fun jv77 ejv77 => ?_)
    obtain rfl : jv8 = jv77 := ejv8.trans ejv77.symm
    refine va_sld hx hb hX hbl hbA hS (sl_in (c := 4) ejv8 (by decide) (by decide) hi hL) dL_law_1273 ?_
    refine lv_topi (fun av78 eav78 => ?_)
    obtain rfl : av9 = av78 := eav9.trans eav78.symm
    refine lv_i2l hx hb dL_law_1274 rfl ?_
    refine lv_ldc2 (own := RL) (v := 4294967295) hx hb hown (hw0 _ m_248) dL_law_1275 ?_
    refine lv_land hx hb dL_law_1278 ?_
    refine lv_topl (fun lv79 elv79 => ?_)
    obtain rfl : lv10 = lv79 := elv10.trans elv79.symm
    refine lv_lor hx hb dL_law_1279 ?_
    refine lv_topl (fun lv80 elv80 => ?_)
    obtain rfl : lv11 = lv80 := elv11.trans elv80.symm
    have hM0 := hM
    refine cx_fwriteM3 (ob := q) (a2 := av4) (a3 := lv11) (rest := []) C1  hM hP hD hS hl.1 (Nat.le_of_ble_eq_true rfl) ⟨by omega, by omega⟩ dL_law_1280 (fun an81 w82 nm_83 H locs hq2 hM hP hD hS => ?_)
    have hP := P_perm (List.perm_append_comm_assoc w82 w67 tl) hP
    have hD := D_perm (List.perm_append_comm_assoc w82 w67 tl) hD
    refine lv_pop hx hb dL_law_1283 rfl ?_
    refine lv_goto (tgt := 1350) hx hb dL_law_1284 (by decide) ?_
    have u1 : Int32.toInt 1 = 1 := by decide
    unfold sR at r1 r2 r3 r4
    have hm09 := BM_n hM0 0
    have hm19 := BM_n hM0 1
    have hm29 := BM_n hM0 2
    have hm39 := BM_n hM0 3
    rcases hq with hq | hq | hq
    · skip
      obtain ⟨rfl, rfl, rfl, hz⟩ := hq
      rcases hq2 with hq2 | hq2 | hq2
      · skip
        obtain ⟨rfl, rfl, hy⟩ := hq2
        exact K _ _ _ _ ⟨w67, w82, tl, _, _, _, _, _, _, _, _, _, _, _, _, _, _, _, _, _, _, _, _, _, _, _, _, _, _, _, _, _, _, _, _, _, g0, g1, g2, xd0, xd1, xd2, (by assumption), (by assumption), hI, ⟨r0, r1, r2, r3, (by unfold sR; omega), i0, i1, i2, ttp, ttf, ttq, ttg, tte0, tte1, tte2, ttn0, ttn1, ttn2, ttn3, ttx, ttx0, ttx1, ttx2⟩, hP, hD, hS, hl, by omega, by omega⟩
      · skip
        obtain ⟨rfl, rfl, hy⟩ := hq2
        exfalso
        omega
      · skip
        obtain ⟨rfl, hy⟩ := hq2
        exfalso
        omega
    · skip
      obtain ⟨rfl, rfl, rfl, hz⟩ := hq
      rcases hq2 with hq2 | hq2 | hq2
      · skip
        obtain ⟨rfl, rfl, hy⟩ := hq2
        exfalso
        omega
      · skip
        obtain ⟨rfl, rfl, hy⟩ := hq2
        exact K _ _ _ _ ⟨w67, w82, tl, _, _, _, _, _, _, _, _, _, _, _, _, _, _, _, _, _, _, _, _, _, _, _, _, _, _, _, _, _, _, _, _, _, g0, g1, g2, xd0, xd1, xd2, (by assumption), (by assumption), hI, ⟨r0, r1, r2, r3, (by unfold sR; omega), i0, i1, i2, ttp, ttf, ttq, ttg, tte0, tte1, tte2, ttn0, ttn1, ttn2, ttn3, ttx, ttx0, ttx1, ttx2⟩, hP, hD, hS, hl, by omega, by omega⟩
      · skip
        obtain ⟨rfl, hy⟩ := hq2
        exfalso
        omega
    · skip
      obtain ⟨rfl, hz⟩ := hq
      rcases hq2 with hq2 | hq2 | hq2
      · skip
        obtain ⟨rfl, rfl, hy⟩ := hq2
        exfalso
        omega
      · skip
        obtain ⟨rfl, rfl, hy⟩ := hq2
        exfalso
        omega
      · skip
        obtain ⟨rfl, hy⟩ := hq2
        exact K _ _ _ _ ⟨w67, w82, tl, _, _, _, _, _, _, _, _, _, _, _, _, _, _, _, _, _, _, _, _, _, _, _, _, _, _, _, _, _, _, _, _, _, g0, g1, g2, xd0, xd1, xd2, (by assumption), (by assumption), hI, ⟨r0, r1, r2, r3, (by unfold sR; omega), i0, i1, i2, ttp, ttf, ttq, ttg, tte0, tte1, tte2, (nt_wrO ttn0 (hy.2.1) (by omega) (by decide)), (nt_wrO ttn1 (hy.2.1) (by omega) (by decide)), (nt_wrO ttn2 (hy.2.1) (by omega) (by decide)), (nt_wr ttn3 (hz.1) (hy.2.1) (congrArg (fun q => qcut q _) (Int32.toInt_inj.mp (by omega)))), ttx, ttx0, ttx1, ttx2⟩, hP, hD, hS, hl, by omega, by omega⟩
  · have hav2 := h9
    refine cx_swritelo (ob := x) (a1 := av2) (a2 := av4) (a3 := lv11) (rest := []) C1 hav2 hB hP hD hS hl.1 (Nat.le_of_ble_eq_true rfl) ⟨by omega, by omega⟩ dL_law_1245 (fun an84 w85  H locs hq hB hP hD hS => ?_)
    have hP := P_perm (List.perm_append_comm_assoc w85 wm tl) hP
    have hD := D_perm (List.perm_append_comm_assoc w85 wm tl) hD
    refine lv_pop hx hb dL_law_1248 rfl ?_
    refine lv_aload_n hx hb dL_law_1249 rfl (lv_at hl 1 rfl) ?_
    refine lv_aload_n hx hb dL_law_1250 rfl (lv_at hl 3 rfl) ?_
    refine lv_iload_n hx hb dL_law_1251 rfl (lv_at hl 0 rfl) ?_
    refine lv_iconst (v := 1) hx hb dL_law_1252 (by decide) ?_
    refine lv_iadd hx hb dL_law_1253 ?_
    refine lv_topi (fun jv86 ejv86 => ?_)
    obtain rfl : jv1 = jv86 := ejv1.trans ejv86.symm
    refine va_sld hx hb hX hbl hbA hS (sl_in (c := 1) ejv1 (by decide) (by decide) hi hL) dL_law_1254 ?_
    refine lv_topi (fun av87 eav87 => ?_)
    obtain rfl : av2 = av87 := eav2.trans eav87.symm
    refine lv_aload_n hx hb dL_law_1255 rfl (lv_at hl 3 rfl) ?_
    refine lv_iload_n hx hb dL_law_1256 rfl (lv_at hl 0 rfl) ?_
    refine lv_iconst (v := 2) hx hb dL_law_1257 (by decide) ?_
    refine lv_iadd hx hb dL_law_1258 ?_
    refine lv_topi (fun jv88 ejv88 => ?_)
    obtain rfl : jv3 = jv88 := ejv3.trans ejv88.symm
    refine va_sld hx hb hX hbl hbA hS (sl_in (c := 2) ejv3 (by decide) (by decide) hi hL) dL_law_1259 ?_
    refine lv_topi (fun av89 eav89 => ?_)
    obtain rfl : av4 = av89 := eav4.trans eav89.symm
    refine lv_aload_n hx hb dL_law_1260 rfl (lv_at hl 3 rfl) ?_
    refine lv_iload_n hx hb dL_law_1261 rfl (lv_at hl 0 rfl) ?_
    refine lv_iconst (v := 3) hx hb dL_law_1262 (by decide) ?_
    refine lv_iadd hx hb dL_law_1263 ?_
    refine lv_topi (fun jv90 ejv90 => ?_)
    obtain rfl : jv5 = jv90 := ejv5.trans ejv90.symm
    refine va_sld hx hb hX hbl hbA hS (sl_in (c := 3) ejv5 (by decide) (by decide) hi hL) dL_law_1264 ?_
    refine lv_topi (fun av91 eav91 => ?_)
    obtain rfl : av6 = av91 := eav6.trans eav91.symm
    refine lv_i2l hx hb dL_law_1265 rfl ?_
    refine lv_bipush (v := 32) hx hb dL_law_1266 (by decide) ?_
    refine lv_lshl hx hb dL_law_1268 rfl ?_
    refine lv_topl (fun lv92 elv92 => ?_)
    obtain rfl : lv7 = lv92 := elv7.trans elv92.symm
    refine lv_aload_n hx hb dL_law_1269 rfl (lv_at hl 3 rfl) ?_
    refine lv_iload_n hx hb dL_law_1270 rfl (lv_at hl 0 rfl) ?_
    refine lv_iconst (v := 4) hx hb dL_law_1271 (by decide) ?_
    refine lv_iadd hx hb dL_law_1272 ?_
    refine lv_topi (fun jv93 ejv93 => ?_)
    obtain rfl : jv8 = jv93 := ejv8.trans ejv93.symm
    refine va_sld hx hb hX hbl hbA hS (sl_in (c := 4) ejv8 (by decide) (by decide) hi hL) dL_law_1273 ?_
    refine lv_topi (fun av94 eav94 => ?_)
    obtain rfl : av9 = av94 := eav9.trans eav94.symm
    refine lv_i2l hx hb dL_law_1274 rfl ?_
    refine lv_ldc2 (own := RL) (v := 4294967295) hx hb hown (hw0 _ m_248) dL_law_1275 ?_
    refine lv_land hx hb dL_law_1278 ?_
    refine lv_topl (fun lv95 elv95 => ?_)
    obtain rfl : lv10 = lv95 := elv10.trans elv95.symm
    refine lv_lor hx hb dL_law_1279 ?_
    refine lv_topl (fun lv96 elv96 => ?_)
    obtain rfl : lv11 = lv96 := elv11.trans elv96.symm
    have hM0 := hM
    refine cx_swriteMlo (ob := q) (a1 := av2) (a2 := av4) (a3 := lv11) (rest := []) C1 hav2 hM hP hD hS hl.1 (Nat.le_of_ble_eq_true rfl) ⟨by omega, by omega⟩ dL_law_1280 (fun an97 w98  H locs hq2 hM hP hD hS => ?_)
    have hP := P_perm (List.perm_append_comm_assoc w98 w85 tl) hP
    have hD := D_perm (List.perm_append_comm_assoc w98 w85 tl) hD
    refine lv_pop hx hb dL_law_1283 rfl ?_
    refine lv_goto (tgt := 1350) hx hb dL_law_1284 (by decide) ?_
    exact K _ _ _ _ ⟨w85, w98, tl, ts, fl0, wi0, sz0, fl1, wi1, sz1, fl2, wi2, sz2, fl3, wi3, sz3, tp, rf, rp, nb0, nb1, nb2, nb3, g, xd, f, ta, fm, fw, fh, tq, fk, fp, ww, wv, nm, g0, g1, g2, xd0, xd1, xd2, hB, hM, hI, ⟨r0, r1, r2, r3, r4, i0, i1, i2, ttp, ttf, ttq, ttg, tte0, tte1, tte2, ttn0, ttn1, ttn2, ttn3, ttx, ttx0, ttx1, ttx2⟩, hP, hD, hS, hl, by omega, by omega⟩
  · have hav2 := h9
    refine cx_swritehi (ob := x) (a1 := av2) (a2 := av4) (a3 := lv11) (rest := []) C1 hav2 hB hP hD hS hl.1 (Nat.le_of_ble_eq_true rfl) ⟨by omega, by omega⟩ dL_law_1245 (fun an99 w100  H locs hq hB hP hD hS => ?_)
    have hP := P_perm (List.perm_append_comm_assoc w100 wm tl) hP
    have hD := D_perm (List.perm_append_comm_assoc w100 wm tl) hD
    refine lv_pop hx hb dL_law_1248 rfl ?_
    refine lv_aload_n hx hb dL_law_1249 rfl (lv_at hl 1 rfl) ?_
    refine lv_aload_n hx hb dL_law_1250 rfl (lv_at hl 3 rfl) ?_
    refine lv_iload_n hx hb dL_law_1251 rfl (lv_at hl 0 rfl) ?_
    refine lv_iconst (v := 1) hx hb dL_law_1252 (by decide) ?_
    refine lv_iadd hx hb dL_law_1253 ?_
    refine lv_topi (fun jv101 ejv101 => ?_)
    obtain rfl : jv1 = jv101 := ejv1.trans ejv101.symm
    refine va_sld hx hb hX hbl hbA hS (sl_in (c := 1) ejv1 (by decide) (by decide) hi hL) dL_law_1254 ?_
    refine lv_topi (fun av102 eav102 => ?_)
    obtain rfl : av2 = av102 := eav2.trans eav102.symm
    refine lv_aload_n hx hb dL_law_1255 rfl (lv_at hl 3 rfl) ?_
    refine lv_iload_n hx hb dL_law_1256 rfl (lv_at hl 0 rfl) ?_
    refine lv_iconst (v := 2) hx hb dL_law_1257 (by decide) ?_
    refine lv_iadd hx hb dL_law_1258 ?_
    refine lv_topi (fun jv103 ejv103 => ?_)
    obtain rfl : jv3 = jv103 := ejv3.trans ejv103.symm
    refine va_sld hx hb hX hbl hbA hS (sl_in (c := 2) ejv3 (by decide) (by decide) hi hL) dL_law_1259 ?_
    refine lv_topi (fun av104 eav104 => ?_)
    obtain rfl : av4 = av104 := eav4.trans eav104.symm
    refine lv_aload_n hx hb dL_law_1260 rfl (lv_at hl 3 rfl) ?_
    refine lv_iload_n hx hb dL_law_1261 rfl (lv_at hl 0 rfl) ?_
    refine lv_iconst (v := 3) hx hb dL_law_1262 (by decide) ?_
    refine lv_iadd hx hb dL_law_1263 ?_
    refine lv_topi (fun jv105 ejv105 => ?_)
    obtain rfl : jv5 = jv105 := ejv5.trans ejv105.symm
    refine va_sld hx hb hX hbl hbA hS (sl_in (c := 3) ejv5 (by decide) (by decide) hi hL) dL_law_1264 ?_
    refine lv_topi (fun av106 eav106 => ?_)
    obtain rfl : av6 = av106 := eav6.trans eav106.symm
    refine lv_i2l hx hb dL_law_1265 rfl ?_
    refine lv_bipush (v := 32) hx hb dL_law_1266 (by decide) ?_
    refine lv_lshl hx hb dL_law_1268 rfl ?_
    refine lv_topl (fun lv107 elv107 => ?_)
    obtain rfl : lv7 = lv107 := elv7.trans elv107.symm
    refine lv_aload_n hx hb dL_law_1269 rfl (lv_at hl 3 rfl) ?_
    refine lv_iload_n hx hb dL_law_1270 rfl (lv_at hl 0 rfl) ?_
    refine lv_iconst (v := 4) hx hb dL_law_1271 (by decide) ?_
    refine lv_iadd hx hb dL_law_1272 ?_
    refine lv_topi (fun jv108 ejv108 => ?_)
    obtain rfl : jv8 = jv108 := ejv8.trans ejv108.symm
    refine va_sld hx hb hX hbl hbA hS (sl_in (c := 4) ejv8 (by decide) (by decide) hi hL) dL_law_1273 ?_
    refine lv_topi (fun av109 eav109 => ?_)
    obtain rfl : av9 = av109 := eav9.trans eav109.symm
    refine lv_i2l hx hb dL_law_1274 rfl ?_
    refine lv_ldc2 (own := RL) (v := 4294967295) hx hb hown (hw0 _ m_248) dL_law_1275 ?_
    refine lv_land hx hb dL_law_1278 ?_
    refine lv_topl (fun lv110 elv110 => ?_)
    obtain rfl : lv10 = lv110 := elv10.trans elv110.symm
    refine lv_lor hx hb dL_law_1279 ?_
    refine lv_topl (fun lv111 elv111 => ?_)
    obtain rfl : lv11 = lv111 := elv11.trans elv111.symm
    have hM0 := hM
    refine cx_swriteMhi (ob := q) (a1 := av2) (a2 := av4) (a3 := lv11) (rest := []) C1 hav2 hM hP hD hS hl.1 (Nat.le_of_ble_eq_true rfl) ⟨by omega, by omega⟩ dL_law_1280 (fun an112 w113  H locs hq2 hM hP hD hS => ?_)
    have hP := P_perm (List.perm_append_comm_assoc w113 w100 tl) hP
    have hD := D_perm (List.perm_append_comm_assoc w113 w100 tl) hD
    refine lv_pop hx hb dL_law_1283 rfl ?_
    refine lv_goto (tgt := 1350) hx hb dL_law_1284 (by decide) ?_
    exact K _ _ _ _ ⟨w100, w113, tl, ts, fl0, wi0, sz0, fl1, wi1, sz1, fl2, wi2, sz2, fl3, wi3, sz3, tp, rf, rp, nb0, nb1, nb2, nb3, g, xd, f, ta, fm, fw, fh, tq, fk, fp, ww, wv, nm, g0, g1, g2, xd0, xd1, xd2, hB, hM, hI, ⟨r0, r1, r2, r3, r4, i0, i1, i2, ttp, ttf, ttq, ttg, tte0, tte1, tte2, ttn0, ttn1, ttn2, ttn3, ttx, ttx0, ttx1, ttx2⟩, hP, hD, hS, hl, by omega, by omega⟩

set_option maxHeartbeats 4000000 in
set_option maxRecDepth 100000 in
theorem law_35 {p : Program} {e : Env} {s : State} {m : MethodId} {below : List Frame} {meth : Method} {c : Code} {l : Launch} {b L : Nat} {xs : Nat → Int32} {A : Nat → Prop} {G : va_G} {y : Nat → ClassId} {aK aV : Nat → Nat} {H : Heap} {locs : List Loc} {cells slots : Nat} {ls : Array Slot} {Q : State → Prop} (C0 : lawC p s m meth c b L xs A G y aK aV) {x q : Nat} {i : Int32} (hi : 0 ≤ i.toInt ∧ i.toInt + 6 ≤ (L : Int)) (I : LI s b A G y x q i H locs ls cells slots) (K : ∀ H1 locs1 cells1 slots1, LI s b A G y x q i H1 locs1 ls cells1 slots1 → W p l e room_1 s m #[Value.ref b] below meth c H1 locs1 cells1 slots1 Q (F0 m 1350 ls [])) : W p l e room_1 s m #[Value.ref b] below meth c H locs cells slots Q (F0 m 1287 ls []) := by
  have C1 := C0
  obtain ⟨hx, hb, hr, hml, hown, hw0, hX, hbl, hbA, hA, hAf, hlocks, hK, hE, hL⟩ := C0
  obtain ⟨w, wm, tl, ts, fl0, wi0, sz0, fl1, wi1, sz1, fl2, wi2, sz2, fl3, wi3, sz3, tp, rf, rp, nb0, nb1, nb2, nb3, g, xd, f, ta, fm, fw, fh, tq, fk, fp, ww, wv, nm, g0, g1, g2, xd0, xd1, xd2, hB, hM, hI, hR, hP, hD, hS, hl, hc1, hc2⟩ := I
  obtain ⟨r0, r1, r2, r3, r4, i0, i1, i2, ttp, ttf, ttq, ttg, tte0, tte1, tte2, ttn0, ttn1, ttn2, ttn3, ttx, ttx0, ttx1, ttx2⟩ := hR
  refine lv_aload_n hx hb dL_law_1287 rfl (lv_at hl 2 rfl) ?_
  refine lv_aload_n hx hb dL_law_1288 rfl (lv_at hl 3 rfl) ?_
  refine lv_iload_n hx hb dL_law_1289 rfl (lv_at hl 0 rfl) ?_
  refine lv_iconst (v := 1) hx hb dL_law_1290 (by decide) ?_
  refine lv_iadd hx hb dL_law_1291 ?_
  refine lv_topi (fun jv1 ejv1 => ?_)
  refine va_sld hx hb hX hbl hbA hS (sl_in (c := 1) ejv1 (by decide) (by decide) hi hL) dL_law_1292 ?_
  refine lv_topi (fun av2 eav2 => ?_)
  refine lv_aload_n hx hb dL_law_1293 rfl (lv_at hl 3 rfl) ?_
  refine lv_iload_n hx hb dL_law_1294 rfl (lv_at hl 0 rfl) ?_
  refine lv_iconst (v := 2) hx hb dL_law_1295 (by decide) ?_
  refine lv_iadd hx hb dL_law_1296 ?_
  refine lv_topi (fun jv3 ejv3 => ?_)
  refine va_sld hx hb hX hbl hbA hS (sl_in (c := 2) ejv3 (by decide) (by decide) hi hL) dL_law_1297 ?_
  refine lv_topi (fun av4 eav4 => ?_)
  refine lv_aload_n hx hb dL_law_1298 rfl (lv_at hl 3 rfl) ?_
  refine lv_iload_n hx hb dL_law_1299 rfl (lv_at hl 0 rfl) ?_
  refine lv_iconst (v := 3) hx hb dL_law_1300 (by decide) ?_
  refine lv_iadd hx hb dL_law_1301 ?_
  refine lv_topi (fun jv5 ejv5 => ?_)
  refine va_sld hx hb hX hbl hbA hS (sl_in (c := 3) ejv5 (by decide) (by decide) hi hL) dL_law_1302 ?_
  refine lv_topi (fun av6 eav6 => ?_)
  refine lv_aload_n hx hb dL_law_1303 rfl (lv_at hl 3 rfl) ?_
  refine lv_iload_n hx hb dL_law_1304 rfl (lv_at hl 0 rfl) ?_
  refine lv_iconst (v := 4) hx hb dL_law_1305 (by decide) ?_
  refine lv_iadd hx hb dL_law_1306 ?_
  refine lv_topi (fun jv7 ejv7 => ?_)
  refine va_sld hx hb hX hbl hbA hS (sl_in (c := 4) ejv7 (by decide) (by decide) hi hL) dL_law_1307 ?_
  refine lv_topi (fun av8 eav8 => ?_)
  refine lv_aload_n hx hb dL_law_1308 rfl (lv_at hl 3 rfl) ?_
  refine lv_iload_n hx hb dL_law_1309 rfl (lv_at hl 0 rfl) ?_
  refine lv_iconst (v := 5) hx hb dL_law_1310 (by decide) ?_
  refine lv_iadd hx hb dL_law_1311 ?_
  refine lv_topi (fun jv9 ejv9 => ?_)
  refine va_sld hx hb hX hbl hbA hS (sl_in (c := 5) ejv9 (by decide) (by decide) hi hL) dL_law_1312 ?_
  refine lv_topi (fun av10 eav10 => ?_)
  rcases so_cases av2 with h9 | h9 | h9 | h9 | h9 | h9
  · obtain rfl : 0 = av2 := h9.symm
    rcases so_cases av6 with h9 | h9 | h9 | h9 | h9 | h9
    · obtain rfl : 0 = av6 := h9.symm
      refine cx_fpaste00 (ob := x) (a2 := av4) (a4 := av8) (a5 := av10) (rest := []) C1  hB hP hD hS hl.1 (Nat.le_of_ble_eq_true rfl) ⟨by omega, by omega⟩ dL_law_1313 (fun an11 w12 nb0_13 H locs hq hB hP hD hS => ?_)
      have hP := P_perm (List.perm_append_comm_assoc w12 wm tl) hP
      have hD := D_perm (List.perm_append_comm_assoc w12 wm tl) hD
      refine lv_pop hx hb dL_law_1316 rfl ?_
      refine lv_aload_n hx hb dL_law_1317 rfl (lv_at hl 1 rfl) ?_
      refine lv_aload_n hx hb dL_law_1318 rfl (lv_at hl 3 rfl) ?_
      refine lv_iload_n hx hb dL_law_1319 rfl (lv_at hl 0 rfl) ?_
      refine lv_iconst (v := 1) hx hb dL_law_1320 (by decide) ?_
      refine lv_iadd hx hb dL_law_1321 ?_
      refine lv_topi (fun jv14 ejv14 => ?_)
      obtain rfl : jv1 = jv14 := ejv1.trans ejv14.symm
      refine va_sld hx hb hX hbl hbA hS (sl_in (c := 1) ejv1 (by decide) (by decide) hi hL) dL_law_1322 ?_
      refine lv_topi (fun av15 eav15 => ?_)
      obtain rfl : 0 = av15 := eav2.trans eav15.symm
      refine lv_aload_n hx hb dL_law_1323 rfl (lv_at hl 3 rfl) ?_
      refine lv_iload_n hx hb dL_law_1324 rfl (lv_at hl 0 rfl) ?_
      refine lv_iconst (v := 2) hx hb dL_law_1325 (by decide) ?_
      refine lv_iadd hx hb dL_law_1326 ?_
      refine lv_topi (fun jv16 ejv16 => ?_)
      obtain rfl : jv3 = jv16 := ejv3.trans ejv16.symm
      refine va_sld hx hb hX hbl hbA hS (sl_in (c := 2) ejv3 (by decide) (by decide) hi hL) dL_law_1327 ?_
      refine lv_topi (fun av17 eav17 => ?_)
      obtain rfl : av4 = av17 := eav4.trans eav17.symm
      refine lv_aload_n hx hb dL_law_1328 rfl (lv_at hl 3 rfl) ?_
      refine lv_iload_n hx hb dL_law_1329 rfl (lv_at hl 0 rfl) ?_
      refine lv_iconst (v := 3) hx hb dL_law_1330 (by decide) ?_
      refine lv_iadd hx hb dL_law_1331 ?_
      refine lv_topi (fun jv18 ejv18 => ?_)
      obtain rfl : jv5 = jv18 := ejv5.trans ejv18.symm
      refine va_sld hx hb hX hbl hbA hS (sl_in (c := 3) ejv5 (by decide) (by decide) hi hL) dL_law_1332 ?_
      refine lv_topi (fun av19 eav19 => ?_)
      obtain rfl : 0 = av19 := eav6.trans eav19.symm
      refine lv_aload_n hx hb dL_law_1333 rfl (lv_at hl 3 rfl) ?_
      refine lv_iload_n hx hb dL_law_1334 rfl (lv_at hl 0 rfl) ?_
      refine lv_iconst (v := 4) hx hb dL_law_1335 (by decide) ?_
      refine lv_iadd hx hb dL_law_1336 ?_
      refine lv_topi (fun jv20 ejv20 => ?_)
      obtain rfl : jv7 = jv20 := ejv7.trans ejv20.symm
      refine va_sld hx hb hX hbl hbA hS (sl_in (c := 4) ejv7 (by decide) (by decide) hi hL) dL_law_1337 ?_
      refine lv_topi (fun av21 eav21 => ?_)
      obtain rfl : av8 = av21 := eav8.trans eav21.symm
      refine lv_aload_n hx hb dL_law_1338 rfl (lv_at hl 3 rfl) ?_
      refine lv_iload_n hx hb dL_law_1339 rfl (lv_at hl 0 rfl) ?_
      refine lv_iconst (v := 5) hx hb dL_law_1340 (by decide) ?_
      refine lv_iadd hx hb dL_law_1341 ?_
      refine lv_topi (fun jv22 ejv22 => ?_)
      obtain rfl : jv9 = jv22 := ejv9.trans ejv22.symm
      refine va_sld hx hb hX hbl hbA hS (sl_in (c := 5) ejv9 (by decide) (by decide) hi hL) dL_law_1342 ?_
      refine lv_topi (fun av23 eav23 => ?_)
      obtain rfl : av10 = av23 := eav10.trans eav23.symm
      have hM0 := hM
      refine cx_fpasteM00 (ob := q) (a2 := av4) (a4 := av8) (a5 := av10) (rest := []) C1  hM hP hD hS hl.1 (Nat.le_of_ble_eq_true rfl) ⟨by omega, by omega⟩ dL_law_1343 (fun an24 w25 nm_26 H locs hq2 hM hP hD hS => ?_)
      have hP := P_perm (List.perm_append_comm_assoc w25 w12 tl) hP
      have hD := D_perm (List.perm_append_comm_assoc w25 w12 tl) hD
      refine lv_pop hx hb dL_law_1346 rfl ?_
      refine lv_goto (tgt := 1350) hx hb dL_law_1347 (by decide) ?_
      unfold sR at r1 r2 r3 r4
      have hm09 := BM_n hM0 0
      have hm19 := BM_n hM0 1
      have hm29 := BM_n hM0 2
      have hm39 := BM_n hM0 3
      rcases hq with hq | hq | hq
      · skip
        obtain ⟨rfl, rfl, hz⟩ := hq
        rcases hq2 with hq2 | hq2 | hq2
        · skip
          obtain ⟨rfl, rfl, hy⟩ := hq2
          exact K _ _ _ _ ⟨w12, w25, tl, _, _, _, _, _, _, _, _, _, _, _, _, _, _, _, _, _, _, _, _, _, _, _, _, _, _, _, _, _, _, _, _, _, g0, g1, g2, xd0, xd1, xd2, (by assumption), (by assumption), hI, ⟨r0, r1, r2, r3, r4, i0, i1, i2, ttp, ttf, ttq, ttg, tte0, tte1, tte2, ttn0, ttn1, ttn2, ttn3, ttx, ttx0, ttx1, ttx2⟩, hP, hD, hS, hl, by omega, by omega⟩
        · skip
          obtain ⟨rfl, rfl, hy⟩ := hq2
          exfalso
          omega
        · skip
          obtain ⟨rfl, hy⟩ := hq2
          exfalso
          omega
      · skip
        obtain ⟨rfl, rfl, hz⟩ := hq
        rcases hq2 with hq2 | hq2 | hq2
        · skip
          obtain ⟨rfl, rfl, hy⟩ := hq2
          exfalso
          omega
        · skip
          obtain ⟨rfl, rfl, hy⟩ := hq2
          exact K _ _ _ _ ⟨w12, w25, tl, _, _, _, _, _, _, _, _, _, _, _, _, _, _, _, _, _, _, _, _, _, _, _, _, _, _, _, _, _, _, _, _, _, g0, g1, g2, xd0, xd1, xd2, (by assumption), (by assumption), hI, ⟨r0, r1, r2, r3, r4, i0, i1, i2, ttp, ttf, ttq, ttg, tte0, tte1, tte2, ttn0, ttn1, ttn2, ttn3, ttx, ttx0, ttx1, ttx2⟩, hP, hD, hS, hl, by omega, by omega⟩
        · skip
          obtain ⟨rfl, hy⟩ := hq2
          exfalso
          omega
      · skip
        obtain ⟨rfl, hz⟩ := hq
        rcases hq2 with hq2 | hq2 | hq2
        · skip
          obtain ⟨rfl, rfl, hy⟩ := hq2
          exfalso
          omega
        · skip
          obtain ⟨rfl, rfl, hy⟩ := hq2
          exfalso
          omega
        · skip
          obtain ⟨rfl, hy⟩ := hq2
          exact K _ _ _ _ ⟨w12, w25, tl, _, _, _, _, _, _, _, _, _, _, _, _, _, _, _, _, _, _, _, _, _, _, _, _, _, _, _, _, _, _, _, _, _, g0, g1, g2, xd0, xd1, xd2, (by assumption), (by assumption), hI, ⟨r0, r1, r2, r3, r4, i0, i1, i2, ttp, ttf, ttq, ttg, tte0, tte1, tte2, (nt_pa ttn0 ttn0 (hz.2.1) (hy.2.1) (by omega) (by omega) (by omega)), (nt_paO (m := av10.toInt.toNat) ttn1 (hy.2.1) (by omega) (by omega) (by decide)), (nt_paO (m := av10.toInt.toNat) ttn2 (hy.2.1) (by omega) (by omega) (by decide)), (nt_paO (m := av10.toInt.toNat) ttn3 (hy.2.1) (by omega) (by omega) (by decide)), ttx, ttx0, ttx1, ttx2⟩, hP, hD, hS, hl, by omega, by omega⟩
    · obtain rfl : 1 = av6 := h9.symm
      refine cx_fpaste01 (ob := x) (a2 := av4) (a4 := av8) (a5 := av10) (rest := []) C1  hB hP hD hS hl.1 (Nat.le_of_ble_eq_true rfl) ⟨by omega, by omega⟩ dL_law_1313 (fun an27 w28 nb1_29 H locs hq hB hP hD hS => ?_)
      have hP := P_perm (List.perm_append_comm_assoc w28 wm tl) hP
      have hD := D_perm (List.perm_append_comm_assoc w28 wm tl) hD
      refine lv_pop hx hb dL_law_1316 rfl ?_
      refine lv_aload_n hx hb dL_law_1317 rfl (lv_at hl 1 rfl) ?_
      refine lv_aload_n hx hb dL_law_1318 rfl (lv_at hl 3 rfl) ?_
      refine lv_iload_n hx hb dL_law_1319 rfl (lv_at hl 0 rfl) ?_
      refine lv_iconst (v := 1) hx hb dL_law_1320 (by decide) ?_
      refine lv_iadd hx hb dL_law_1321 ?_
      refine lv_topi (fun jv30 ejv30 => ?_)
      obtain rfl : jv1 = jv30 := ejv1.trans ejv30.symm
      refine va_sld hx hb hX hbl hbA hS (sl_in (c := 1) ejv1 (by decide) (by decide) hi hL) dL_law_1322 ?_
      refine lv_topi (fun av31 eav31 => ?_)
      obtain rfl : 0 = av31 := eav2.trans eav31.symm
      refine lv_aload_n hx hb dL_law_1323 rfl (lv_at hl 3 rfl) ?_
      refine lv_iload_n hx hb dL_law_1324 rfl (lv_at hl 0 rfl) ?_
      refine lv_iconst (v := 2) hx hb dL_law_1325 (by decide) ?_
      refine lv_iadd hx hb dL_law_1326 ?_
      refine lv_topi (fun jv32 ejv32 => ?_)
      obtain rfl : jv3 = jv32 := ejv3.trans ejv32.symm
      refine va_sld hx hb hX hbl hbA hS (sl_in (c := 2) ejv3 (by decide) (by decide) hi hL) dL_law_1327 ?_
      refine lv_topi (fun av33 eav33 => ?_)
      obtain rfl : av4 = av33 := eav4.trans eav33.symm
      refine lv_aload_n hx hb dL_law_1328 rfl (lv_at hl 3 rfl) ?_
      refine lv_iload_n hx hb dL_law_1329 rfl (lv_at hl 0 rfl) ?_
      refine lv_iconst (v := 3) hx hb dL_law_1330 (by decide) ?_
      refine lv_iadd hx hb dL_law_1331 ?_
      refine lv_topi (fun jv34 ejv34 => ?_)
      obtain rfl : jv5 = jv34 := ejv5.trans ejv34.symm
      refine va_sld hx hb hX hbl hbA hS (sl_in (c := 3) ejv5 (by decide) (by decide) hi hL) dL_law_1332 ?_
      refine lv_topi (fun av35 eav35 => ?_)
      obtain rfl : 1 = av35 := eav6.trans eav35.symm
      refine lv_aload_n hx hb dL_law_1333 rfl (lv_at hl 3 rfl) ?_
      refine lv_iload_n hx hb dL_law_1334 rfl (lv_at hl 0 rfl) ?_
      refine lv_iconst (v := 4) hx hb dL_law_1335 (by decide) ?_
      refine lv_iadd hx hb dL_law_1336 ?_
      refine lv_topi (fun jv36 ejv36 => ?_)
      obtain rfl : jv7 = jv36 := ejv7.trans ejv36.symm
      refine va_sld hx hb hX hbl hbA hS (sl_in (c := 4) ejv7 (by decide) (by decide) hi hL) dL_law_1337 ?_
      refine lv_topi (fun av37 eav37 => ?_)
      obtain rfl : av8 = av37 := eav8.trans eav37.symm
      refine lv_aload_n hx hb dL_law_1338 rfl (lv_at hl 3 rfl) ?_
      refine lv_iload_n hx hb dL_law_1339 rfl (lv_at hl 0 rfl) ?_
      refine lv_iconst (v := 5) hx hb dL_law_1340 (by decide) ?_
      refine lv_iadd hx hb dL_law_1341 ?_
      refine lv_topi (fun jv38 ejv38 => ?_)
      obtain rfl : jv9 = jv38 := ejv9.trans ejv38.symm
      refine va_sld hx hb hX hbl hbA hS (sl_in (c := 5) ejv9 (by decide) (by decide) hi hL) dL_law_1342 ?_
      refine lv_topi (fun av39 eav39 => ?_)
      obtain rfl : av10 = av39 := eav10.trans eav39.symm
      have hM0 := hM
      refine cx_fpasteM01 (ob := q) (a2 := av4) (a4 := av8) (a5 := av10) (rest := []) C1  hM hP hD hS hl.1 (Nat.le_of_ble_eq_true rfl) ⟨by omega, by omega⟩ dL_law_1343 (fun an40 w41 nm_42 H locs hq2 hM hP hD hS => ?_)
      have hP := P_perm (List.perm_append_comm_assoc w41 w28 tl) hP
      have hD := D_perm (List.perm_append_comm_assoc w41 w28 tl) hD
      refine lv_pop hx hb dL_law_1346 rfl ?_
      refine lv_goto (tgt := 1350) hx hb dL_law_1347 (by decide) ?_
      unfold sR at r1 r2 r3 r4
      have hm09 := BM_n hM0 0
      have hm19 := BM_n hM0 1
      have hm29 := BM_n hM0 2
      have hm39 := BM_n hM0 3
      rcases hq with hq | hq | hq | hq
      · skip
        obtain ⟨rfl, rfl, hz⟩ := hq
        rcases hq2 with hq2 | hq2 | hq2 | hq2
        · skip
          obtain ⟨rfl, rfl, hy⟩ := hq2
          exact K _ _ _ _ ⟨w28, w41, tl, _, _, _, _, _, _, _, _, _, _, _, _, _, _, _, _, _, _, _, _, _, _, _, _, _, _, _, _, _, _, _, _, _, g0, g1, g2, xd0, xd1, xd2, (by assumption), (by assumption), hI, ⟨r0, r1, r2, r3, r4, i0, i1, i2, ttp, ttf, ttq, ttg, tte0, tte1, tte2, ttn0, ttn1, ttn2, ttn3, ttx, ttx0, ttx1, ttx2⟩, hP, hD, hS, hl, by omega, by omega⟩
        · skip
          obtain ⟨rfl, rfl, hy⟩ := hq2
          exfalso
          omega
        · skip
          obtain ⟨rfl, rfl, hy⟩ := hq2
          exfalso
          omega
        · skip
          obtain ⟨rfl, hy⟩ := hq2
          exfalso
          omega
      · skip
        obtain ⟨rfl, rfl, hz⟩ := hq
        rcases hq2 with hq2 | hq2 | hq2 | hq2
        · skip
          obtain ⟨rfl, rfl, hy⟩ := hq2
          exfalso
          omega
        · skip
          obtain ⟨rfl, rfl, hy⟩ := hq2
          exact K _ _ _ _ ⟨w28, w41, tl, _, _, _, _, _, _, _, _, _, _, _, _, _, _, _, _, _, _, _, _, _, _, _, _, _, _, _, _, _, _, _, _, _, g0, g1, g2, xd0, xd1, xd2, (by assumption), (by assumption), hI, ⟨r0, r1, r2, r3, r4, i0, i1, i2, ttp, ttf, ttq, ttg, tte0, tte1, tte2, ttn0, ttn1, ttn2, ttn3, ttx, ttx0, ttx1, ttx2⟩, hP, hD, hS, hl, by omega, by omega⟩
        · skip
          obtain ⟨rfl, rfl, hy⟩ := hq2
          exfalso
          omega
        · skip
          obtain ⟨rfl, hy⟩ := hq2
          exfalso
          omega
      · skip
        obtain ⟨rfl, rfl, hz⟩ := hq
        rcases hq2 with hq2 | hq2 | hq2 | hq2
        · skip
          obtain ⟨rfl, rfl, hy⟩ := hq2
          exfalso
          omega
        · skip
          obtain ⟨rfl, rfl, hy⟩ := hq2
          exfalso
          omega
        · skip
          obtain ⟨rfl, rfl, hy⟩ := hq2
          exact K _ _ _ _ ⟨w28, w41, tl, _, _, _, _, _, _, _, _, _, _, _, _, _, _, _, _, _, _, _, _, _, _, _, _, _, _, _, _, _, _, _, _, _, g0, g1, g2, xd0, xd1, xd2, (by assumption), (by assumption), hI, ⟨r0, r1, r2, r3, r4, i0, i1, i2, ttp, ttf, ttq, ttg, tte0, tte1, tte2, ttn0, ttn1, ttn2, ttn3, ttx, ttx0, ttx1, ttx2⟩, hP, hD, hS, hl, by omega, by omega⟩
        · skip
          obtain ⟨rfl, hy⟩ := hq2
          exfalso
          omega
      · skip
        obtain ⟨rfl, hz⟩ := hq
        rcases hq2 with hq2 | hq2 | hq2 | hq2
        · skip
          obtain ⟨rfl, rfl, hy⟩ := hq2
          exfalso
          omega
        · skip
          obtain ⟨rfl, rfl, hy⟩ := hq2
          exfalso
          omega
        · skip
          obtain ⟨rfl, rfl, hy⟩ := hq2
          exfalso
          omega
        · skip
          obtain ⟨rfl, hy⟩ := hq2
          exact K _ _ _ _ ⟨w28, w41, tl, _, _, _, _, _, _, _, _, _, _, _, _, _, _, _, _, _, _, _, _, _, _, _, _, _, _, _, _, _, _, _, _, _, g0, g1, g2, xd0, xd1, xd2, (by assumption), (by assumption), hI, ⟨r0, r1, r2, r3, r4, i0, i1, i2, ttp, ttf, ttq, ttg, tte0, tte1, tte2, (nt_paO (m := av10.toInt.toNat) ttn0 (hy.2.1) (by omega) (by omega) (by decide)), (nt_pa ttn0 ttn1 (hz.2.1) (hy.2.1) (by omega) (by omega) (by omega)), (nt_paO (m := av10.toInt.toNat) ttn2 (hy.2.1) (by omega) (by omega) (by decide)), (nt_paO (m := av10.toInt.toNat) ttn3 (hy.2.1) (by omega) (by omega) (by decide)), ttx, ttx0, ttx1, ttx2⟩, hP, hD, hS, hl, by omega, by omega⟩
    · obtain rfl : 2 = av6 := h9.symm
      refine cx_fpaste02 (ob := x) (a2 := av4) (a4 := av8) (a5 := av10) (rest := []) C1  hB hP hD hS hl.1 (Nat.le_of_ble_eq_true rfl) ⟨by omega, by omega⟩ dL_law_1313 (fun an43 w44 nb2_45 H locs hq hB hP hD hS => ?_)
      have hP := P_perm (List.perm_append_comm_assoc w44 wm tl) hP
      have hD := D_perm (List.perm_append_comm_assoc w44 wm tl) hD
      refine lv_pop hx hb dL_law_1316 rfl ?_
      refine lv_aload_n hx hb dL_law_1317 rfl (lv_at hl 1 rfl) ?_
      refine lv_aload_n hx hb dL_law_1318 rfl (lv_at hl 3 rfl) ?_
      refine lv_iload_n hx hb dL_law_1319 rfl (lv_at hl 0 rfl) ?_
      refine lv_iconst (v := 1) hx hb dL_law_1320 (by decide) ?_
      refine lv_iadd hx hb dL_law_1321 ?_
      refine lv_topi (fun jv46 ejv46 => ?_)
      obtain rfl : jv1 = jv46 := ejv1.trans ejv46.symm
      refine va_sld hx hb hX hbl hbA hS (sl_in (c := 1) ejv1 (by decide) (by decide) hi hL) dL_law_1322 ?_
      refine lv_topi (fun av47 eav47 => ?_)
      obtain rfl : 0 = av47 := eav2.trans eav47.symm
      refine lv_aload_n hx hb dL_law_1323 rfl (lv_at hl 3 rfl) ?_
      refine lv_iload_n hx hb dL_law_1324 rfl (lv_at hl 0 rfl) ?_
      refine lv_iconst (v := 2) hx hb dL_law_1325 (by decide) ?_
      refine lv_iadd hx hb dL_law_1326 ?_
      refine lv_topi (fun jv48 ejv48 => ?_)
      obtain rfl : jv3 = jv48 := ejv3.trans ejv48.symm
      refine va_sld hx hb hX hbl hbA hS (sl_in (c := 2) ejv3 (by decide) (by decide) hi hL) dL_law_1327 ?_
      refine lv_topi (fun av49 eav49 => ?_)
      obtain rfl : av4 = av49 := eav4.trans eav49.symm
      refine lv_aload_n hx hb dL_law_1328 rfl (lv_at hl 3 rfl) ?_
      refine lv_iload_n hx hb dL_law_1329 rfl (lv_at hl 0 rfl) ?_
      refine lv_iconst (v := 3) hx hb dL_law_1330 (by decide) ?_
      refine lv_iadd hx hb dL_law_1331 ?_
      refine lv_topi (fun jv50 ejv50 => ?_)
      obtain rfl : jv5 = jv50 := ejv5.trans ejv50.symm
      refine va_sld hx hb hX hbl hbA hS (sl_in (c := 3) ejv5 (by decide) (by decide) hi hL) dL_law_1332 ?_
      refine lv_topi (fun av51 eav51 => ?_)
      obtain rfl : 2 = av51 := eav6.trans eav51.symm
      refine lv_aload_n hx hb dL_law_1333 rfl (lv_at hl 3 rfl) ?_
      refine lv_iload_n hx hb dL_law_1334 rfl (lv_at hl 0 rfl) ?_
      refine lv_iconst (v := 4) hx hb dL_law_1335 (by decide) ?_
      refine lv_iadd hx hb dL_law_1336 ?_
      refine lv_topi (fun jv52 ejv52 => ?_)
      obtain rfl : jv7 = jv52 := ejv7.trans ejv52.symm
      refine va_sld hx hb hX hbl hbA hS (sl_in (c := 4) ejv7 (by decide) (by decide) hi hL) dL_law_1337 ?_
      refine lv_topi (fun av53 eav53 => ?_)
      obtain rfl : av8 = av53 := eav8.trans eav53.symm
      refine lv_aload_n hx hb dL_law_1338 rfl (lv_at hl 3 rfl) ?_
      refine lv_iload_n hx hb dL_law_1339 rfl (lv_at hl 0 rfl) ?_
      refine lv_iconst (v := 5) hx hb dL_law_1340 (by decide) ?_
      refine lv_iadd hx hb dL_law_1341 ?_
      refine lv_topi (fun jv54 ejv54 => ?_)
      obtain rfl : jv9 = jv54 := ejv9.trans ejv54.symm
      refine va_sld hx hb hX hbl hbA hS (sl_in (c := 5) ejv9 (by decide) (by decide) hi hL) dL_law_1342 ?_
      refine lv_topi (fun av55 eav55 => ?_)
      obtain rfl : av10 = av55 := eav10.trans eav55.symm
      have hM0 := hM
      refine cx_fpasteM02 (ob := q) (a2 := av4) (a4 := av8) (a5 := av10) (rest := []) C1  hM hP hD hS hl.1 (Nat.le_of_ble_eq_true rfl) ⟨by omega, by omega⟩ dL_law_1343 (fun an56 w57 nm_58 H locs hq2 hM hP hD hS => ?_)
      have hP := P_perm (List.perm_append_comm_assoc w57 w44 tl) hP
      have hD := D_perm (List.perm_append_comm_assoc w57 w44 tl) hD
      refine lv_pop hx hb dL_law_1346 rfl ?_
      refine lv_goto (tgt := 1350) hx hb dL_law_1347 (by decide) ?_
      unfold sR at r1 r2 r3 r4
      have hm09 := BM_n hM0 0
      have hm19 := BM_n hM0 1
      have hm29 := BM_n hM0 2
      have hm39 := BM_n hM0 3
      rcases hq with hq | hq | hq | hq
      · skip
        obtain ⟨rfl, rfl, hz⟩ := hq
        rcases hq2 with hq2 | hq2 | hq2 | hq2
        · skip
          obtain ⟨rfl, rfl, hy⟩ := hq2
          exact K _ _ _ _ ⟨w44, w57, tl, _, _, _, _, _, _, _, _, _, _, _, _, _, _, _, _, _, _, _, _, _, _, _, _, _, _, _, _, _, _, _, _, _, g0, g1, g2, xd0, xd1, xd2, (by assumption), (by assumption), hI, ⟨r0, r1, r2, r3, r4, i0, i1, i2, ttp, ttf, ttq, ttg, tte0, tte1, tte2, ttn0, ttn1, ttn2, ttn3, ttx, ttx0, ttx1, ttx2⟩, hP, hD, hS, hl, by omega, by omega⟩
        · skip
          obtain ⟨rfl, rfl, hy⟩ := hq2
          exfalso
          omega
        · skip
          obtain ⟨rfl, rfl, hy⟩ := hq2
          exfalso
          omega
        · skip
          obtain ⟨rfl, hy⟩ := hq2
          exfalso
          omega
      · skip
        obtain ⟨rfl, rfl, hz⟩ := hq
        rcases hq2 with hq2 | hq2 | hq2 | hq2
        · skip
          obtain ⟨rfl, rfl, hy⟩ := hq2
          exfalso
          omega
        · skip
          obtain ⟨rfl, rfl, hy⟩ := hq2
          exact K _ _ _ _ ⟨w44, w57, tl, _, _, _, _, _, _, _, _, _, _, _, _, _, _, _, _, _, _, _, _, _, _, _, _, _, _, _, _, _, _, _, _, _, g0, g1, g2, xd0, xd1, xd2, (by assumption), (by assumption), hI, ⟨r0, r1, r2, r3, r4, i0, i1, i2, ttp, ttf, ttq, ttg, tte0, tte1, tte2, ttn0, ttn1, ttn2, ttn3, ttx, ttx0, ttx1, ttx2⟩, hP, hD, hS, hl, by omega, by omega⟩
        · skip
          obtain ⟨rfl, rfl, hy⟩ := hq2
          exfalso
          omega
        · skip
          obtain ⟨rfl, hy⟩ := hq2
          exfalso
          omega
      · skip
        obtain ⟨rfl, rfl, hz⟩ := hq
        rcases hq2 with hq2 | hq2 | hq2 | hq2
        · skip
          obtain ⟨rfl, rfl, hy⟩ := hq2
          exfalso
          omega
        · skip
          obtain ⟨rfl, rfl, hy⟩ := hq2
          exfalso
          omega
        · skip
          obtain ⟨rfl, rfl, hy⟩ := hq2
          exact K _ _ _ _ ⟨w44, w57, tl, _, _, _, _, _, _, _, _, _, _, _, _, _, _, _, _, _, _, _, _, _, _, _, _, _, _, _, _, _, _, _, _, _, g0, g1, g2, xd0, xd1, xd2, (by assumption), (by assumption), hI, ⟨r0, r1, r2, r3, r4, i0, i1, i2, ttp, ttf, ttq, ttg, tte0, tte1, tte2, ttn0, ttn1, ttn2, ttn3, ttx, ttx0, ttx1, ttx2⟩, hP, hD, hS, hl, by omega, by omega⟩
        · skip
          obtain ⟨rfl, hy⟩ := hq2
          exfalso
          omega
      · skip
        obtain ⟨rfl, hz⟩ := hq
        rcases hq2 with hq2 | hq2 | hq2 | hq2
        · skip
          obtain ⟨rfl, rfl, hy⟩ := hq2
          exfalso
          omega
        · skip
          obtain ⟨rfl, rfl, hy⟩ := hq2
          exfalso
          omega
        · skip
          obtain ⟨rfl, rfl, hy⟩ := hq2
          exfalso
          omega
        · skip
          obtain ⟨rfl, hy⟩ := hq2
          exact K _ _ _ _ ⟨w44, w57, tl, _, _, _, _, _, _, _, _, _, _, _, _, _, _, _, _, _, _, _, _, _, _, _, _, _, _, _, _, _, _, _, _, _, g0, g1, g2, xd0, xd1, xd2, (by assumption), (by assumption), hI, ⟨r0, r1, r2, r3, r4, i0, i1, i2, ttp, ttf, ttq, ttg, tte0, tte1, tte2, (nt_paO (m := av10.toInt.toNat) ttn0 (hy.2.1) (by omega) (by omega) (by decide)), (nt_paO (m := av10.toInt.toNat) ttn1 (hy.2.1) (by omega) (by omega) (by decide)), (nt_pa ttn0 ttn2 (hz.2.1) (hy.2.1) (by omega) (by omega) (by omega)), (nt_paO (m := av10.toInt.toNat) ttn3 (hy.2.1) (by omega) (by omega) (by decide)), ttx, ttx0, ttx1, ttx2⟩, hP, hD, hS, hl, by omega, by omega⟩
    · obtain rfl : 3 = av6 := h9.symm
      refine cx_fpaste03 (ob := x) (a2 := av4) (a4 := av8) (a5 := av10) (rest := []) C1  hB hP hD hS hl.1 (Nat.le_of_ble_eq_true rfl) ⟨by omega, by omega⟩ dL_law_1313 (fun an59 w60 nb3_61 H locs hq hB hP hD hS => ?_)
      have hP := P_perm (List.perm_append_comm_assoc w60 wm tl) hP
      have hD := D_perm (List.perm_append_comm_assoc w60 wm tl) hD
      refine lv_pop hx hb dL_law_1316 rfl ?_
      refine lv_aload_n hx hb dL_law_1317 rfl (lv_at hl 1 rfl) ?_
      refine lv_aload_n hx hb dL_law_1318 rfl (lv_at hl 3 rfl) ?_
      refine lv_iload_n hx hb dL_law_1319 rfl (lv_at hl 0 rfl) ?_
      refine lv_iconst (v := 1) hx hb dL_law_1320 (by decide) ?_
      refine lv_iadd hx hb dL_law_1321 ?_
      refine lv_topi (fun jv62 ejv62 => ?_)
      obtain rfl : jv1 = jv62 := ejv1.trans ejv62.symm
      refine va_sld hx hb hX hbl hbA hS (sl_in (c := 1) ejv1 (by decide) (by decide) hi hL) dL_law_1322 ?_
      refine lv_topi (fun av63 eav63 => ?_)
      obtain rfl : 0 = av63 := eav2.trans eav63.symm
      refine lv_aload_n hx hb dL_law_1323 rfl (lv_at hl 3 rfl) ?_
      refine lv_iload_n hx hb dL_law_1324 rfl (lv_at hl 0 rfl) ?_
      refine lv_iconst (v := 2) hx hb dL_law_1325 (by decide) ?_
      refine lv_iadd hx hb dL_law_1326 ?_
      refine lv_topi (fun jv64 ejv64 => ?_)
      obtain rfl : jv3 = jv64 := ejv3.trans ejv64.symm
      refine va_sld hx hb hX hbl hbA hS (sl_in (c := 2) ejv3 (by decide) (by decide) hi hL) dL_law_1327 ?_
      refine lv_topi (fun av65 eav65 => ?_)
      obtain rfl : av4 = av65 := eav4.trans eav65.symm
      refine lv_aload_n hx hb dL_law_1328 rfl (lv_at hl 3 rfl) ?_
      refine lv_iload_n hx hb dL_law_1329 rfl (lv_at hl 0 rfl) ?_
      refine lv_iconst (v := 3) hx hb dL_law_1330 (by decide) ?_
      refine lv_iadd hx hb dL_law_1331 ?_
      refine lv_topi (fun jv66 ejv66 => ?_)
      obtain rfl : jv5 = jv66 := ejv5.trans ejv66.symm
      refine va_sld hx hb hX hbl hbA hS (sl_in (c := 3) ejv5 (by decide) (by decide) hi hL) dL_law_1332 ?_
      refine lv_topi (fun av67 eav67 => ?_)
      obtain rfl : 3 = av67 := eav6.trans eav67.symm
      refine lv_aload_n hx hb dL_law_1333 rfl (lv_at hl 3 rfl) ?_
      refine lv_iload_n hx hb dL_law_1334 rfl (lv_at hl 0 rfl) ?_
      refine lv_iconst (v := 4) hx hb dL_law_1335 (by decide) ?_
      refine lv_iadd hx hb dL_law_1336 ?_
      refine lv_topi (fun jv68 ejv68 => ?_)
      obtain rfl : jv7 = jv68 := ejv7.trans ejv68.symm
      refine va_sld hx hb hX hbl hbA hS (sl_in (c := 4) ejv7 (by decide) (by decide) hi hL) dL_law_1337 ?_
      refine lv_topi (fun av69 eav69 => ?_)
      obtain rfl : av8 = av69 := eav8.trans eav69.symm
      refine lv_aload_n hx hb dL_law_1338 rfl (lv_at hl 3 rfl) ?_
      refine lv_iload_n hx hb dL_law_1339 rfl (lv_at hl 0 rfl) ?_
      refine lv_iconst (v := 5) hx hb dL_law_1340 (by decide) ?_
      refine lv_iadd hx hb dL_law_1341 ?_
      refine lv_topi (fun jv70 ejv70 => ?_)
      obtain rfl : jv9 = jv70 := ejv9.trans ejv70.symm
      refine va_sld hx hb hX hbl hbA hS (sl_in (c := 5) ejv9 (by decide) (by decide) hi hL) dL_law_1342 ?_
      refine lv_topi (fun av71 eav71 => ?_)
      obtain rfl : av10 = av71 := eav10.trans eav71.symm
      have hM0 := hM
      refine cx_fpasteM03 (ob := q) (a2 := av4) (a4 := av8) (a5 := av10) (rest := []) C1  hM hP hD hS hl.1 (Nat.le_of_ble_eq_true rfl) ⟨by omega, by omega⟩ dL_law_1343 (fun an72 w73 nm_74 H locs hq2 hM hP hD hS => ?_)
      have hP := P_perm (List.perm_append_comm_assoc w73 w60 tl) hP
      have hD := D_perm (List.perm_append_comm_assoc w73 w60 tl) hD
      refine lv_pop hx hb dL_law_1346 rfl ?_
      refine lv_goto (tgt := 1350) hx hb dL_law_1347 (by decide) ?_
      unfold sR at r1 r2 r3 r4
      have hm09 := BM_n hM0 0
      have hm19 := BM_n hM0 1
      have hm29 := BM_n hM0 2
      have hm39 := BM_n hM0 3
      rcases hq with hq | hq | hq | hq
      · skip
        obtain ⟨rfl, rfl, hz⟩ := hq
        rcases hq2 with hq2 | hq2 | hq2 | hq2
        · skip
          obtain ⟨rfl, rfl, hy⟩ := hq2
          exact K _ _ _ _ ⟨w60, w73, tl, _, _, _, _, _, _, _, _, _, _, _, _, _, _, _, _, _, _, _, _, _, _, _, _, _, _, _, _, _, _, _, _, _, g0, g1, g2, xd0, xd1, xd2, (by assumption), (by assumption), hI, ⟨r0, r1, r2, r3, r4, i0, i1, i2, ttp, ttf, ttq, ttg, tte0, tte1, tte2, ttn0, ttn1, ttn2, ttn3, ttx, ttx0, ttx1, ttx2⟩, hP, hD, hS, hl, by omega, by omega⟩
        · skip
          obtain ⟨rfl, rfl, hy⟩ := hq2
          exfalso
          omega
        · skip
          obtain ⟨rfl, rfl, hy⟩ := hq2
          exfalso
          omega
        · skip
          obtain ⟨rfl, hy⟩ := hq2
          exfalso
          omega
      · skip
        obtain ⟨rfl, rfl, hz⟩ := hq
        rcases hq2 with hq2 | hq2 | hq2 | hq2
        · skip
          obtain ⟨rfl, rfl, hy⟩ := hq2
          exfalso
          omega
        · skip
          obtain ⟨rfl, rfl, hy⟩ := hq2
          exact K _ _ _ _ ⟨w60, w73, tl, _, _, _, _, _, _, _, _, _, _, _, _, _, _, _, _, _, _, _, _, _, _, _, _, _, _, _, _, _, _, _, _, _, g0, g1, g2, xd0, xd1, xd2, (by assumption), (by assumption), hI, ⟨r0, r1, r2, r3, r4, i0, i1, i2, ttp, ttf, ttq, ttg, tte0, tte1, tte2, ttn0, ttn1, ttn2, ttn3, ttx, ttx0, ttx1, ttx2⟩, hP, hD, hS, hl, by omega, by omega⟩
        · skip
          obtain ⟨rfl, rfl, hy⟩ := hq2
          exfalso
          omega
        · skip
          obtain ⟨rfl, hy⟩ := hq2
          exfalso
          omega
      · skip
        obtain ⟨rfl, rfl, hz⟩ := hq
        rcases hq2 with hq2 | hq2 | hq2 | hq2
        · skip
          obtain ⟨rfl, rfl, hy⟩ := hq2
          exfalso
          omega
        · skip
          obtain ⟨rfl, rfl, hy⟩ := hq2
          exfalso
          omega
        · skip
          obtain ⟨rfl, rfl, hy⟩ := hq2
          exact K _ _ _ _ ⟨w60, w73, tl, _, _, _, _, _, _, _, _, _, _, _, _, _, _, _, _, _, _, _, _, _, _, _, _, _, _, _, _, _, _, _, _, _, g0, g1, g2, xd0, xd1, xd2, (by assumption), (by assumption), hI, ⟨r0, r1, r2, r3, r4, i0, i1, i2, ttp, ttf, ttq, ttg, tte0, tte1, tte2, ttn0, ttn1, ttn2, ttn3, ttx, ttx0, ttx1, ttx2⟩, hP, hD, hS, hl, by omega, by omega⟩
        · skip
          obtain ⟨rfl, hy⟩ := hq2
          exfalso
          omega
      · skip
        obtain ⟨rfl, hz⟩ := hq
        rcases hq2 with hq2 | hq2 | hq2 | hq2
        · skip
          obtain ⟨rfl, rfl, hy⟩ := hq2
          exfalso
          omega
        · skip
          obtain ⟨rfl, rfl, hy⟩ := hq2
          exfalso
          omega
        · skip
          obtain ⟨rfl, rfl, hy⟩ := hq2
          exfalso
          omega
        · skip
          obtain ⟨rfl, hy⟩ := hq2
          exact K _ _ _ _ ⟨w60, w73, tl, _, _, _, _, _, _, _, _, _, _, _, _, _, _, _, _, _, _, _, _, _, _, _, _, _, _, _, _, _, _, _, _, _, g0, g1, g2, xd0, xd1, xd2, (by assumption), (by assumption), hI, ⟨r0, r1, r2, r3, r4, i0, i1, i2, ttp, ttf, ttq, ttg, tte0, tte1, tte2, (nt_paO (m := av10.toInt.toNat) ttn0 (hy.2.1) (by omega) (by omega) (by decide)), (nt_paO (m := av10.toInt.toNat) ttn1 (hy.2.1) (by omega) (by omega) (by decide)), (nt_paO (m := av10.toInt.toNat) ttn2 (hy.2.1) (by omega) (by omega) (by decide)), (nt_pa ttn0 ttn3 (hz.2.1) (hy.2.1) (by omega) (by omega) (by omega)), ttx, ttx0, ttx1, ttx2⟩, hP, hD, hS, hl, by omega, by omega⟩
    · have hav6 := h9
      refine cx_spasteTlo (ob := x) (a1 := 0) (a2 := av4) (a3 := av6) (a4 := av8) (a5 := av10) (rest := []) C1 (by decide) hav6 hB hP hD hS hl.1 (Nat.le_of_ble_eq_true rfl) ⟨by omega, by omega⟩ dL_law_1313 (fun an75 w76  H locs hq hB hP hD hS => ?_)
      have hP := P_perm (List.perm_append_comm_assoc w76 wm tl) hP
      have hD := D_perm (List.perm_append_comm_assoc w76 wm tl) hD
      refine lv_pop hx hb dL_law_1316 rfl ?_
      refine lv_aload_n hx hb dL_law_1317 rfl (lv_at hl 1 rfl) ?_
      refine lv_aload_n hx hb dL_law_1318 rfl (lv_at hl 3 rfl) ?_
      refine lv_iload_n hx hb dL_law_1319 rfl (lv_at hl 0 rfl) ?_
      refine lv_iconst (v := 1) hx hb dL_law_1320 (by decide) ?_
      refine lv_iadd hx hb dL_law_1321 ?_
      refine lv_topi (fun jv77 ejv77 => ?_)
      obtain rfl : jv1 = jv77 := ejv1.trans ejv77.symm
      refine va_sld hx hb hX hbl hbA hS (sl_in (c := 1) ejv1 (by decide) (by decide) hi hL) dL_law_1322 ?_
      refine lv_topi (fun av78 eav78 => ?_)
      obtain rfl : 0 = av78 := eav2.trans eav78.symm
      refine lv_aload_n hx hb dL_law_1323 rfl (lv_at hl 3 rfl) ?_
      refine lv_iload_n hx hb dL_law_1324 rfl (lv_at hl 0 rfl) ?_
      refine lv_iconst (v := 2) hx hb dL_law_1325 (by decide) ?_
      refine lv_iadd hx hb dL_law_1326 ?_
      refine lv_topi (fun jv79 ejv79 => ?_)
      obtain rfl : jv3 = jv79 := ejv3.trans ejv79.symm
      refine va_sld hx hb hX hbl hbA hS (sl_in (c := 2) ejv3 (by decide) (by decide) hi hL) dL_law_1327 ?_
      refine lv_topi (fun av80 eav80 => ?_)
      obtain rfl : av4 = av80 := eav4.trans eav80.symm
      refine lv_aload_n hx hb dL_law_1328 rfl (lv_at hl 3 rfl) ?_
      refine lv_iload_n hx hb dL_law_1329 rfl (lv_at hl 0 rfl) ?_
      refine lv_iconst (v := 3) hx hb dL_law_1330 (by decide) ?_
      refine lv_iadd hx hb dL_law_1331 ?_
      refine lv_topi (fun jv81 ejv81 => ?_)
      obtain rfl : jv5 = jv81 := ejv5.trans ejv81.symm
      refine va_sld hx hb hX hbl hbA hS (sl_in (c := 3) ejv5 (by decide) (by decide) hi hL) dL_law_1332 ?_
      refine lv_topi (fun av82 eav82 => ?_)
      obtain rfl : av6 = av82 := eav6.trans eav82.symm
      refine lv_aload_n hx hb dL_law_1333 rfl (lv_at hl 3 rfl) ?_
      refine lv_iload_n hx hb dL_law_1334 rfl (lv_at hl 0 rfl) ?_
      refine lv_iconst (v := 4) hx hb dL_law_1335 (by decide) ?_
      refine lv_iadd hx hb dL_law_1336 ?_
      refine lv_topi (fun jv83 ejv83 => ?_)
      obtain rfl : jv7 = jv83 := ejv7.trans ejv83.symm
      refine va_sld hx hb hX hbl hbA hS (sl_in (c := 4) ejv7 (by decide) (by decide) hi hL) dL_law_1337 ?_
      refine lv_topi (fun av84 eav84 => ?_)
      obtain rfl : av8 = av84 := eav8.trans eav84.symm
      refine lv_aload_n hx hb dL_law_1338 rfl (lv_at hl 3 rfl) ?_
      refine lv_iload_n hx hb dL_law_1339 rfl (lv_at hl 0 rfl) ?_
      refine lv_iconst (v := 5) hx hb dL_law_1340 (by decide) ?_
      refine lv_iadd hx hb dL_law_1341 ?_
      refine lv_topi (fun jv85 ejv85 => ?_)
      obtain rfl : jv9 = jv85 := ejv9.trans ejv85.symm
      refine va_sld hx hb hX hbl hbA hS (sl_in (c := 5) ejv9 (by decide) (by decide) hi hL) dL_law_1342 ?_
      refine lv_topi (fun av86 eav86 => ?_)
      obtain rfl : av10 = av86 := eav10.trans eav86.symm
      have hM0 := hM
      refine cx_spasteMTlo (ob := q) (a1 := 0) (a2 := av4) (a3 := av6) (a4 := av8) (a5 := av10) (rest := []) C1 (by decide) hav6 hM hP hD hS hl.1 (Nat.le_of_ble_eq_true rfl) ⟨by omega, by omega⟩ dL_law_1343 (fun an87 w88  H locs hq2 hM hP hD hS => ?_)
      have hP := P_perm (List.perm_append_comm_assoc w88 w76 tl) hP
      have hD := D_perm (List.perm_append_comm_assoc w88 w76 tl) hD
      refine lv_pop hx hb dL_law_1346 rfl ?_
      refine lv_goto (tgt := 1350) hx hb dL_law_1347 (by decide) ?_
      exact K _ _ _ _ ⟨w76, w88, tl, ts, fl0, wi0, sz0, fl1, wi1, sz1, fl2, wi2, sz2, fl3, wi3, sz3, tp, rf, rp, nb0, nb1, nb2, nb3, g, xd, f, ta, fm, fw, fh, tq, fk, fp, ww, wv, nm, g0, g1, g2, xd0, xd1, xd2, hB, hM, hI, ⟨r0, r1, r2, r3, r4, i0, i1, i2, ttp, ttf, ttq, ttg, tte0, tte1, tte2, ttn0, ttn1, ttn2, ttn3, ttx, ttx0, ttx1, ttx2⟩, hP, hD, hS, hl, by omega, by omega⟩
    · have hav6 := h9
      refine cx_spasteThi (ob := x) (a1 := 0) (a2 := av4) (a3 := av6) (a4 := av8) (a5 := av10) (rest := []) C1 (by decide) hav6 hB hP hD hS hl.1 (Nat.le_of_ble_eq_true rfl) ⟨by omega, by omega⟩ dL_law_1313 (fun an89 w90  H locs hq hB hP hD hS => ?_)
      have hP := P_perm (List.perm_append_comm_assoc w90 wm tl) hP
      have hD := D_perm (List.perm_append_comm_assoc w90 wm tl) hD
      refine lv_pop hx hb dL_law_1316 rfl ?_
      refine lv_aload_n hx hb dL_law_1317 rfl (lv_at hl 1 rfl) ?_
      refine lv_aload_n hx hb dL_law_1318 rfl (lv_at hl 3 rfl) ?_
      refine lv_iload_n hx hb dL_law_1319 rfl (lv_at hl 0 rfl) ?_
      refine lv_iconst (v := 1) hx hb dL_law_1320 (by decide) ?_
      refine lv_iadd hx hb dL_law_1321 ?_
      refine lv_topi (fun jv91 ejv91 => ?_)
      obtain rfl : jv1 = jv91 := ejv1.trans ejv91.symm
      refine va_sld hx hb hX hbl hbA hS (sl_in (c := 1) ejv1 (by decide) (by decide) hi hL) dL_law_1322 ?_
      refine lv_topi (fun av92 eav92 => ?_)
      obtain rfl : 0 = av92 := eav2.trans eav92.symm
      refine lv_aload_n hx hb dL_law_1323 rfl (lv_at hl 3 rfl) ?_
      refine lv_iload_n hx hb dL_law_1324 rfl (lv_at hl 0 rfl) ?_
      refine lv_iconst (v := 2) hx hb dL_law_1325 (by decide) ?_
      refine lv_iadd hx hb dL_law_1326 ?_
      refine lv_topi (fun jv93 ejv93 => ?_)
      obtain rfl : jv3 = jv93 := ejv3.trans ejv93.symm
      refine va_sld hx hb hX hbl hbA hS (sl_in (c := 2) ejv3 (by decide) (by decide) hi hL) dL_law_1327 ?_
      refine lv_topi (fun av94 eav94 => ?_)
      obtain rfl : av4 = av94 := eav4.trans eav94.symm
      refine lv_aload_n hx hb dL_law_1328 rfl (lv_at hl 3 rfl) ?_
      refine lv_iload_n hx hb dL_law_1329 rfl (lv_at hl 0 rfl) ?_
      refine lv_iconst (v := 3) hx hb dL_law_1330 (by decide) ?_
      refine lv_iadd hx hb dL_law_1331 ?_
      refine lv_topi (fun jv95 ejv95 => ?_)
      obtain rfl : jv5 = jv95 := ejv5.trans ejv95.symm
      refine va_sld hx hb hX hbl hbA hS (sl_in (c := 3) ejv5 (by decide) (by decide) hi hL) dL_law_1332 ?_
      refine lv_topi (fun av96 eav96 => ?_)
      obtain rfl : av6 = av96 := eav6.trans eav96.symm
      refine lv_aload_n hx hb dL_law_1333 rfl (lv_at hl 3 rfl) ?_
      refine lv_iload_n hx hb dL_law_1334 rfl (lv_at hl 0 rfl) ?_
      refine lv_iconst (v := 4) hx hb dL_law_1335 (by decide) ?_
      refine lv_iadd hx hb dL_law_1336 ?_
      refine lv_topi (fun jv97 ejv97 => ?_)
      obtain rfl : jv7 = jv97 := ejv7.trans ejv97.symm
      refine va_sld hx hb hX hbl hbA hS (sl_in (c := 4) ejv7 (by decide) (by decide) hi hL) dL_law_1337 ?_
      refine lv_topi (fun av98 eav98 => ?_)
      obtain rfl : av8 = av98 := eav8.trans eav98.symm
      refine lv_aload_n hx hb dL_law_1338 rfl (lv_at hl 3 rfl) ?_
      refine lv_iload_n hx hb dL_law_1339 rfl (lv_at hl 0 rfl) ?_
      refine lv_iconst (v := 5) hx hb dL_law_1340 (by decide) ?_
      refine lv_iadd hx hb dL_law_1341 ?_
      refine lv_topi (fun jv99 ejv99 => ?_)
      obtain rfl : jv9 = jv99 := ejv9.trans ejv99.symm
      refine va_sld hx hb hX hbl hbA hS (sl_in (c := 5) ejv9 (by decide) (by decide) hi hL) dL_law_1342 ?_
      refine lv_topi (fun av100 eav100 => ?_)
      obtain rfl : av10 = av100 := eav10.trans eav100.symm
      have hM0 := hM
      refine cx_spasteMThi (ob := q) (a1 := 0) (a2 := av4) (a3 := av6) (a4 := av8) (a5 := av10) (rest := []) C1 (by decide) hav6 hM hP hD hS hl.1 (Nat.le_of_ble_eq_true rfl) ⟨by omega, by omega⟩ dL_law_1343 (fun an101 w102  H locs hq2 hM hP hD hS => ?_)
      have hP := P_perm (List.perm_append_comm_assoc w102 w90 tl) hP
      have hD := D_perm (List.perm_append_comm_assoc w102 w90 tl) hD
      refine lv_pop hx hb dL_law_1346 rfl ?_
      refine lv_goto (tgt := 1350) hx hb dL_law_1347 (by decide) ?_
      exact K _ _ _ _ ⟨w90, w102, tl, ts, fl0, wi0, sz0, fl1, wi1, sz1, fl2, wi2, sz2, fl3, wi3, sz3, tp, rf, rp, nb0, nb1, nb2, nb3, g, xd, f, ta, fm, fw, fh, tq, fk, fp, ww, wv, nm, g0, g1, g2, xd0, xd1, xd2, hB, hM, hI, ⟨r0, r1, r2, r3, r4, i0, i1, i2, ttp, ttf, ttq, ttg, tte0, tte1, tte2, ttn0, ttn1, ttn2, ttn3, ttx, ttx0, ttx1, ttx2⟩, hP, hD, hS, hl, by omega, by omega⟩
  · obtain rfl : 1 = av2 := h9.symm
    rcases so_cases av6 with h9 | h9 | h9 | h9 | h9 | h9
    · obtain rfl : 0 = av6 := h9.symm
      refine cx_fpaste10 (ob := x) (a2 := av4) (a4 := av8) (a5 := av10) (rest := []) C1  hB hP hD hS hl.1 (Nat.le_of_ble_eq_true rfl) ⟨by omega, by omega⟩ dL_law_1313 (fun an103 w104 nb0_105 H locs hq hB hP hD hS => ?_)
      have hP := P_perm (List.perm_append_comm_assoc w104 wm tl) hP
      have hD := D_perm (List.perm_append_comm_assoc w104 wm tl) hD
      refine lv_pop hx hb dL_law_1316 rfl ?_
      refine lv_aload_n hx hb dL_law_1317 rfl (lv_at hl 1 rfl) ?_
      refine lv_aload_n hx hb dL_law_1318 rfl (lv_at hl 3 rfl) ?_
      refine lv_iload_n hx hb dL_law_1319 rfl (lv_at hl 0 rfl) ?_
      refine lv_iconst (v := 1) hx hb dL_law_1320 (by decide) ?_
      refine lv_iadd hx hb dL_law_1321 ?_
      refine lv_topi (fun jv106 ejv106 => ?_)
      obtain rfl : jv1 = jv106 := ejv1.trans ejv106.symm
      refine va_sld hx hb hX hbl hbA hS (sl_in (c := 1) ejv1 (by decide) (by decide) hi hL) dL_law_1322 ?_
      refine lv_topi (fun av107 eav107 => ?_)
      obtain rfl : 1 = av107 := eav2.trans eav107.symm
      refine lv_aload_n hx hb dL_law_1323 rfl (lv_at hl 3 rfl) ?_
      refine lv_iload_n hx hb dL_law_1324 rfl (lv_at hl 0 rfl) ?_
      refine lv_iconst (v := 2) hx hb dL_law_1325 (by decide) ?_
      refine lv_iadd hx hb dL_law_1326 ?_
      refine lv_topi (fun jv108 ejv108 => ?_)
      obtain rfl : jv3 = jv108 := ejv3.trans ejv108.symm
      refine va_sld hx hb hX hbl hbA hS (sl_in (c := 2) ejv3 (by decide) (by decide) hi hL) dL_law_1327 ?_
      refine lv_topi (fun av109 eav109 => ?_)
      obtain rfl : av4 = av109 := eav4.trans eav109.symm
      refine lv_aload_n hx hb dL_law_1328 rfl (lv_at hl 3 rfl) ?_
      refine lv_iload_n hx hb dL_law_1329 rfl (lv_at hl 0 rfl) ?_
      refine lv_iconst (v := 3) hx hb dL_law_1330 (by decide) ?_
      refine lv_iadd hx hb dL_law_1331 ?_
      refine lv_topi (fun jv110 ejv110 => ?_)
      obtain rfl : jv5 = jv110 := ejv5.trans ejv110.symm
      refine va_sld hx hb hX hbl hbA hS (sl_in (c := 3) ejv5 (by decide) (by decide) hi hL) dL_law_1332 ?_
      refine lv_topi (fun av111 eav111 => ?_)
      obtain rfl : 0 = av111 := eav6.trans eav111.symm
      refine lv_aload_n hx hb dL_law_1333 rfl (lv_at hl 3 rfl) ?_
      refine lv_iload_n hx hb dL_law_1334 rfl (lv_at hl 0 rfl) ?_
      refine lv_iconst (v := 4) hx hb dL_law_1335 (by decide) ?_
      refine lv_iadd hx hb dL_law_1336 ?_
      refine lv_topi (fun jv112 ejv112 => ?_)
      obtain rfl : jv7 = jv112 := ejv7.trans ejv112.symm
      refine va_sld hx hb hX hbl hbA hS (sl_in (c := 4) ejv7 (by decide) (by decide) hi hL) dL_law_1337 ?_
      refine lv_topi (fun av113 eav113 => ?_)
      obtain rfl : av8 = av113 := eav8.trans eav113.symm
      refine lv_aload_n hx hb dL_law_1338 rfl (lv_at hl 3 rfl) ?_
      refine lv_iload_n hx hb dL_law_1339 rfl (lv_at hl 0 rfl) ?_
      refine lv_iconst (v := 5) hx hb dL_law_1340 (by decide) ?_
      refine lv_iadd hx hb dL_law_1341 ?_
      refine lv_topi (fun jv114 ejv114 => ?_)
      obtain rfl : jv9 = jv114 := ejv9.trans ejv114.symm
      refine va_sld hx hb hX hbl hbA hS (sl_in (c := 5) ejv9 (by decide) (by decide) hi hL) dL_law_1342 ?_
      refine lv_topi (fun av115 eav115 => ?_)
      obtain rfl : av10 = av115 := eav10.trans eav115.symm
      have hM0 := hM
      refine cx_fpasteM10 (ob := q) (a2 := av4) (a4 := av8) (a5 := av10) (rest := []) C1  hM hP hD hS hl.1 (Nat.le_of_ble_eq_true rfl) ⟨by omega, by omega⟩ dL_law_1343 (fun an116 w117 nm_118 H locs hq2 hM hP hD hS => ?_)
      have hP := P_perm (List.perm_append_comm_assoc w117 w104 tl) hP
      have hD := D_perm (List.perm_append_comm_assoc w117 w104 tl) hD
      refine lv_pop hx hb dL_law_1346 rfl ?_
      refine lv_goto (tgt := 1350) hx hb dL_law_1347 (by decide) ?_
      unfold sR at r1 r2 r3 r4
      have hm09 := BM_n hM0 0
      have hm19 := BM_n hM0 1
      have hm29 := BM_n hM0 2
      have hm39 := BM_n hM0 3
      rcases hq with hq | hq | hq | hq
      · skip
        obtain ⟨rfl, rfl, hz⟩ := hq
        rcases hq2 with hq2 | hq2 | hq2 | hq2
        · skip
          obtain ⟨rfl, rfl, hy⟩ := hq2
          exact K _ _ _ _ ⟨w104, w117, tl, _, _, _, _, _, _, _, _, _, _, _, _, _, _, _, _, _, _, _, _, _, _, _, _, _, _, _, _, _, _, _, _, _, g0, g1, g2, xd0, xd1, xd2, (by assumption), (by assumption), hI, ⟨r0, r1, r2, r3, r4, i0, i1, i2, ttp, ttf, ttq, ttg, tte0, tte1, tte2, ttn0, ttn1, ttn2, ttn3, ttx, ttx0, ttx1, ttx2⟩, hP, hD, hS, hl, by omega, by omega⟩
        · skip
          obtain ⟨rfl, rfl, hy⟩ := hq2
          exfalso
          omega
        · skip
          obtain ⟨rfl, rfl, hy⟩ := hq2
          exfalso
          omega
        · skip
          obtain ⟨rfl, hy⟩ := hq2
          exfalso
          omega
      · skip
        obtain ⟨rfl, rfl, hz⟩ := hq
        rcases hq2 with hq2 | hq2 | hq2 | hq2
        · skip
          obtain ⟨rfl, rfl, hy⟩ := hq2
          exfalso
          omega
        · skip
          obtain ⟨rfl, rfl, hy⟩ := hq2
          exact K _ _ _ _ ⟨w104, w117, tl, _, _, _, _, _, _, _, _, _, _, _, _, _, _, _, _, _, _, _, _, _, _, _, _, _, _, _, _, _, _, _, _, _, g0, g1, g2, xd0, xd1, xd2, (by assumption), (by assumption), hI, ⟨r0, r1, r2, r3, r4, i0, i1, i2, ttp, ttf, ttq, ttg, tte0, tte1, tte2, ttn0, ttn1, ttn2, ttn3, ttx, ttx0, ttx1, ttx2⟩, hP, hD, hS, hl, by omega, by omega⟩
        · skip
          obtain ⟨rfl, rfl, hy⟩ := hq2
          exfalso
          omega
        · skip
          obtain ⟨rfl, hy⟩ := hq2
          exfalso
          omega
      · skip
        obtain ⟨rfl, rfl, hz⟩ := hq
        rcases hq2 with hq2 | hq2 | hq2 | hq2
        · skip
          obtain ⟨rfl, rfl, hy⟩ := hq2
          exfalso
          omega
        · skip
          obtain ⟨rfl, rfl, hy⟩ := hq2
          exfalso
          omega
        · skip
          obtain ⟨rfl, rfl, hy⟩ := hq2
          exact K _ _ _ _ ⟨w104, w117, tl, _, _, _, _, _, _, _, _, _, _, _, _, _, _, _, _, _, _, _, _, _, _, _, _, _, _, _, _, _, _, _, _, _, g0, g1, g2, xd0, xd1, xd2, (by assumption), (by assumption), hI, ⟨r0, r1, r2, r3, r4, i0, i1, i2, ttp, ttf, ttq, ttg, tte0, tte1, tte2, ttn0, ttn1, ttn2, ttn3, ttx, ttx0, ttx1, ttx2⟩, hP, hD, hS, hl, by omega, by omega⟩
        · skip
          obtain ⟨rfl, hy⟩ := hq2
          exfalso
          omega
      · skip
        obtain ⟨rfl, hz⟩ := hq
        rcases hq2 with hq2 | hq2 | hq2 | hq2
        · skip
          obtain ⟨rfl, rfl, hy⟩ := hq2
          exfalso
          omega
        · skip
          obtain ⟨rfl, rfl, hy⟩ := hq2
          exfalso
          omega
        · skip
          obtain ⟨rfl, rfl, hy⟩ := hq2
          exfalso
          omega
        · skip
          obtain ⟨rfl, hy⟩ := hq2
          exact K _ _ _ _ ⟨w104, w117, tl, _, _, _, _, _, _, _, _, _, _, _, _, _, _, _, _, _, _, _, _, _, _, _, _, _, _, _, _, _, _, _, _, _, g0, g1, g2, xd0, xd1, xd2, (by assumption), (by assumption), hI, ⟨r0, r1, r2, r3, r4, i0, i1, i2, ttp, ttf, ttq, ttg, tte0, tte1, tte2, (nt_pa ttn1 ttn0 (hz.2.1) (hy.2.1) (by omega) (by omega) (by omega)), (nt_paO (m := av10.toInt.toNat) ttn1 (hy.2.1) (by omega) (by omega) (by decide)), (nt_paO (m := av10.toInt.toNat) ttn2 (hy.2.1) (by omega) (by omega) (by decide)), (nt_paO (m := av10.toInt.toNat) ttn3 (hy.2.1) (by omega) (by omega) (by decide)), ttx, ttx0, ttx1, ttx2⟩, hP, hD, hS, hl, by omega, by omega⟩
    · obtain rfl : 1 = av6 := h9.symm
      refine cx_fpaste11 (ob := x) (a2 := av4) (a4 := av8) (a5 := av10) (rest := []) C1  hB hP hD hS hl.1 (Nat.le_of_ble_eq_true rfl) ⟨by omega, by omega⟩ dL_law_1313 (fun an119 w120 nb1_121 H locs hq hB hP hD hS => ?_)
      have hP := P_perm (List.perm_append_comm_assoc w120 wm tl) hP
      have hD := D_perm (List.perm_append_comm_assoc w120 wm tl) hD
      refine lv_pop hx hb dL_law_1316 rfl ?_
      refine lv_aload_n hx hb dL_law_1317 rfl (lv_at hl 1 rfl) ?_
      refine lv_aload_n hx hb dL_law_1318 rfl (lv_at hl 3 rfl) ?_
      refine lv_iload_n hx hb dL_law_1319 rfl (lv_at hl 0 rfl) ?_
      refine lv_iconst (v := 1) hx hb dL_law_1320 (by decide) ?_
      refine lv_iadd hx hb dL_law_1321 ?_
      refine lv_topi (fun jv122 ejv122 => ?_)
      obtain rfl : jv1 = jv122 := ejv1.trans ejv122.symm
      refine va_sld hx hb hX hbl hbA hS (sl_in (c := 1) ejv1 (by decide) (by decide) hi hL) dL_law_1322 ?_
      refine lv_topi (fun av123 eav123 => ?_)
      obtain rfl : 1 = av123 := eav2.trans eav123.symm
      refine lv_aload_n hx hb dL_law_1323 rfl (lv_at hl 3 rfl) ?_
      refine lv_iload_n hx hb dL_law_1324 rfl (lv_at hl 0 rfl) ?_
      refine lv_iconst (v := 2) hx hb dL_law_1325 (by decide) ?_
      refine lv_iadd hx hb dL_law_1326 ?_
      refine lv_topi (fun jv124 ejv124 => ?_)
      obtain rfl : jv3 = jv124 := ejv3.trans ejv124.symm
      refine va_sld hx hb hX hbl hbA hS (sl_in (c := 2) ejv3 (by decide) (by decide) hi hL) dL_law_1327 ?_
      refine lv_topi (fun av125 eav125 => ?_)
      obtain rfl : av4 = av125 := eav4.trans eav125.symm
      refine lv_aload_n hx hb dL_law_1328 rfl (lv_at hl 3 rfl) ?_
      refine lv_iload_n hx hb dL_law_1329 rfl (lv_at hl 0 rfl) ?_
      refine lv_iconst (v := 3) hx hb dL_law_1330 (by decide) ?_
      refine lv_iadd hx hb dL_law_1331 ?_
      refine lv_topi (fun jv126 ejv126 => ?_)
      obtain rfl : jv5 = jv126 := ejv5.trans ejv126.symm
      refine va_sld hx hb hX hbl hbA hS (sl_in (c := 3) ejv5 (by decide) (by decide) hi hL) dL_law_1332 ?_
      refine lv_topi (fun av127 eav127 => ?_)
      obtain rfl : 1 = av127 := eav6.trans eav127.symm
      refine lv_aload_n hx hb dL_law_1333 rfl (lv_at hl 3 rfl) ?_
      refine lv_iload_n hx hb dL_law_1334 rfl (lv_at hl 0 rfl) ?_
      refine lv_iconst (v := 4) hx hb dL_law_1335 (by decide) ?_
      refine lv_iadd hx hb dL_law_1336 ?_
      refine lv_topi (fun jv128 ejv128 => ?_)
      obtain rfl : jv7 = jv128 := ejv7.trans ejv128.symm
      refine va_sld hx hb hX hbl hbA hS (sl_in (c := 4) ejv7 (by decide) (by decide) hi hL) dL_law_1337 ?_
      refine lv_topi (fun av129 eav129 => ?_)
      obtain rfl : av8 = av129 := eav8.trans eav129.symm
      refine lv_aload_n hx hb dL_law_1338 rfl (lv_at hl 3 rfl) ?_
      refine lv_iload_n hx hb dL_law_1339 rfl (lv_at hl 0 rfl) ?_
      refine lv_iconst (v := 5) hx hb dL_law_1340 (by decide) ?_
      refine lv_iadd hx hb dL_law_1341 ?_
      refine lv_topi (fun jv130 ejv130 => ?_)
      obtain rfl : jv9 = jv130 := ejv9.trans ejv130.symm
      refine va_sld hx hb hX hbl hbA hS (sl_in (c := 5) ejv9 (by decide) (by decide) hi hL) dL_law_1342 ?_
      refine lv_topi (fun av131 eav131 => ?_)
      obtain rfl : av10 = av131 := eav10.trans eav131.symm
      have hM0 := hM
      refine cx_fpasteM11 (ob := q) (a2 := av4) (a4 := av8) (a5 := av10) (rest := []) C1  hM hP hD hS hl.1 (Nat.le_of_ble_eq_true rfl) ⟨by omega, by omega⟩ dL_law_1343 (fun an132 w133 nm_134 H locs hq2 hM hP hD hS => ?_)
      have hP := P_perm (List.perm_append_comm_assoc w133 w120 tl) hP
      have hD := D_perm (List.perm_append_comm_assoc w133 w120 tl) hD
      refine lv_pop hx hb dL_law_1346 rfl ?_
      refine lv_goto (tgt := 1350) hx hb dL_law_1347 (by decide) ?_
      unfold sR at r1 r2 r3 r4
      have hm09 := BM_n hM0 0
      have hm19 := BM_n hM0 1
      have hm29 := BM_n hM0 2
      have hm39 := BM_n hM0 3
      rcases hq with hq | hq | hq
      · skip
        obtain ⟨rfl, rfl, hz⟩ := hq
        rcases hq2 with hq2 | hq2 | hq2
        · skip
          obtain ⟨rfl, rfl, hy⟩ := hq2
          exact K _ _ _ _ ⟨w120, w133, tl, _, _, _, _, _, _, _, _, _, _, _, _, _, _, _, _, _, _, _, _, _, _, _, _, _, _, _, _, _, _, _, _, _, g0, g1, g2, xd0, xd1, xd2, (by assumption), (by assumption), hI, ⟨r0, r1, r2, r3, r4, i0, i1, i2, ttp, ttf, ttq, ttg, tte0, tte1, tte2, ttn0, ttn1, ttn2, ttn3, ttx, ttx0, ttx1, ttx2⟩, hP, hD, hS, hl, by omega, by omega⟩
        · skip
          obtain ⟨rfl, rfl, hy⟩ := hq2
          exfalso
          omega
        · skip
          obtain ⟨rfl, hy⟩ := hq2
          exfalso
          omega
      · skip
        obtain ⟨rfl, rfl, hz⟩ := hq
        rcases hq2 with hq2 | hq2 | hq2
        · skip
          obtain ⟨rfl, rfl, hy⟩ := hq2
          exfalso
          omega
        · skip
          obtain ⟨rfl, rfl, hy⟩ := hq2
          exact K _ _ _ _ ⟨w120, w133, tl, _, _, _, _, _, _, _, _, _, _, _, _, _, _, _, _, _, _, _, _, _, _, _, _, _, _, _, _, _, _, _, _, _, g0, g1, g2, xd0, xd1, xd2, (by assumption), (by assumption), hI, ⟨r0, r1, r2, r3, r4, i0, i1, i2, ttp, ttf, ttq, ttg, tte0, tte1, tte2, ttn0, ttn1, ttn2, ttn3, ttx, ttx0, ttx1, ttx2⟩, hP, hD, hS, hl, by omega, by omega⟩
        · skip
          obtain ⟨rfl, hy⟩ := hq2
          exfalso
          omega
      · skip
        obtain ⟨rfl, hz⟩ := hq
        rcases hq2 with hq2 | hq2 | hq2
        · skip
          obtain ⟨rfl, rfl, hy⟩ := hq2
          exfalso
          omega
        · skip
          obtain ⟨rfl, rfl, hy⟩ := hq2
          exfalso
          omega
        · skip
          obtain ⟨rfl, hy⟩ := hq2
          exact K _ _ _ _ ⟨w120, w133, tl, _, _, _, _, _, _, _, _, _, _, _, _, _, _, _, _, _, _, _, _, _, _, _, _, _, _, _, _, _, _, _, _, _, g0, g1, g2, xd0, xd1, xd2, (by assumption), (by assumption), hI, ⟨r0, r1, r2, r3, r4, i0, i1, i2, ttp, ttf, ttq, ttg, tte0, tte1, tte2, (nt_paO (m := av10.toInt.toNat) ttn0 (hy.2.1) (by omega) (by omega) (by decide)), (nt_pa ttn1 ttn1 (hz.2.1) (hy.2.1) (by omega) (by omega) (by omega)), (nt_paO (m := av10.toInt.toNat) ttn2 (hy.2.1) (by omega) (by omega) (by decide)), (nt_paO (m := av10.toInt.toNat) ttn3 (hy.2.1) (by omega) (by omega) (by decide)), ttx, ttx0, ttx1, ttx2⟩, hP, hD, hS, hl, by omega, by omega⟩
    · obtain rfl : 2 = av6 := h9.symm
      refine cx_fpaste12 (ob := x) (a2 := av4) (a4 := av8) (a5 := av10) (rest := []) C1  hB hP hD hS hl.1 (Nat.le_of_ble_eq_true rfl) ⟨by omega, by omega⟩ dL_law_1313 (fun an135 w136 nb2_137 H locs hq hB hP hD hS => ?_)
      have hP := P_perm (List.perm_append_comm_assoc w136 wm tl) hP
      have hD := D_perm (List.perm_append_comm_assoc w136 wm tl) hD
      refine lv_pop hx hb dL_law_1316 rfl ?_
      refine lv_aload_n hx hb dL_law_1317 rfl (lv_at hl 1 rfl) ?_
      refine lv_aload_n hx hb dL_law_1318 rfl (lv_at hl 3 rfl) ?_
      refine lv_iload_n hx hb dL_law_1319 rfl (lv_at hl 0 rfl) ?_
      refine lv_iconst (v := 1) hx hb dL_law_1320 (by decide) ?_
      refine lv_iadd hx hb dL_law_1321 ?_
      refine lv_topi (fun jv138 ejv138 => ?_)
      obtain rfl : jv1 = jv138 := ejv1.trans ejv138.symm
      refine va_sld hx hb hX hbl hbA hS (sl_in (c := 1) ejv1 (by decide) (by decide) hi hL) dL_law_1322 ?_
      refine lv_topi (fun av139 eav139 => ?_)
      obtain rfl : 1 = av139 := eav2.trans eav139.symm
      refine lv_aload_n hx hb dL_law_1323 rfl (lv_at hl 3 rfl) ?_
      refine lv_iload_n hx hb dL_law_1324 rfl (lv_at hl 0 rfl) ?_
      refine lv_iconst (v := 2) hx hb dL_law_1325 (by decide) ?_
      refine lv_iadd hx hb dL_law_1326 ?_
      refine lv_topi (fun jv140 ejv140 => ?_)
      obtain rfl : jv3 = jv140 := ejv3.trans ejv140.symm
      refine va_sld hx hb hX hbl hbA hS (sl_in (c := 2) ejv3 (by decide) (by decide) hi hL) dL_law_1327 ?_
      refine lv_topi (fun av141 eav141 => ?_)
      obtain rfl : av4 = av141 := eav4.trans eav141.symm
      refine lv_aload_n hx hb dL_law_1328 rfl (lv_at hl 3 rfl) ?_
      refine lv_iload_n hx hb dL_law_1329 rfl (lv_at hl 0 rfl) ?_
      refine lv_iconst (v := 3) hx hb dL_law_1330 (by decide) ?_
      refine lv_iadd hx hb dL_law_1331 ?_
      refine lv_topi (fun jv142 ejv142 => ?_)
      obtain rfl : jv5 = jv142 := ejv5.trans ejv142.symm
      refine va_sld hx hb hX hbl hbA hS (sl_in (c := 3) ejv5 (by decide) (by decide) hi hL) dL_law_1332 ?_
      refine lv_topi (fun av143 eav143 => ?_)
      obtain rfl : 2 = av143 := eav6.trans eav143.symm
      refine lv_aload_n hx hb dL_law_1333 rfl (lv_at hl 3 rfl) ?_
      refine lv_iload_n hx hb dL_law_1334 rfl (lv_at hl 0 rfl) ?_
      refine lv_iconst (v := 4) hx hb dL_law_1335 (by decide) ?_
      refine lv_iadd hx hb dL_law_1336 ?_
      refine lv_topi (fun jv144 ejv144 => ?_)
      obtain rfl : jv7 = jv144 := ejv7.trans ejv144.symm
      refine va_sld hx hb hX hbl hbA hS (sl_in (c := 4) ejv7 (by decide) (by decide) hi hL) dL_law_1337 ?_
      refine lv_topi (fun av145 eav145 => ?_)
      obtain rfl : av8 = av145 := eav8.trans eav145.symm
      refine lv_aload_n hx hb dL_law_1338 rfl (lv_at hl 3 rfl) ?_
      refine lv_iload_n hx hb dL_law_1339 rfl (lv_at hl 0 rfl) ?_
      refine lv_iconst (v := 5) hx hb dL_law_1340 (by decide) ?_
      refine lv_iadd hx hb dL_law_1341 ?_
      refine lv_topi (fun jv146 ejv146 => ?_)
      obtain rfl : jv9 = jv146 := ejv9.trans ejv146.symm
      refine va_sld hx hb hX hbl hbA hS (sl_in (c := 5) ejv9 (by decide) (by decide) hi hL) dL_law_1342 ?_
      refine lv_topi (fun av147 eav147 => ?_)
      obtain rfl : av10 = av147 := eav10.trans eav147.symm
      have hM0 := hM
      refine cx_fpasteM12 (ob := q) (a2 := av4) (a4 := av8) (a5 := av10) (rest := []) C1  hM hP hD hS hl.1 (Nat.le_of_ble_eq_true rfl) ⟨by omega, by omega⟩ dL_law_1343 (fun an148 w149 nm_150 H locs hq2 hM hP hD hS => ?_)
      have hP := P_perm (List.perm_append_comm_assoc w149 w136 tl) hP
      have hD := D_perm (List.perm_append_comm_assoc w149 w136 tl) hD
      refine lv_pop hx hb dL_law_1346 rfl ?_
      refine lv_goto (tgt := 1350) hx hb dL_law_1347 (by decide) ?_
      unfold sR at r1 r2 r3 r4
      have hm09 := BM_n hM0 0
      have hm19 := BM_n hM0 1
      have hm29 := BM_n hM0 2
      have hm39 := BM_n hM0 3
      rcases hq with hq | hq | hq | hq
      · skip
        obtain ⟨rfl, rfl, hz⟩ := hq
        rcases hq2 with hq2 | hq2 | hq2 | hq2
        · skip
          obtain ⟨rfl, rfl, hy⟩ := hq2
          exact K _ _ _ _ ⟨w136, w149, tl, _, _, _, _, _, _, _, _, _, _, _, _, _, _, _, _, _, _, _, _, _, _, _, _, _, _, _, _, _, _, _, _, _, g0, g1, g2, xd0, xd1, xd2, (by assumption), (by assumption), hI, ⟨r0, r1, r2, r3, r4, i0, i1, i2, ttp, ttf, ttq, ttg, tte0, tte1, tte2, ttn0, ttn1, ttn2, ttn3, ttx, ttx0, ttx1, ttx2⟩, hP, hD, hS, hl, by omega, by omega⟩
        · skip
          obtain ⟨rfl, rfl, hy⟩ := hq2
          exfalso
          omega
        · skip
          obtain ⟨rfl, rfl, hy⟩ := hq2
          exfalso
          omega
        · skip
          obtain ⟨rfl, hy⟩ := hq2
          exfalso
          omega
      · skip
        obtain ⟨rfl, rfl, hz⟩ := hq
        rcases hq2 with hq2 | hq2 | hq2 | hq2
        · skip
          obtain ⟨rfl, rfl, hy⟩ := hq2
          exfalso
          omega
        · skip
          obtain ⟨rfl, rfl, hy⟩ := hq2
          exact K _ _ _ _ ⟨w136, w149, tl, _, _, _, _, _, _, _, _, _, _, _, _, _, _, _, _, _, _, _, _, _, _, _, _, _, _, _, _, _, _, _, _, _, g0, g1, g2, xd0, xd1, xd2, (by assumption), (by assumption), hI, ⟨r0, r1, r2, r3, r4, i0, i1, i2, ttp, ttf, ttq, ttg, tte0, tte1, tte2, ttn0, ttn1, ttn2, ttn3, ttx, ttx0, ttx1, ttx2⟩, hP, hD, hS, hl, by omega, by omega⟩
        · skip
          obtain ⟨rfl, rfl, hy⟩ := hq2
          exfalso
          omega
        · skip
          obtain ⟨rfl, hy⟩ := hq2
          exfalso
          omega
      · skip
        obtain ⟨rfl, rfl, hz⟩ := hq
        rcases hq2 with hq2 | hq2 | hq2 | hq2
        · skip
          obtain ⟨rfl, rfl, hy⟩ := hq2
          exfalso
          omega
        · skip
          obtain ⟨rfl, rfl, hy⟩ := hq2
          exfalso
          omega
        · skip
          obtain ⟨rfl, rfl, hy⟩ := hq2
          exact K _ _ _ _ ⟨w136, w149, tl, _, _, _, _, _, _, _, _, _, _, _, _, _, _, _, _, _, _, _, _, _, _, _, _, _, _, _, _, _, _, _, _, _, g0, g1, g2, xd0, xd1, xd2, (by assumption), (by assumption), hI, ⟨r0, r1, r2, r3, r4, i0, i1, i2, ttp, ttf, ttq, ttg, tte0, tte1, tte2, ttn0, ttn1, ttn2, ttn3, ttx, ttx0, ttx1, ttx2⟩, hP, hD, hS, hl, by omega, by omega⟩
        · skip
          obtain ⟨rfl, hy⟩ := hq2
          exfalso
          omega
      · skip
        obtain ⟨rfl, hz⟩ := hq
        rcases hq2 with hq2 | hq2 | hq2 | hq2
        · skip
          obtain ⟨rfl, rfl, hy⟩ := hq2
          exfalso
          omega
        · skip
          obtain ⟨rfl, rfl, hy⟩ := hq2
          exfalso
          omega
        · skip
          obtain ⟨rfl, rfl, hy⟩ := hq2
          exfalso
          omega
        · skip
          obtain ⟨rfl, hy⟩ := hq2
          exact K _ _ _ _ ⟨w136, w149, tl, _, _, _, _, _, _, _, _, _, _, _, _, _, _, _, _, _, _, _, _, _, _, _, _, _, _, _, _, _, _, _, _, _, g0, g1, g2, xd0, xd1, xd2, (by assumption), (by assumption), hI, ⟨r0, r1, r2, r3, r4, i0, i1, i2, ttp, ttf, ttq, ttg, tte0, tte1, tte2, (nt_paO (m := av10.toInt.toNat) ttn0 (hy.2.1) (by omega) (by omega) (by decide)), (nt_paO (m := av10.toInt.toNat) ttn1 (hy.2.1) (by omega) (by omega) (by decide)), (nt_pa ttn1 ttn2 (hz.2.1) (hy.2.1) (by omega) (by omega) (by omega)), (nt_paO (m := av10.toInt.toNat) ttn3 (hy.2.1) (by omega) (by omega) (by decide)), ttx, ttx0, ttx1, ttx2⟩, hP, hD, hS, hl, by omega, by omega⟩
    · obtain rfl : 3 = av6 := h9.symm
      refine cx_fpaste13 (ob := x) (a2 := av4) (a4 := av8) (a5 := av10) (rest := []) C1  hB hP hD hS hl.1 (Nat.le_of_ble_eq_true rfl) ⟨by omega, by omega⟩ dL_law_1313 (fun an151 w152 nb3_153 H locs hq hB hP hD hS => ?_)
      have hP := P_perm (List.perm_append_comm_assoc w152 wm tl) hP
      have hD := D_perm (List.perm_append_comm_assoc w152 wm tl) hD
      refine lv_pop hx hb dL_law_1316 rfl ?_
      refine lv_aload_n hx hb dL_law_1317 rfl (lv_at hl 1 rfl) ?_
      refine lv_aload_n hx hb dL_law_1318 rfl (lv_at hl 3 rfl) ?_
      refine lv_iload_n hx hb dL_law_1319 rfl (lv_at hl 0 rfl) ?_
      refine lv_iconst (v := 1) hx hb dL_law_1320 (by decide) ?_
      refine lv_iadd hx hb dL_law_1321 ?_
      refine lv_topi (fun jv154 ejv154 => ?_)
      obtain rfl : jv1 = jv154 := ejv1.trans ejv154.symm
      refine va_sld hx hb hX hbl hbA hS (sl_in (c := 1) ejv1 (by decide) (by decide) hi hL) dL_law_1322 ?_
      refine lv_topi (fun av155 eav155 => ?_)
      obtain rfl : 1 = av155 := eav2.trans eav155.symm
      refine lv_aload_n hx hb dL_law_1323 rfl (lv_at hl 3 rfl) ?_
      refine lv_iload_n hx hb dL_law_1324 rfl (lv_at hl 0 rfl) ?_
      refine lv_iconst (v := 2) hx hb dL_law_1325 (by decide) ?_
      refine lv_iadd hx hb dL_law_1326 ?_
      refine lv_topi (fun jv156 ejv156 => ?_)
      obtain rfl : jv3 = jv156 := ejv3.trans ejv156.symm
      refine va_sld hx hb hX hbl hbA hS (sl_in (c := 2) ejv3 (by decide) (by decide) hi hL) dL_law_1327 ?_
      refine lv_topi (fun av157 eav157 => ?_)
      obtain rfl : av4 = av157 := eav4.trans eav157.symm
      refine lv_aload_n hx hb dL_law_1328 rfl (lv_at hl 3 rfl) ?_
      refine lv_iload_n hx hb dL_law_1329 rfl (lv_at hl 0 rfl) ?_
      refine lv_iconst (v := 3) hx hb dL_law_1330 (by decide) ?_
      refine lv_iadd hx hb dL_law_1331 ?_
      refine lv_topi (fun jv158 ejv158 => ?_)
      obtain rfl : jv5 = jv158 := ejv5.trans ejv158.symm
      refine va_sld hx hb hX hbl hbA hS (sl_in (c := 3) ejv5 (by decide) (by decide) hi hL) dL_law_1332 ?_
      refine lv_topi (fun av159 eav159 => ?_)
      obtain rfl : 3 = av159 := eav6.trans eav159.symm
      refine lv_aload_n hx hb dL_law_1333 rfl (lv_at hl 3 rfl) ?_
      refine lv_iload_n hx hb dL_law_1334 rfl (lv_at hl 0 rfl) ?_
      refine lv_iconst (v := 4) hx hb dL_law_1335 (by decide) ?_
      refine lv_iadd hx hb dL_law_1336 ?_
      refine lv_topi (fun jv160 ejv160 => ?_)
      obtain rfl : jv7 = jv160 := ejv7.trans ejv160.symm
      refine va_sld hx hb hX hbl hbA hS (sl_in (c := 4) ejv7 (by decide) (by decide) hi hL) dL_law_1337 ?_
      refine lv_topi (fun av161 eav161 => ?_)
      obtain rfl : av8 = av161 := eav8.trans eav161.symm
      refine lv_aload_n hx hb dL_law_1338 rfl (lv_at hl 3 rfl) ?_
      refine lv_iload_n hx hb dL_law_1339 rfl (lv_at hl 0 rfl) ?_
      refine lv_iconst (v := 5) hx hb dL_law_1340 (by decide) ?_
      refine lv_iadd hx hb dL_law_1341 ?_
      refine lv_topi (fun jv162 ejv162 => ?_)
      obtain rfl : jv9 = jv162 := ejv9.trans ejv162.symm
      refine va_sld hx hb hX hbl hbA hS (sl_in (c := 5) ejv9 (by decide) (by decide) hi hL) dL_law_1342 ?_
      refine lv_topi (fun av163 eav163 => ?_)
      obtain rfl : av10 = av163 := eav10.trans eav163.symm
      have hM0 := hM
      refine cx_fpasteM13 (ob := q) (a2 := av4) (a4 := av8) (a5 := av10) (rest := []) C1  hM hP hD hS hl.1 (Nat.le_of_ble_eq_true rfl) ⟨by omega, by omega⟩ dL_law_1343 (fun an164 w165 nm_166 H locs hq2 hM hP hD hS => ?_)
      have hP := P_perm (List.perm_append_comm_assoc w165 w152 tl) hP
      have hD := D_perm (List.perm_append_comm_assoc w165 w152 tl) hD
      refine lv_pop hx hb dL_law_1346 rfl ?_
      refine lv_goto (tgt := 1350) hx hb dL_law_1347 (by decide) ?_
      unfold sR at r1 r2 r3 r4
      have hm09 := BM_n hM0 0
      have hm19 := BM_n hM0 1
      have hm29 := BM_n hM0 2
      have hm39 := BM_n hM0 3
      rcases hq with hq | hq | hq | hq
      · skip
        obtain ⟨rfl, rfl, hz⟩ := hq
        rcases hq2 with hq2 | hq2 | hq2 | hq2
        · skip
          obtain ⟨rfl, rfl, hy⟩ := hq2
          exact K _ _ _ _ ⟨w152, w165, tl, _, _, _, _, _, _, _, _, _, _, _, _, _, _, _, _, _, _, _, _, _, _, _, _, _, _, _, _, _, _, _, _, _, g0, g1, g2, xd0, xd1, xd2, (by assumption), (by assumption), hI, ⟨r0, r1, r2, r3, r4, i0, i1, i2, ttp, ttf, ttq, ttg, tte0, tte1, tte2, ttn0, ttn1, ttn2, ttn3, ttx, ttx0, ttx1, ttx2⟩, hP, hD, hS, hl, by omega, by omega⟩
        · skip
          obtain ⟨rfl, rfl, hy⟩ := hq2
          exfalso
          omega
        · skip
          obtain ⟨rfl, rfl, hy⟩ := hq2
          exfalso
          omega
        · skip
          obtain ⟨rfl, hy⟩ := hq2
          exfalso
          omega
      · skip
        obtain ⟨rfl, rfl, hz⟩ := hq
        rcases hq2 with hq2 | hq2 | hq2 | hq2
        · skip
          obtain ⟨rfl, rfl, hy⟩ := hq2
          exfalso
          omega
        · skip
          obtain ⟨rfl, rfl, hy⟩ := hq2
          exact K _ _ _ _ ⟨w152, w165, tl, _, _, _, _, _, _, _, _, _, _, _, _, _, _, _, _, _, _, _, _, _, _, _, _, _, _, _, _, _, _, _, _, _, g0, g1, g2, xd0, xd1, xd2, (by assumption), (by assumption), hI, ⟨r0, r1, r2, r3, r4, i0, i1, i2, ttp, ttf, ttq, ttg, tte0, tte1, tte2, ttn0, ttn1, ttn2, ttn3, ttx, ttx0, ttx1, ttx2⟩, hP, hD, hS, hl, by omega, by omega⟩
        · skip
          obtain ⟨rfl, rfl, hy⟩ := hq2
          exfalso
          omega
        · skip
          obtain ⟨rfl, hy⟩ := hq2
          exfalso
          omega
      · skip
        obtain ⟨rfl, rfl, hz⟩ := hq
        rcases hq2 with hq2 | hq2 | hq2 | hq2
        · skip
          obtain ⟨rfl, rfl, hy⟩ := hq2
          exfalso
          omega
        · skip
          obtain ⟨rfl, rfl, hy⟩ := hq2
          exfalso
          omega
        · skip
          obtain ⟨rfl, rfl, hy⟩ := hq2
          exact K _ _ _ _ ⟨w152, w165, tl, _, _, _, _, _, _, _, _, _, _, _, _, _, _, _, _, _, _, _, _, _, _, _, _, _, _, _, _, _, _, _, _, _, g0, g1, g2, xd0, xd1, xd2, (by assumption), (by assumption), hI, ⟨r0, r1, r2, r3, r4, i0, i1, i2, ttp, ttf, ttq, ttg, tte0, tte1, tte2, ttn0, ttn1, ttn2, ttn3, ttx, ttx0, ttx1, ttx2⟩, hP, hD, hS, hl, by omega, by omega⟩
        · skip
          obtain ⟨rfl, hy⟩ := hq2
          exfalso
          omega
      · skip
        obtain ⟨rfl, hz⟩ := hq
        rcases hq2 with hq2 | hq2 | hq2 | hq2
        · skip
          obtain ⟨rfl, rfl, hy⟩ := hq2
          exfalso
          omega
        · skip
          obtain ⟨rfl, rfl, hy⟩ := hq2
          exfalso
          omega
        · skip
          obtain ⟨rfl, rfl, hy⟩ := hq2
          exfalso
          omega
        · skip
          obtain ⟨rfl, hy⟩ := hq2
          exact K _ _ _ _ ⟨w152, w165, tl, _, _, _, _, _, _, _, _, _, _, _, _, _, _, _, _, _, _, _, _, _, _, _, _, _, _, _, _, _, _, _, _, _, g0, g1, g2, xd0, xd1, xd2, (by assumption), (by assumption), hI, ⟨r0, r1, r2, r3, r4, i0, i1, i2, ttp, ttf, ttq, ttg, tte0, tte1, tte2, (nt_paO (m := av10.toInt.toNat) ttn0 (hy.2.1) (by omega) (by omega) (by decide)), (nt_paO (m := av10.toInt.toNat) ttn1 (hy.2.1) (by omega) (by omega) (by decide)), (nt_paO (m := av10.toInt.toNat) ttn2 (hy.2.1) (by omega) (by omega) (by decide)), (nt_pa ttn1 ttn3 (hz.2.1) (hy.2.1) (by omega) (by omega) (by omega)), ttx, ttx0, ttx1, ttx2⟩, hP, hD, hS, hl, by omega, by omega⟩
    · have hav6 := h9
      refine cx_spasteTlo (ob := x) (a1 := 1) (a2 := av4) (a3 := av6) (a4 := av8) (a5 := av10) (rest := []) C1 (by decide) hav6 hB hP hD hS hl.1 (Nat.le_of_ble_eq_true rfl) ⟨by omega, by omega⟩ dL_law_1313 (fun an167 w168  H locs hq hB hP hD hS => ?_)
      have hP := P_perm (List.perm_append_comm_assoc w168 wm tl) hP
      have hD := D_perm (List.perm_append_comm_assoc w168 wm tl) hD
      refine lv_pop hx hb dL_law_1316 rfl ?_
      refine lv_aload_n hx hb dL_law_1317 rfl (lv_at hl 1 rfl) ?_
      refine lv_aload_n hx hb dL_law_1318 rfl (lv_at hl 3 rfl) ?_
      refine lv_iload_n hx hb dL_law_1319 rfl (lv_at hl 0 rfl) ?_
      refine lv_iconst (v := 1) hx hb dL_law_1320 (by decide) ?_
      refine lv_iadd hx hb dL_law_1321 ?_
      refine lv_topi (fun jv169 ejv169 => ?_)
      obtain rfl : jv1 = jv169 := ejv1.trans ejv169.symm
      refine va_sld hx hb hX hbl hbA hS (sl_in (c := 1) ejv1 (by decide) (by decide) hi hL) dL_law_1322 ?_
      refine lv_topi (fun av170 eav170 => ?_)
      obtain rfl : 1 = av170 := eav2.trans eav170.symm
      refine lv_aload_n hx hb dL_law_1323 rfl (lv_at hl 3 rfl) ?_
      refine lv_iload_n hx hb dL_law_1324 rfl (lv_at hl 0 rfl) ?_
      refine lv_iconst (v := 2) hx hb dL_law_1325 (by decide) ?_
      refine lv_iadd hx hb dL_law_1326 ?_
      refine lv_topi (fun jv171 ejv171 => ?_)
      obtain rfl : jv3 = jv171 := ejv3.trans ejv171.symm
      refine va_sld hx hb hX hbl hbA hS (sl_in (c := 2) ejv3 (by decide) (by decide) hi hL) dL_law_1327 ?_
      refine lv_topi (fun av172 eav172 => ?_)
      obtain rfl : av4 = av172 := eav4.trans eav172.symm
      refine lv_aload_n hx hb dL_law_1328 rfl (lv_at hl 3 rfl) ?_
      refine lv_iload_n hx hb dL_law_1329 rfl (lv_at hl 0 rfl) ?_
      refine lv_iconst (v := 3) hx hb dL_law_1330 (by decide) ?_
      refine lv_iadd hx hb dL_law_1331 ?_
      refine lv_topi (fun jv173 ejv173 => ?_)
      obtain rfl : jv5 = jv173 := ejv5.trans ejv173.symm
      refine va_sld hx hb hX hbl hbA hS (sl_in (c := 3) ejv5 (by decide) (by decide) hi hL) dL_law_1332 ?_
      refine lv_topi (fun av174 eav174 => ?_)
      obtain rfl : av6 = av174 := eav6.trans eav174.symm
      refine lv_aload_n hx hb dL_law_1333 rfl (lv_at hl 3 rfl) ?_
      refine lv_iload_n hx hb dL_law_1334 rfl (lv_at hl 0 rfl) ?_
      refine lv_iconst (v := 4) hx hb dL_law_1335 (by decide) ?_
      refine lv_iadd hx hb dL_law_1336 ?_
      refine lv_topi (fun jv175 ejv175 => ?_)
      obtain rfl : jv7 = jv175 := ejv7.trans ejv175.symm
      refine va_sld hx hb hX hbl hbA hS (sl_in (c := 4) ejv7 (by decide) (by decide) hi hL) dL_law_1337 ?_
      refine lv_topi (fun av176 eav176 => ?_)
      obtain rfl : av8 = av176 := eav8.trans eav176.symm
      refine lv_aload_n hx hb dL_law_1338 rfl (lv_at hl 3 rfl) ?_
      refine lv_iload_n hx hb dL_law_1339 rfl (lv_at hl 0 rfl) ?_
      refine lv_iconst (v := 5) hx hb dL_law_1340 (by decide) ?_
      refine lv_iadd hx hb dL_law_1341 ?_
      refine lv_topi (fun jv177 ejv177 => ?_)
      obtain rfl : jv9 = jv177 := ejv9.trans ejv177.symm
      refine va_sld hx hb hX hbl hbA hS (sl_in (c := 5) ejv9 (by decide) (by decide) hi hL) dL_law_1342 ?_
      refine lv_topi (fun av178 eav178 => ?_)
      obtain rfl : av10 = av178 := eav10.trans eav178.symm
      have hM0 := hM
      refine cx_spasteMTlo (ob := q) (a1 := 1) (a2 := av4) (a3 := av6) (a4 := av8) (a5 := av10) (rest := []) C1 (by decide) hav6 hM hP hD hS hl.1 (Nat.le_of_ble_eq_true rfl) ⟨by omega, by omega⟩ dL_law_1343 (fun an179 w180  H locs hq2 hM hP hD hS => ?_)
      have hP := P_perm (List.perm_append_comm_assoc w180 w168 tl) hP
      have hD := D_perm (List.perm_append_comm_assoc w180 w168 tl) hD
      refine lv_pop hx hb dL_law_1346 rfl ?_
      refine lv_goto (tgt := 1350) hx hb dL_law_1347 (by decide) ?_
      exact K _ _ _ _ ⟨w168, w180, tl, ts, fl0, wi0, sz0, fl1, wi1, sz1, fl2, wi2, sz2, fl3, wi3, sz3, tp, rf, rp, nb0, nb1, nb2, nb3, g, xd, f, ta, fm, fw, fh, tq, fk, fp, ww, wv, nm, g0, g1, g2, xd0, xd1, xd2, hB, hM, hI, ⟨r0, r1, r2, r3, r4, i0, i1, i2, ttp, ttf, ttq, ttg, tte0, tte1, tte2, ttn0, ttn1, ttn2, ttn3, ttx, ttx0, ttx1, ttx2⟩, hP, hD, hS, hl, by omega, by omega⟩
    · have hav6 := h9
      refine cx_spasteThi (ob := x) (a1 := 1) (a2 := av4) (a3 := av6) (a4 := av8) (a5 := av10) (rest := []) C1 (by decide) hav6 hB hP hD hS hl.1 (Nat.le_of_ble_eq_true rfl) ⟨by omega, by omega⟩ dL_law_1313 (fun an181 w182  H locs hq hB hP hD hS => ?_)
      have hP := P_perm (List.perm_append_comm_assoc w182 wm tl) hP
      have hD := D_perm (List.perm_append_comm_assoc w182 wm tl) hD
      refine lv_pop hx hb dL_law_1316 rfl ?_
      refine lv_aload_n hx hb dL_law_1317 rfl (lv_at hl 1 rfl) ?_
      refine lv_aload_n hx hb dL_law_1318 rfl (lv_at hl 3 rfl) ?_
      refine lv_iload_n hx hb dL_law_1319 rfl (lv_at hl 0 rfl) ?_
      refine lv_iconst (v := 1) hx hb dL_law_1320 (by decide) ?_
      refine lv_iadd hx hb dL_law_1321 ?_
      refine lv_topi (fun jv183 ejv183 => ?_)
      obtain rfl : jv1 = jv183 := ejv1.trans ejv183.symm
      refine va_sld hx hb hX hbl hbA hS (sl_in (c := 1) ejv1 (by decide) (by decide) hi hL) dL_law_1322 ?_
      refine lv_topi (fun av184 eav184 => ?_)
      obtain rfl : 1 = av184 := eav2.trans eav184.symm
      refine lv_aload_n hx hb dL_law_1323 rfl (lv_at hl 3 rfl) ?_
      refine lv_iload_n hx hb dL_law_1324 rfl (lv_at hl 0 rfl) ?_
      refine lv_iconst (v := 2) hx hb dL_law_1325 (by decide) ?_
      refine lv_iadd hx hb dL_law_1326 ?_
      refine lv_topi (fun jv185 ejv185 => ?_)
      obtain rfl : jv3 = jv185 := ejv3.trans ejv185.symm
      refine va_sld hx hb hX hbl hbA hS (sl_in (c := 2) ejv3 (by decide) (by decide) hi hL) dL_law_1327 ?_
      refine lv_topi (fun av186 eav186 => ?_)
      obtain rfl : av4 = av186 := eav4.trans eav186.symm
      refine lv_aload_n hx hb dL_law_1328 rfl (lv_at hl 3 rfl) ?_
      refine lv_iload_n hx hb dL_law_1329 rfl (lv_at hl 0 rfl) ?_
      refine lv_iconst (v := 3) hx hb dL_law_1330 (by decide) ?_
      refine lv_iadd hx hb dL_law_1331 ?_
      refine lv_topi (fun jv187 ejv187 => ?_)
      obtain rfl : jv5 = jv187 := ejv5.trans ejv187.symm
      refine va_sld hx hb hX hbl hbA hS (sl_in (c := 3) ejv5 (by decide) (by decide) hi hL) dL_law_1332 ?_
      refine lv_topi (fun av188 eav188 => ?_)
      obtain rfl : av6 = av188 := eav6.trans eav188.symm
      refine lv_aload_n hx hb dL_law_1333 rfl (lv_at hl 3 rfl) ?_
      refine lv_iload_n hx hb dL_law_1334 rfl (lv_at hl 0 rfl) ?_
      refine lv_iconst (v := 4) hx hb dL_law_1335 (by decide) ?_
      refine lv_iadd hx hb dL_law_1336 ?_
      refine lv_topi (fun jv189 ejv189 => ?_)
      obtain rfl : jv7 = jv189 := ejv7.trans ejv189.symm
      refine va_sld hx hb hX hbl hbA hS (sl_in (c := 4) ejv7 (by decide) (by decide) hi hL) dL_law_1337 ?_
      refine lv_topi (fun av190 eav190 => ?_)
      obtain rfl : av8 = av190 := eav8.trans eav190.symm
      refine lv_aload_n hx hb dL_law_1338 rfl (lv_at hl 3 rfl) ?_
      refine lv_iload_n hx hb dL_law_1339 rfl (lv_at hl 0 rfl) ?_
      refine lv_iconst (v := 5) hx hb dL_law_1340 (by decide) ?_
      refine lv_iadd hx hb dL_law_1341 ?_
      refine lv_topi (fun jv191 ejv191 => ?_)
      obtain rfl : jv9 = jv191 := ejv9.trans ejv191.symm
      refine va_sld hx hb hX hbl hbA hS (sl_in (c := 5) ejv9 (by decide) (by decide) hi hL) dL_law_1342 ?_
      refine lv_topi (fun av192 eav192 => ?_)
      obtain rfl : av10 = av192 := eav10.trans eav192.symm
      have hM0 := hM
      refine cx_spasteMThi (ob := q) (a1 := 1) (a2 := av4) (a3 := av6) (a4 := av8) (a5 := av10) (rest := []) C1 (by decide) hav6 hM hP hD hS hl.1 (Nat.le_of_ble_eq_true rfl) ⟨by omega, by omega⟩ dL_law_1343 (fun an193 w194  H locs hq2 hM hP hD hS => ?_)
      have hP := P_perm (List.perm_append_comm_assoc w194 w182 tl) hP
      have hD := D_perm (List.perm_append_comm_assoc w194 w182 tl) hD
      refine lv_pop hx hb dL_law_1346 rfl ?_
      refine lv_goto (tgt := 1350) hx hb dL_law_1347 (by decide) ?_
      exact K _ _ _ _ ⟨w182, w194, tl, ts, fl0, wi0, sz0, fl1, wi1, sz1, fl2, wi2, sz2, fl3, wi3, sz3, tp, rf, rp, nb0, nb1, nb2, nb3, g, xd, f, ta, fm, fw, fh, tq, fk, fp, ww, wv, nm, g0, g1, g2, xd0, xd1, xd2, hB, hM, hI, ⟨r0, r1, r2, r3, r4, i0, i1, i2, ttp, ttf, ttq, ttg, tte0, tte1, tte2, ttn0, ttn1, ttn2, ttn3, ttx, ttx0, ttx1, ttx2⟩, hP, hD, hS, hl, by omega, by omega⟩
  · obtain rfl : 2 = av2 := h9.symm
    rcases so_cases av6 with h9 | h9 | h9 | h9 | h9 | h9
    · obtain rfl : 0 = av6 := h9.symm
      refine cx_fpaste20 (ob := x) (a2 := av4) (a4 := av8) (a5 := av10) (rest := []) C1  hB hP hD hS hl.1 (Nat.le_of_ble_eq_true rfl) ⟨by omega, by omega⟩ dL_law_1313 (fun an195 w196 nb0_197 H locs hq hB hP hD hS => ?_)
      have hP := P_perm (List.perm_append_comm_assoc w196 wm tl) hP
      have hD := D_perm (List.perm_append_comm_assoc w196 wm tl) hD
      refine lv_pop hx hb dL_law_1316 rfl ?_
      refine lv_aload_n hx hb dL_law_1317 rfl (lv_at hl 1 rfl) ?_
      refine lv_aload_n hx hb dL_law_1318 rfl (lv_at hl 3 rfl) ?_
      refine lv_iload_n hx hb dL_law_1319 rfl (lv_at hl 0 rfl) ?_
      refine lv_iconst (v := 1) hx hb dL_law_1320 (by decide) ?_
      refine lv_iadd hx hb dL_law_1321 ?_
      refine lv_topi (fun jv198 ejv198 => ?_)
      obtain rfl : jv1 = jv198 := ejv1.trans ejv198.symm
      refine va_sld hx hb hX hbl hbA hS (sl_in (c := 1) ejv1 (by decide) (by decide) hi hL) dL_law_1322 ?_
      refine lv_topi (fun av199 eav199 => ?_)
      obtain rfl : 2 = av199 := eav2.trans eav199.symm
      refine lv_aload_n hx hb dL_law_1323 rfl (lv_at hl 3 rfl) ?_
      refine lv_iload_n hx hb dL_law_1324 rfl (lv_at hl 0 rfl) ?_
      refine lv_iconst (v := 2) hx hb dL_law_1325 (by decide) ?_
      refine lv_iadd hx hb dL_law_1326 ?_
      refine lv_topi (fun jv200 ejv200 => ?_)
      obtain rfl : jv3 = jv200 := ejv3.trans ejv200.symm
      refine va_sld hx hb hX hbl hbA hS (sl_in (c := 2) ejv3 (by decide) (by decide) hi hL) dL_law_1327 ?_
      refine lv_topi (fun av201 eav201 => ?_)
      obtain rfl : av4 = av201 := eav4.trans eav201.symm
      refine lv_aload_n hx hb dL_law_1328 rfl (lv_at hl 3 rfl) ?_
      refine lv_iload_n hx hb dL_law_1329 rfl (lv_at hl 0 rfl) ?_
      refine lv_iconst (v := 3) hx hb dL_law_1330 (by decide) ?_
      refine lv_iadd hx hb dL_law_1331 ?_
      refine lv_topi (fun jv202 ejv202 => ?_)
      obtain rfl : jv5 = jv202 := ejv5.trans ejv202.symm
      refine va_sld hx hb hX hbl hbA hS (sl_in (c := 3) ejv5 (by decide) (by decide) hi hL) dL_law_1332 ?_
      refine lv_topi (fun av203 eav203 => ?_)
      obtain rfl : 0 = av203 := eav6.trans eav203.symm
      refine lv_aload_n hx hb dL_law_1333 rfl (lv_at hl 3 rfl) ?_
      refine lv_iload_n hx hb dL_law_1334 rfl (lv_at hl 0 rfl) ?_
      refine lv_iconst (v := 4) hx hb dL_law_1335 (by decide) ?_
      refine lv_iadd hx hb dL_law_1336 ?_
      refine lv_topi (fun jv204 ejv204 => ?_)
      obtain rfl : jv7 = jv204 := ejv7.trans ejv204.symm
      refine va_sld hx hb hX hbl hbA hS (sl_in (c := 4) ejv7 (by decide) (by decide) hi hL) dL_law_1337 ?_
      refine lv_topi (fun av205 eav205 => ?_)
      obtain rfl : av8 = av205 := eav8.trans eav205.symm
      refine lv_aload_n hx hb dL_law_1338 rfl (lv_at hl 3 rfl) ?_
      refine lv_iload_n hx hb dL_law_1339 rfl (lv_at hl 0 rfl) ?_
      refine lv_iconst (v := 5) hx hb dL_law_1340 (by decide) ?_
      refine lv_iadd hx hb dL_law_1341 ?_
      refine lv_topi (fun jv206 ejv206 => ?_)
      obtain rfl : jv9 = jv206 := ejv9.trans ejv206.symm
      refine va_sld hx hb hX hbl hbA hS (sl_in (c := 5) ejv9 (by decide) (by decide) hi hL) dL_law_1342 ?_
      refine lv_topi (fun av207 eav207 => ?_)
      obtain rfl : av10 = av207 := eav10.trans eav207.symm
      have hM0 := hM
      refine cx_fpasteM20 (ob := q) (a2 := av4) (a4 := av8) (a5 := av10) (rest := []) C1  hM hP hD hS hl.1 (Nat.le_of_ble_eq_true rfl) ⟨by omega, by omega⟩ dL_law_1343 (fun an208 w209 nm_210 H locs hq2 hM hP hD hS => ?_)
      have hP := P_perm (List.perm_append_comm_assoc w209 w196 tl) hP
      have hD := D_perm (List.perm_append_comm_assoc w209 w196 tl) hD
      refine lv_pop hx hb dL_law_1346 rfl ?_
      refine lv_goto (tgt := 1350) hx hb dL_law_1347 (by decide) ?_
      unfold sR at r1 r2 r3 r4
      have hm09 := BM_n hM0 0
      have hm19 := BM_n hM0 1
      have hm29 := BM_n hM0 2
      have hm39 := BM_n hM0 3
      rcases hq with hq | hq | hq | hq
      · skip
        obtain ⟨rfl, rfl, hz⟩ := hq
        rcases hq2 with hq2 | hq2 | hq2 | hq2
        · skip
          obtain ⟨rfl, rfl, hy⟩ := hq2
          exact K _ _ _ _ ⟨w196, w209, tl, _, _, _, _, _, _, _, _, _, _, _, _, _, _, _, _, _, _, _, _, _, _, _, _, _, _, _, _, _, _, _, _, _, g0, g1, g2, xd0, xd1, xd2, (by assumption), (by assumption), hI, ⟨r0, r1, r2, r3, r4, i0, i1, i2, ttp, ttf, ttq, ttg, tte0, tte1, tte2, ttn0, ttn1, ttn2, ttn3, ttx, ttx0, ttx1, ttx2⟩, hP, hD, hS, hl, by omega, by omega⟩
        · skip
          obtain ⟨rfl, rfl, hy⟩ := hq2
          exfalso
          omega
        · skip
          obtain ⟨rfl, rfl, hy⟩ := hq2
          exfalso
          omega
        · skip
          obtain ⟨rfl, hy⟩ := hq2
          exfalso
          omega
      · skip
        obtain ⟨rfl, rfl, hz⟩ := hq
        rcases hq2 with hq2 | hq2 | hq2 | hq2
        · skip
          obtain ⟨rfl, rfl, hy⟩ := hq2
          exfalso
          omega
        · skip
          obtain ⟨rfl, rfl, hy⟩ := hq2
          exact K _ _ _ _ ⟨w196, w209, tl, _, _, _, _, _, _, _, _, _, _, _, _, _, _, _, _, _, _, _, _, _, _, _, _, _, _, _, _, _, _, _, _, _, g0, g1, g2, xd0, xd1, xd2, (by assumption), (by assumption), hI, ⟨r0, r1, r2, r3, r4, i0, i1, i2, ttp, ttf, ttq, ttg, tte0, tte1, tte2, ttn0, ttn1, ttn2, ttn3, ttx, ttx0, ttx1, ttx2⟩, hP, hD, hS, hl, by omega, by omega⟩
        · skip
          obtain ⟨rfl, rfl, hy⟩ := hq2
          exfalso
          omega
        · skip
          obtain ⟨rfl, hy⟩ := hq2
          exfalso
          omega
      · skip
        obtain ⟨rfl, rfl, hz⟩ := hq
        rcases hq2 with hq2 | hq2 | hq2 | hq2
        · skip
          obtain ⟨rfl, rfl, hy⟩ := hq2
          exfalso
          omega
        · skip
          obtain ⟨rfl, rfl, hy⟩ := hq2
          exfalso
          omega
        · skip
          obtain ⟨rfl, rfl, hy⟩ := hq2
          exact K _ _ _ _ ⟨w196, w209, tl, _, _, _, _, _, _, _, _, _, _, _, _, _, _, _, _, _, _, _, _, _, _, _, _, _, _, _, _, _, _, _, _, _, g0, g1, g2, xd0, xd1, xd2, (by assumption), (by assumption), hI, ⟨r0, r1, r2, r3, r4, i0, i1, i2, ttp, ttf, ttq, ttg, tte0, tte1, tte2, ttn0, ttn1, ttn2, ttn3, ttx, ttx0, ttx1, ttx2⟩, hP, hD, hS, hl, by omega, by omega⟩
        · skip
          obtain ⟨rfl, hy⟩ := hq2
          exfalso
          omega
      · skip
        obtain ⟨rfl, hz⟩ := hq
        rcases hq2 with hq2 | hq2 | hq2 | hq2
        · skip
          obtain ⟨rfl, rfl, hy⟩ := hq2
          exfalso
          omega
        · skip
          obtain ⟨rfl, rfl, hy⟩ := hq2
          exfalso
          omega
        · skip
          obtain ⟨rfl, rfl, hy⟩ := hq2
          exfalso
          omega
        · skip
          obtain ⟨rfl, hy⟩ := hq2
          exact K _ _ _ _ ⟨w196, w209, tl, _, _, _, _, _, _, _, _, _, _, _, _, _, _, _, _, _, _, _, _, _, _, _, _, _, _, _, _, _, _, _, _, _, g0, g1, g2, xd0, xd1, xd2, (by assumption), (by assumption), hI, ⟨r0, r1, r2, r3, r4, i0, i1, i2, ttp, ttf, ttq, ttg, tte0, tte1, tte2, (nt_pa ttn2 ttn0 (hz.2.1) (hy.2.1) (by omega) (by omega) (by omega)), (nt_paO (m := av10.toInt.toNat) ttn1 (hy.2.1) (by omega) (by omega) (by decide)), (nt_paO (m := av10.toInt.toNat) ttn2 (hy.2.1) (by omega) (by omega) (by decide)), (nt_paO (m := av10.toInt.toNat) ttn3 (hy.2.1) (by omega) (by omega) (by decide)), ttx, ttx0, ttx1, ttx2⟩, hP, hD, hS, hl, by omega, by omega⟩
    · obtain rfl : 1 = av6 := h9.symm
      refine cx_fpaste21 (ob := x) (a2 := av4) (a4 := av8) (a5 := av10) (rest := []) C1  hB hP hD hS hl.1 (Nat.le_of_ble_eq_true rfl) ⟨by omega, by omega⟩ dL_law_1313 (fun an211 w212 nb1_213 H locs hq hB hP hD hS => ?_)
      have hP := P_perm (List.perm_append_comm_assoc w212 wm tl) hP
      have hD := D_perm (List.perm_append_comm_assoc w212 wm tl) hD
      refine lv_pop hx hb dL_law_1316 rfl ?_
      refine lv_aload_n hx hb dL_law_1317 rfl (lv_at hl 1 rfl) ?_
      refine lv_aload_n hx hb dL_law_1318 rfl (lv_at hl 3 rfl) ?_
      refine lv_iload_n hx hb dL_law_1319 rfl (lv_at hl 0 rfl) ?_
      refine lv_iconst (v := 1) hx hb dL_law_1320 (by decide) ?_
      refine lv_iadd hx hb dL_law_1321 ?_
      refine lv_topi (fun jv214 ejv214 => ?_)
      obtain rfl : jv1 = jv214 := ejv1.trans ejv214.symm
      refine va_sld hx hb hX hbl hbA hS (sl_in (c := 1) ejv1 (by decide) (by decide) hi hL) dL_law_1322 ?_
      refine lv_topi (fun av215 eav215 => ?_)
      obtain rfl : 2 = av215 := eav2.trans eav215.symm
      refine lv_aload_n hx hb dL_law_1323 rfl (lv_at hl 3 rfl) ?_
      refine lv_iload_n hx hb dL_law_1324 rfl (lv_at hl 0 rfl) ?_
      refine lv_iconst (v := 2) hx hb dL_law_1325 (by decide) ?_
      refine lv_iadd hx hb dL_law_1326 ?_
      refine lv_topi (fun jv216 ejv216 => ?_)
      obtain rfl : jv3 = jv216 := ejv3.trans ejv216.symm
      refine va_sld hx hb hX hbl hbA hS (sl_in (c := 2) ejv3 (by decide) (by decide) hi hL) dL_law_1327 ?_
      refine lv_topi (fun av217 eav217 => ?_)
      obtain rfl : av4 = av217 := eav4.trans eav217.symm
      refine lv_aload_n hx hb dL_law_1328 rfl (lv_at hl 3 rfl) ?_
      refine lv_iload_n hx hb dL_law_1329 rfl (lv_at hl 0 rfl) ?_
      refine lv_iconst (v := 3) hx hb dL_law_1330 (by decide) ?_
      refine lv_iadd hx hb dL_law_1331 ?_
      refine lv_topi (fun jv218 ejv218 => ?_)
      obtain rfl : jv5 = jv218 := ejv5.trans ejv218.symm
      refine va_sld hx hb hX hbl hbA hS (sl_in (c := 3) ejv5 (by decide) (by decide) hi hL) dL_law_1332 ?_
      refine lv_topi (fun av219 eav219 => ?_)
      obtain rfl : 1 = av219 := eav6.trans eav219.symm
      refine lv_aload_n hx hb dL_law_1333 rfl (lv_at hl 3 rfl) ?_
      refine lv_iload_n hx hb dL_law_1334 rfl (lv_at hl 0 rfl) ?_
      refine lv_iconst (v := 4) hx hb dL_law_1335 (by decide) ?_
      refine lv_iadd hx hb dL_law_1336 ?_
      refine lv_topi (fun jv220 ejv220 => ?_)
      obtain rfl : jv7 = jv220 := ejv7.trans ejv220.symm
      refine va_sld hx hb hX hbl hbA hS (sl_in (c := 4) ejv7 (by decide) (by decide) hi hL) dL_law_1337 ?_
      refine lv_topi (fun av221 eav221 => ?_)
      obtain rfl : av8 = av221 := eav8.trans eav221.symm
      refine lv_aload_n hx hb dL_law_1338 rfl (lv_at hl 3 rfl) ?_
      refine lv_iload_n hx hb dL_law_1339 rfl (lv_at hl 0 rfl) ?_
      refine lv_iconst (v := 5) hx hb dL_law_1340 (by decide) ?_
      refine lv_iadd hx hb dL_law_1341 ?_
      refine lv_topi (fun jv222 ejv222 => ?_)
      obtain rfl : jv9 = jv222 := ejv9.trans ejv222.symm
      refine va_sld hx hb hX hbl hbA hS (sl_in (c := 5) ejv9 (by decide) (by decide) hi hL) dL_law_1342 ?_
      refine lv_topi (fun av223 eav223 => ?_)
      obtain rfl : av10 = av223 := eav10.trans eav223.symm
      have hM0 := hM
      refine cx_fpasteM21 (ob := q) (a2 := av4) (a4 := av8) (a5 := av10) (rest := []) C1  hM hP hD hS hl.1 (Nat.le_of_ble_eq_true rfl) ⟨by omega, by omega⟩ dL_law_1343 (fun an224 w225 nm_226 H locs hq2 hM hP hD hS => ?_)
      have hP := P_perm (List.perm_append_comm_assoc w225 w212 tl) hP
      have hD := D_perm (List.perm_append_comm_assoc w225 w212 tl) hD
      refine lv_pop hx hb dL_law_1346 rfl ?_
      refine lv_goto (tgt := 1350) hx hb dL_law_1347 (by decide) ?_
      unfold sR at r1 r2 r3 r4
      have hm09 := BM_n hM0 0
      have hm19 := BM_n hM0 1
      have hm29 := BM_n hM0 2
      have hm39 := BM_n hM0 3
      rcases hq with hq | hq | hq | hq
      · skip
        obtain ⟨rfl, rfl, hz⟩ := hq
        rcases hq2 with hq2 | hq2 | hq2 | hq2
        · skip
          obtain ⟨rfl, rfl, hy⟩ := hq2
          exact K _ _ _ _ ⟨w212, w225, tl, _, _, _, _, _, _, _, _, _, _, _, _, _, _, _, _, _, _, _, _, _, _, _, _, _, _, _, _, _, _, _, _, _, g0, g1, g2, xd0, xd1, xd2, (by assumption), (by assumption), hI, ⟨r0, r1, r2, r3, r4, i0, i1, i2, ttp, ttf, ttq, ttg, tte0, tte1, tte2, ttn0, ttn1, ttn2, ttn3, ttx, ttx0, ttx1, ttx2⟩, hP, hD, hS, hl, by omega, by omega⟩
        · skip
          obtain ⟨rfl, rfl, hy⟩ := hq2
          exfalso
          omega
        · skip
          obtain ⟨rfl, rfl, hy⟩ := hq2
          exfalso
          omega
        · skip
          obtain ⟨rfl, hy⟩ := hq2
          exfalso
          omega
      · skip
        obtain ⟨rfl, rfl, hz⟩ := hq
        rcases hq2 with hq2 | hq2 | hq2 | hq2
        · skip
          obtain ⟨rfl, rfl, hy⟩ := hq2
          exfalso
          omega
        · skip
          obtain ⟨rfl, rfl, hy⟩ := hq2
          exact K _ _ _ _ ⟨w212, w225, tl, _, _, _, _, _, _, _, _, _, _, _, _, _, _, _, _, _, _, _, _, _, _, _, _, _, _, _, _, _, _, _, _, _, g0, g1, g2, xd0, xd1, xd2, (by assumption), (by assumption), hI, ⟨r0, r1, r2, r3, r4, i0, i1, i2, ttp, ttf, ttq, ttg, tte0, tte1, tte2, ttn0, ttn1, ttn2, ttn3, ttx, ttx0, ttx1, ttx2⟩, hP, hD, hS, hl, by omega, by omega⟩
        · skip
          obtain ⟨rfl, rfl, hy⟩ := hq2
          exfalso
          omega
        · skip
          obtain ⟨rfl, hy⟩ := hq2
          exfalso
          omega
      · skip
        obtain ⟨rfl, rfl, hz⟩ := hq
        rcases hq2 with hq2 | hq2 | hq2 | hq2
        · skip
          obtain ⟨rfl, rfl, hy⟩ := hq2
          exfalso
          omega
        · skip
          obtain ⟨rfl, rfl, hy⟩ := hq2
          exfalso
          omega
        · skip
          obtain ⟨rfl, rfl, hy⟩ := hq2
          exact K _ _ _ _ ⟨w212, w225, tl, _, _, _, _, _, _, _, _, _, _, _, _, _, _, _, _, _, _, _, _, _, _, _, _, _, _, _, _, _, _, _, _, _, g0, g1, g2, xd0, xd1, xd2, (by assumption), (by assumption), hI, ⟨r0, r1, r2, r3, r4, i0, i1, i2, ttp, ttf, ttq, ttg, tte0, tte1, tte2, ttn0, ttn1, ttn2, ttn3, ttx, ttx0, ttx1, ttx2⟩, hP, hD, hS, hl, by omega, by omega⟩
        · skip
          obtain ⟨rfl, hy⟩ := hq2
          exfalso
          omega
      · skip
        obtain ⟨rfl, hz⟩ := hq
        rcases hq2 with hq2 | hq2 | hq2 | hq2
        · skip
          obtain ⟨rfl, rfl, hy⟩ := hq2
          exfalso
          omega
        · skip
          obtain ⟨rfl, rfl, hy⟩ := hq2
          exfalso
          omega
        · skip
          obtain ⟨rfl, rfl, hy⟩ := hq2
          exfalso
          omega
        · skip
          obtain ⟨rfl, hy⟩ := hq2
          exact K _ _ _ _ ⟨w212, w225, tl, _, _, _, _, _, _, _, _, _, _, _, _, _, _, _, _, _, _, _, _, _, _, _, _, _, _, _, _, _, _, _, _, _, g0, g1, g2, xd0, xd1, xd2, (by assumption), (by assumption), hI, ⟨r0, r1, r2, r3, r4, i0, i1, i2, ttp, ttf, ttq, ttg, tte0, tte1, tte2, (nt_paO (m := av10.toInt.toNat) ttn0 (hy.2.1) (by omega) (by omega) (by decide)), (nt_pa ttn2 ttn1 (hz.2.1) (hy.2.1) (by omega) (by omega) (by omega)), (nt_paO (m := av10.toInt.toNat) ttn2 (hy.2.1) (by omega) (by omega) (by decide)), (nt_paO (m := av10.toInt.toNat) ttn3 (hy.2.1) (by omega) (by omega) (by decide)), ttx, ttx0, ttx1, ttx2⟩, hP, hD, hS, hl, by omega, by omega⟩
    · obtain rfl : 2 = av6 := h9.symm
      refine cx_fpaste22 (ob := x) (a2 := av4) (a4 := av8) (a5 := av10) (rest := []) C1  hB hP hD hS hl.1 (Nat.le_of_ble_eq_true rfl) ⟨by omega, by omega⟩ dL_law_1313 (fun an227 w228 nb2_229 H locs hq hB hP hD hS => ?_)
      have hP := P_perm (List.perm_append_comm_assoc w228 wm tl) hP
      have hD := D_perm (List.perm_append_comm_assoc w228 wm tl) hD
      refine lv_pop hx hb dL_law_1316 rfl ?_
      refine lv_aload_n hx hb dL_law_1317 rfl (lv_at hl 1 rfl) ?_
      refine lv_aload_n hx hb dL_law_1318 rfl (lv_at hl 3 rfl) ?_
      refine lv_iload_n hx hb dL_law_1319 rfl (lv_at hl 0 rfl) ?_
      refine lv_iconst (v := 1) hx hb dL_law_1320 (by decide) ?_
      refine lv_iadd hx hb dL_law_1321 ?_
      refine lv_topi (fun jv230 ejv230 => ?_)
      obtain rfl : jv1 = jv230 := ejv1.trans ejv230.symm
      refine va_sld hx hb hX hbl hbA hS (sl_in (c := 1) ejv1 (by decide) (by decide) hi hL) dL_law_1322 ?_
      refine lv_topi (fun av231 eav231 => ?_)
      obtain rfl : 2 = av231 := eav2.trans eav231.symm
      refine lv_aload_n hx hb dL_law_1323 rfl (lv_at hl 3 rfl) ?_
      refine lv_iload_n hx hb dL_law_1324 rfl (lv_at hl 0 rfl) ?_
      refine lv_iconst (v := 2) hx hb dL_law_1325 (by decide) ?_
      refine lv_iadd hx hb dL_law_1326 ?_
      refine lv_topi (fun jv232 ejv232 => ?_)
      obtain rfl : jv3 = jv232 := ejv3.trans ejv232.symm
      refine va_sld hx hb hX hbl hbA hS (sl_in (c := 2) ejv3 (by decide) (by decide) hi hL) dL_law_1327 ?_
      refine lv_topi (fun av233 eav233 => ?_)
      obtain rfl : av4 = av233 := eav4.trans eav233.symm
      refine lv_aload_n hx hb dL_law_1328 rfl (lv_at hl 3 rfl) ?_
      refine lv_iload_n hx hb dL_law_1329 rfl (lv_at hl 0 rfl) ?_
      refine lv_iconst (v := 3) hx hb dL_law_1330 (by decide) ?_
      refine lv_iadd hx hb dL_law_1331 ?_
      refine lv_topi (fun jv234 ejv234 => ?_)
      obtain rfl : jv5 = jv234 := ejv5.trans ejv234.symm
      refine va_sld hx hb hX hbl hbA hS (sl_in (c := 3) ejv5 (by decide) (by decide) hi hL) dL_law_1332 ?_
      refine lv_topi (fun av235 eav235 => ?_)
      obtain rfl : 2 = av235 := eav6.trans eav235.symm
      refine lv_aload_n hx hb dL_law_1333 rfl (lv_at hl 3 rfl) ?_
      refine lv_iload_n hx hb dL_law_1334 rfl (lv_at hl 0 rfl) ?_
      refine lv_iconst (v := 4) hx hb dL_law_1335 (by decide) ?_
      refine lv_iadd hx hb dL_law_1336 ?_
      refine lv_topi (fun jv236 ejv236 => ?_)
      obtain rfl : jv7 = jv236 := ejv7.trans ejv236.symm
      refine va_sld hx hb hX hbl hbA hS (sl_in (c := 4) ejv7 (by decide) (by decide) hi hL) dL_law_1337 ?_
      refine lv_topi (fun av237 eav237 => ?_)
      obtain rfl : av8 = av237 := eav8.trans eav237.symm
      refine lv_aload_n hx hb dL_law_1338 rfl (lv_at hl 3 rfl) ?_
      refine lv_iload_n hx hb dL_law_1339 rfl (lv_at hl 0 rfl) ?_
      refine lv_iconst (v := 5) hx hb dL_law_1340 (by decide) ?_
      refine lv_iadd hx hb dL_law_1341 ?_
      refine lv_topi (fun jv238 ejv238 => ?_)
      obtain rfl : jv9 = jv238 := ejv9.trans ejv238.symm
      refine va_sld hx hb hX hbl hbA hS (sl_in (c := 5) ejv9 (by decide) (by decide) hi hL) dL_law_1342 ?_
      refine lv_topi (fun av239 eav239 => ?_)
      obtain rfl : av10 = av239 := eav10.trans eav239.symm
      have hM0 := hM
      refine cx_fpasteM22 (ob := q) (a2 := av4) (a4 := av8) (a5 := av10) (rest := []) C1  hM hP hD hS hl.1 (Nat.le_of_ble_eq_true rfl) ⟨by omega, by omega⟩ dL_law_1343 (fun an240 w241 nm_242 H locs hq2 hM hP hD hS => ?_)
      have hP := P_perm (List.perm_append_comm_assoc w241 w228 tl) hP
      have hD := D_perm (List.perm_append_comm_assoc w241 w228 tl) hD
      refine lv_pop hx hb dL_law_1346 rfl ?_
      refine lv_goto (tgt := 1350) hx hb dL_law_1347 (by decide) ?_
      unfold sR at r1 r2 r3 r4
      have hm09 := BM_n hM0 0
      have hm19 := BM_n hM0 1
      have hm29 := BM_n hM0 2
      have hm39 := BM_n hM0 3
      rcases hq with hq | hq | hq
      · skip
        obtain ⟨rfl, rfl, hz⟩ := hq
        rcases hq2 with hq2 | hq2 | hq2
        · skip
          obtain ⟨rfl, rfl, hy⟩ := hq2
          exact K _ _ _ _ ⟨w228, w241, tl, _, _, _, _, _, _, _, _, _, _, _, _, _, _, _, _, _, _, _, _, _, _, _, _, _, _, _, _, _, _, _, _, _, g0, g1, g2, xd0, xd1, xd2, (by assumption), (by assumption), hI, ⟨r0, r1, r2, r3, r4, i0, i1, i2, ttp, ttf, ttq, ttg, tte0, tte1, tte2, ttn0, ttn1, ttn2, ttn3, ttx, ttx0, ttx1, ttx2⟩, hP, hD, hS, hl, by omega, by omega⟩
        · skip
          obtain ⟨rfl, rfl, hy⟩ := hq2
          exfalso
          omega
        · skip
          obtain ⟨rfl, hy⟩ := hq2
          exfalso
          omega
      · skip
        obtain ⟨rfl, rfl, hz⟩ := hq
        rcases hq2 with hq2 | hq2 | hq2
        · skip
          obtain ⟨rfl, rfl, hy⟩ := hq2
          exfalso
          omega
        · skip
          obtain ⟨rfl, rfl, hy⟩ := hq2
          exact K _ _ _ _ ⟨w228, w241, tl, _, _, _, _, _, _, _, _, _, _, _, _, _, _, _, _, _, _, _, _, _, _, _, _, _, _, _, _, _, _, _, _, _, g0, g1, g2, xd0, xd1, xd2, (by assumption), (by assumption), hI, ⟨r0, r1, r2, r3, r4, i0, i1, i2, ttp, ttf, ttq, ttg, tte0, tte1, tte2, ttn0, ttn1, ttn2, ttn3, ttx, ttx0, ttx1, ttx2⟩, hP, hD, hS, hl, by omega, by omega⟩
        · skip
          obtain ⟨rfl, hy⟩ := hq2
          exfalso
          omega
      · skip
        obtain ⟨rfl, hz⟩ := hq
        rcases hq2 with hq2 | hq2 | hq2
        · skip
          obtain ⟨rfl, rfl, hy⟩ := hq2
          exfalso
          omega
        · skip
          obtain ⟨rfl, rfl, hy⟩ := hq2
          exfalso
          omega
        · skip
          obtain ⟨rfl, hy⟩ := hq2
          exact K _ _ _ _ ⟨w228, w241, tl, _, _, _, _, _, _, _, _, _, _, _, _, _, _, _, _, _, _, _, _, _, _, _, _, _, _, _, _, _, _, _, _, _, g0, g1, g2, xd0, xd1, xd2, (by assumption), (by assumption), hI, ⟨r0, r1, r2, r3, r4, i0, i1, i2, ttp, ttf, ttq, ttg, tte0, tte1, tte2, (nt_paO (m := av10.toInt.toNat) ttn0 (hy.2.1) (by omega) (by omega) (by decide)), (nt_paO (m := av10.toInt.toNat) ttn1 (hy.2.1) (by omega) (by omega) (by decide)), (nt_pa ttn2 ttn2 (hz.2.1) (hy.2.1) (by omega) (by omega) (by omega)), (nt_paO (m := av10.toInt.toNat) ttn3 (hy.2.1) (by omega) (by omega) (by decide)), ttx, ttx0, ttx1, ttx2⟩, hP, hD, hS, hl, by omega, by omega⟩
    · obtain rfl : 3 = av6 := h9.symm
      refine cx_fpaste23 (ob := x) (a2 := av4) (a4 := av8) (a5 := av10) (rest := []) C1  hB hP hD hS hl.1 (Nat.le_of_ble_eq_true rfl) ⟨by omega, by omega⟩ dL_law_1313 (fun an243 w244 nb3_245 H locs hq hB hP hD hS => ?_)
      have hP := P_perm (List.perm_append_comm_assoc w244 wm tl) hP
      have hD := D_perm (List.perm_append_comm_assoc w244 wm tl) hD
      refine lv_pop hx hb dL_law_1316 rfl ?_
      refine lv_aload_n hx hb dL_law_1317 rfl (lv_at hl 1 rfl) ?_
      refine lv_aload_n hx hb dL_law_1318 rfl (lv_at hl 3 rfl) ?_
      refine lv_iload_n hx hb dL_law_1319 rfl (lv_at hl 0 rfl) ?_
      refine lv_iconst (v := 1) hx hb dL_law_1320 (by decide) ?_
      refine lv_iadd hx hb dL_law_1321 ?_
      refine lv_topi (fun jv246 ejv246 => ?_)
      obtain rfl : jv1 = jv246 := ejv1.trans ejv246.symm
      refine va_sld hx hb hX hbl hbA hS (sl_in (c := 1) ejv1 (by decide) (by decide) hi hL) dL_law_1322 ?_
      refine lv_topi (fun av247 eav247 => ?_)
      obtain rfl : 2 = av247 := eav2.trans eav247.symm
      refine lv_aload_n hx hb dL_law_1323 rfl (lv_at hl 3 rfl) ?_
      refine lv_iload_n hx hb dL_law_1324 rfl (lv_at hl 0 rfl) ?_
      refine lv_iconst (v := 2) hx hb dL_law_1325 (by decide) ?_
      refine lv_iadd hx hb dL_law_1326 ?_
      refine lv_topi (fun jv248 ejv248 => ?_)
      obtain rfl : jv3 = jv248 := ejv3.trans ejv248.symm
      refine va_sld hx hb hX hbl hbA hS (sl_in (c := 2) ejv3 (by decide) (by decide) hi hL) dL_law_1327 ?_
      refine lv_topi (fun av249 eav249 => ?_)
      obtain rfl : av4 = av249 := eav4.trans eav249.symm
      refine lv_aload_n hx hb dL_law_1328 rfl (lv_at hl 3 rfl) ?_
      refine lv_iload_n hx hb dL_law_1329 rfl (lv_at hl 0 rfl) ?_
      refine lv_iconst (v := 3) hx hb dL_law_1330 (by decide) ?_
      refine lv_iadd hx hb dL_law_1331 ?_
      refine lv_topi (fun jv250 ejv250 => ?_)
      obtain rfl : jv5 = jv250 := ejv5.trans ejv250.symm
      refine va_sld hx hb hX hbl hbA hS (sl_in (c := 3) ejv5 (by decide) (by decide) hi hL) dL_law_1332 ?_
      refine lv_topi (fun av251 eav251 => ?_)
      obtain rfl : 3 = av251 := eav6.trans eav251.symm
      refine lv_aload_n hx hb dL_law_1333 rfl (lv_at hl 3 rfl) ?_
      refine lv_iload_n hx hb dL_law_1334 rfl (lv_at hl 0 rfl) ?_
      refine lv_iconst (v := 4) hx hb dL_law_1335 (by decide) ?_
      refine lv_iadd hx hb dL_law_1336 ?_
      refine lv_topi (fun jv252 ejv252 => ?_)
      obtain rfl : jv7 = jv252 := ejv7.trans ejv252.symm
      refine va_sld hx hb hX hbl hbA hS (sl_in (c := 4) ejv7 (by decide) (by decide) hi hL) dL_law_1337 ?_
      refine lv_topi (fun av253 eav253 => ?_)
      obtain rfl : av8 = av253 := eav8.trans eav253.symm
      refine lv_aload_n hx hb dL_law_1338 rfl (lv_at hl 3 rfl) ?_
      refine lv_iload_n hx hb dL_law_1339 rfl (lv_at hl 0 rfl) ?_
      refine lv_iconst (v := 5) hx hb dL_law_1340 (by decide) ?_
      refine lv_iadd hx hb dL_law_1341 ?_
      refine lv_topi (fun jv254 ejv254 => ?_)
      obtain rfl : jv9 = jv254 := ejv9.trans ejv254.symm
      refine va_sld hx hb hX hbl hbA hS (sl_in (c := 5) ejv9 (by decide) (by decide) hi hL) dL_law_1342 ?_
      refine lv_topi (fun av255 eav255 => ?_)
      obtain rfl : av10 = av255 := eav10.trans eav255.symm
      have hM0 := hM
      refine cx_fpasteM23 (ob := q) (a2 := av4) (a4 := av8) (a5 := av10) (rest := []) C1  hM hP hD hS hl.1 (Nat.le_of_ble_eq_true rfl) ⟨by omega, by omega⟩ dL_law_1343 (fun an256 w257 nm_258 H locs hq2 hM hP hD hS => ?_)
      have hP := P_perm (List.perm_append_comm_assoc w257 w244 tl) hP
      have hD := D_perm (List.perm_append_comm_assoc w257 w244 tl) hD
      refine lv_pop hx hb dL_law_1346 rfl ?_
      refine lv_goto (tgt := 1350) hx hb dL_law_1347 (by decide) ?_
      unfold sR at r1 r2 r3 r4
      have hm09 := BM_n hM0 0
      have hm19 := BM_n hM0 1
      have hm29 := BM_n hM0 2
      have hm39 := BM_n hM0 3
      rcases hq with hq | hq | hq | hq
      · skip
        obtain ⟨rfl, rfl, hz⟩ := hq
        rcases hq2 with hq2 | hq2 | hq2 | hq2
        · skip
          obtain ⟨rfl, rfl, hy⟩ := hq2
          exact K _ _ _ _ ⟨w244, w257, tl, _, _, _, _, _, _, _, _, _, _, _, _, _, _, _, _, _, _, _, _, _, _, _, _, _, _, _, _, _, _, _, _, _, g0, g1, g2, xd0, xd1, xd2, (by assumption), (by assumption), hI, ⟨r0, r1, r2, r3, r4, i0, i1, i2, ttp, ttf, ttq, ttg, tte0, tte1, tte2, ttn0, ttn1, ttn2, ttn3, ttx, ttx0, ttx1, ttx2⟩, hP, hD, hS, hl, by omega, by omega⟩
        · skip
          obtain ⟨rfl, rfl, hy⟩ := hq2
          exfalso
          omega
        · skip
          obtain ⟨rfl, rfl, hy⟩ := hq2
          exfalso
          omega
        · skip
          obtain ⟨rfl, hy⟩ := hq2
          exfalso
          omega
      · skip
        obtain ⟨rfl, rfl, hz⟩ := hq
        rcases hq2 with hq2 | hq2 | hq2 | hq2
        · skip
          obtain ⟨rfl, rfl, hy⟩ := hq2
          exfalso
          omega
        · skip
          obtain ⟨rfl, rfl, hy⟩ := hq2
          exact K _ _ _ _ ⟨w244, w257, tl, _, _, _, _, _, _, _, _, _, _, _, _, _, _, _, _, _, _, _, _, _, _, _, _, _, _, _, _, _, _, _, _, _, g0, g1, g2, xd0, xd1, xd2, (by assumption), (by assumption), hI, ⟨r0, r1, r2, r3, r4, i0, i1, i2, ttp, ttf, ttq, ttg, tte0, tte1, tte2, ttn0, ttn1, ttn2, ttn3, ttx, ttx0, ttx1, ttx2⟩, hP, hD, hS, hl, by omega, by omega⟩
        · skip
          obtain ⟨rfl, rfl, hy⟩ := hq2
          exfalso
          omega
        · skip
          obtain ⟨rfl, hy⟩ := hq2
          exfalso
          omega
      · skip
        obtain ⟨rfl, rfl, hz⟩ := hq
        rcases hq2 with hq2 | hq2 | hq2 | hq2
        · skip
          obtain ⟨rfl, rfl, hy⟩ := hq2
          exfalso
          omega
        · skip
          obtain ⟨rfl, rfl, hy⟩ := hq2
          exfalso
          omega
        · skip
          obtain ⟨rfl, rfl, hy⟩ := hq2
          exact K _ _ _ _ ⟨w244, w257, tl, _, _, _, _, _, _, _, _, _, _, _, _, _, _, _, _, _, _, _, _, _, _, _, _, _, _, _, _, _, _, _, _, _, g0, g1, g2, xd0, xd1, xd2, (by assumption), (by assumption), hI, ⟨r0, r1, r2, r3, r4, i0, i1, i2, ttp, ttf, ttq, ttg, tte0, tte1, tte2, ttn0, ttn1, ttn2, ttn3, ttx, ttx0, ttx1, ttx2⟩, hP, hD, hS, hl, by omega, by omega⟩
        · skip
          obtain ⟨rfl, hy⟩ := hq2
          exfalso
          omega
      · skip
        obtain ⟨rfl, hz⟩ := hq
        rcases hq2 with hq2 | hq2 | hq2 | hq2
        · skip
          obtain ⟨rfl, rfl, hy⟩ := hq2
          exfalso
          omega
        · skip
          obtain ⟨rfl, rfl, hy⟩ := hq2
          exfalso
          omega
        · skip
          obtain ⟨rfl, rfl, hy⟩ := hq2
          exfalso
          omega
        · skip
          obtain ⟨rfl, hy⟩ := hq2
          exact K _ _ _ _ ⟨w244, w257, tl, _, _, _, _, _, _, _, _, _, _, _, _, _, _, _, _, _, _, _, _, _, _, _, _, _, _, _, _, _, _, _, _, _, g0, g1, g2, xd0, xd1, xd2, (by assumption), (by assumption), hI, ⟨r0, r1, r2, r3, r4, i0, i1, i2, ttp, ttf, ttq, ttg, tte0, tte1, tte2, (nt_paO (m := av10.toInt.toNat) ttn0 (hy.2.1) (by omega) (by omega) (by decide)), (nt_paO (m := av10.toInt.toNat) ttn1 (hy.2.1) (by omega) (by omega) (by decide)), (nt_paO (m := av10.toInt.toNat) ttn2 (hy.2.1) (by omega) (by omega) (by decide)), (nt_pa ttn2 ttn3 (hz.2.1) (hy.2.1) (by omega) (by omega) (by omega)), ttx, ttx0, ttx1, ttx2⟩, hP, hD, hS, hl, by omega, by omega⟩
    · have hav6 := h9
      refine cx_spasteTlo (ob := x) (a1 := 2) (a2 := av4) (a3 := av6) (a4 := av8) (a5 := av10) (rest := []) C1 (by decide) hav6 hB hP hD hS hl.1 (Nat.le_of_ble_eq_true rfl) ⟨by omega, by omega⟩ dL_law_1313 (fun an259 w260  H locs hq hB hP hD hS => ?_)
      have hP := P_perm (List.perm_append_comm_assoc w260 wm tl) hP
      have hD := D_perm (List.perm_append_comm_assoc w260 wm tl) hD
      refine lv_pop hx hb dL_law_1316 rfl ?_
      refine lv_aload_n hx hb dL_law_1317 rfl (lv_at hl 1 rfl) ?_
      refine lv_aload_n hx hb dL_law_1318 rfl (lv_at hl 3 rfl) ?_
      refine lv_iload_n hx hb dL_law_1319 rfl (lv_at hl 0 rfl) ?_
      refine lv_iconst (v := 1) hx hb dL_law_1320 (by decide) ?_
      refine lv_iadd hx hb dL_law_1321 ?_
      refine lv_topi (fun jv261 ejv261 => ?_)
      obtain rfl : jv1 = jv261 := ejv1.trans ejv261.symm
      refine va_sld hx hb hX hbl hbA hS (sl_in (c := 1) ejv1 (by decide) (by decide) hi hL) dL_law_1322 ?_
      refine lv_topi (fun av262 eav262 => ?_)
      obtain rfl : 2 = av262 := eav2.trans eav262.symm
      refine lv_aload_n hx hb dL_law_1323 rfl (lv_at hl 3 rfl) ?_
      refine lv_iload_n hx hb dL_law_1324 rfl (lv_at hl 0 rfl) ?_
      refine lv_iconst (v := 2) hx hb dL_law_1325 (by decide) ?_
      refine lv_iadd hx hb dL_law_1326 ?_
      refine lv_topi (fun jv263 ejv263 => ?_)
      obtain rfl : jv3 = jv263 := ejv3.trans ejv263.symm
      refine va_sld hx hb hX hbl hbA hS (sl_in (c := 2) ejv3 (by decide) (by decide) hi hL) dL_law_1327 ?_
      refine lv_topi (fun av264 eav264 => ?_)
      obtain rfl : av4 = av264 := eav4.trans eav264.symm
      refine lv_aload_n hx hb dL_law_1328 rfl (lv_at hl 3 rfl) ?_
      refine lv_iload_n hx hb dL_law_1329 rfl (lv_at hl 0 rfl) ?_
      refine lv_iconst (v := 3) hx hb dL_law_1330 (by decide) ?_
      refine lv_iadd hx hb dL_law_1331 ?_
      refine lv_topi (fun jv265 ejv265 => ?_)
      obtain rfl : jv5 = jv265 := ejv5.trans ejv265.symm
      refine va_sld hx hb hX hbl hbA hS (sl_in (c := 3) ejv5 (by decide) (by decide) hi hL) dL_law_1332 ?_
      refine lv_topi (fun av266 eav266 => ?_)
      obtain rfl : av6 = av266 := eav6.trans eav266.symm
      refine lv_aload_n hx hb dL_law_1333 rfl (lv_at hl 3 rfl) ?_
      refine lv_iload_n hx hb dL_law_1334 rfl (lv_at hl 0 rfl) ?_
      refine lv_iconst (v := 4) hx hb dL_law_1335 (by decide) ?_
      refine lv_iadd hx hb dL_law_1336 ?_
      refine lv_topi (fun jv267 ejv267 => ?_)
      obtain rfl : jv7 = jv267 := ejv7.trans ejv267.symm
      refine va_sld hx hb hX hbl hbA hS (sl_in (c := 4) ejv7 (by decide) (by decide) hi hL) dL_law_1337 ?_
      refine lv_topi (fun av268 eav268 => ?_)
      obtain rfl : av8 = av268 := eav8.trans eav268.symm
      refine lv_aload_n hx hb dL_law_1338 rfl (lv_at hl 3 rfl) ?_
      refine lv_iload_n hx hb dL_law_1339 rfl (lv_at hl 0 rfl) ?_
      refine lv_iconst (v := 5) hx hb dL_law_1340 (by decide) ?_
      refine lv_iadd hx hb dL_law_1341 ?_
      refine lv_topi (fun jv269 ejv269 => ?_)
      obtain rfl : jv9 = jv269 := ejv9.trans ejv269.symm
      refine va_sld hx hb hX hbl hbA hS (sl_in (c := 5) ejv9 (by decide) (by decide) hi hL) dL_law_1342 ?_
      refine lv_topi (fun av270 eav270 => ?_)
      obtain rfl : av10 = av270 := eav10.trans eav270.symm
      have hM0 := hM
      refine cx_spasteMTlo (ob := q) (a1 := 2) (a2 := av4) (a3 := av6) (a4 := av8) (a5 := av10) (rest := []) C1 (by decide) hav6 hM hP hD hS hl.1 (Nat.le_of_ble_eq_true rfl) ⟨by omega, by omega⟩ dL_law_1343 (fun an271 w272  H locs hq2 hM hP hD hS => ?_)
      have hP := P_perm (List.perm_append_comm_assoc w272 w260 tl) hP
      have hD := D_perm (List.perm_append_comm_assoc w272 w260 tl) hD
      refine lv_pop hx hb dL_law_1346 rfl ?_
      refine lv_goto (tgt := 1350) hx hb dL_law_1347 (by decide) ?_
      exact K _ _ _ _ ⟨w260, w272, tl, ts, fl0, wi0, sz0, fl1, wi1, sz1, fl2, wi2, sz2, fl3, wi3, sz3, tp, rf, rp, nb0, nb1, nb2, nb3, g, xd, f, ta, fm, fw, fh, tq, fk, fp, ww, wv, nm, g0, g1, g2, xd0, xd1, xd2, hB, hM, hI, ⟨r0, r1, r2, r3, r4, i0, i1, i2, ttp, ttf, ttq, ttg, tte0, tte1, tte2, ttn0, ttn1, ttn2, ttn3, ttx, ttx0, ttx1, ttx2⟩, hP, hD, hS, hl, by omega, by omega⟩
    · have hav6 := h9
      refine cx_spasteThi (ob := x) (a1 := 2) (a2 := av4) (a3 := av6) (a4 := av8) (a5 := av10) (rest := []) C1 (by decide) hav6 hB hP hD hS hl.1 (Nat.le_of_ble_eq_true rfl) ⟨by omega, by omega⟩ dL_law_1313 (fun an273 w274  H locs hq hB hP hD hS => ?_)
      have hP := P_perm (List.perm_append_comm_assoc w274 wm tl) hP
      have hD := D_perm (List.perm_append_comm_assoc w274 wm tl) hD
      refine lv_pop hx hb dL_law_1316 rfl ?_
      refine lv_aload_n hx hb dL_law_1317 rfl (lv_at hl 1 rfl) ?_
      refine lv_aload_n hx hb dL_law_1318 rfl (lv_at hl 3 rfl) ?_
      refine lv_iload_n hx hb dL_law_1319 rfl (lv_at hl 0 rfl) ?_
      refine lv_iconst (v := 1) hx hb dL_law_1320 (by decide) ?_
      refine lv_iadd hx hb dL_law_1321 ?_
      refine lv_topi (fun jv275 ejv275 => ?_)
      obtain rfl : jv1 = jv275 := ejv1.trans ejv275.symm
      refine va_sld hx hb hX hbl hbA hS (sl_in (c := 1) ejv1 (by decide) (by decide) hi hL) dL_law_1322 ?_
      refine lv_topi (fun av276 eav276 => ?_)
      obtain rfl : 2 = av276 := eav2.trans eav276.symm
      refine lv_aload_n hx hb dL_law_1323 rfl (lv_at hl 3 rfl) ?_
      refine lv_iload_n hx hb dL_law_1324 rfl (lv_at hl 0 rfl) ?_
      refine lv_iconst (v := 2) hx hb dL_law_1325 (by decide) ?_
      refine lv_iadd hx hb dL_law_1326 ?_
      refine lv_topi (fun jv277 ejv277 => ?_)
      obtain rfl : jv3 = jv277 := ejv3.trans ejv277.symm
      refine va_sld hx hb hX hbl hbA hS (sl_in (c := 2) ejv3 (by decide) (by decide) hi hL) dL_law_1327 ?_
      refine lv_topi (fun av278 eav278 => ?_)
      obtain rfl : av4 = av278 := eav4.trans eav278.symm
      refine lv_aload_n hx hb dL_law_1328 rfl (lv_at hl 3 rfl) ?_
      refine lv_iload_n hx hb dL_law_1329 rfl (lv_at hl 0 rfl) ?_
      refine lv_iconst (v := 3) hx hb dL_law_1330 (by decide) ?_
      refine lv_iadd hx hb dL_law_1331 ?_
      refine lv_topi (fun jv279 ejv279 => ?_)
      obtain rfl : jv5 = jv279 := ejv5.trans ejv279.symm
      refine va_sld hx hb hX hbl hbA hS (sl_in (c := 3) ejv5 (by decide) (by decide) hi hL) dL_law_1332 ?_
      refine lv_topi (fun av280 eav280 => ?_)
      obtain rfl : av6 = av280 := eav6.trans eav280.symm
      refine lv_aload_n hx hb dL_law_1333 rfl (lv_at hl 3 rfl) ?_
      refine lv_iload_n hx hb dL_law_1334 rfl (lv_at hl 0 rfl) ?_
      refine lv_iconst (v := 4) hx hb dL_law_1335 (by decide) ?_
      refine lv_iadd hx hb dL_law_1336 ?_
      refine lv_topi (fun jv281 ejv281 => ?_)
      obtain rfl : jv7 = jv281 := ejv7.trans ejv281.symm
      refine va_sld hx hb hX hbl hbA hS (sl_in (c := 4) ejv7 (by decide) (by decide) hi hL) dL_law_1337 ?_
      refine lv_topi (fun av282 eav282 => ?_)
      obtain rfl : av8 = av282 := eav8.trans eav282.symm
      refine lv_aload_n hx hb dL_law_1338 rfl (lv_at hl 3 rfl) ?_
      refine lv_iload_n hx hb dL_law_1339 rfl (lv_at hl 0 rfl) ?_
      refine lv_iconst (v := 5) hx hb dL_law_1340 (by decide) ?_
      refine lv_iadd hx hb dL_law_1341 ?_
      refine lv_topi (fun jv283 ejv283 => ?_)
      obtain rfl : jv9 = jv283 := ejv9.trans ejv283.symm
      refine va_sld hx hb hX hbl hbA hS (sl_in (c := 5) ejv9 (by decide) (by decide) hi hL) dL_law_1342 ?_
      refine lv_topi (fun av284 eav284 => ?_)
      obtain rfl : av10 = av284 := eav10.trans eav284.symm
      have hM0 := hM
      refine cx_spasteMThi (ob := q) (a1 := 2) (a2 := av4) (a3 := av6) (a4 := av8) (a5 := av10) (rest := []) C1 (by decide) hav6 hM hP hD hS hl.1 (Nat.le_of_ble_eq_true rfl) ⟨by omega, by omega⟩ dL_law_1343 (fun an285 w286  H locs hq2 hM hP hD hS => ?_)
      have hP := P_perm (List.perm_append_comm_assoc w286 w274 tl) hP
      have hD := D_perm (List.perm_append_comm_assoc w286 w274 tl) hD
      refine lv_pop hx hb dL_law_1346 rfl ?_
      refine lv_goto (tgt := 1350) hx hb dL_law_1347 (by decide) ?_
      exact K _ _ _ _ ⟨w274, w286, tl, ts, fl0, wi0, sz0, fl1, wi1, sz1, fl2, wi2, sz2, fl3, wi3, sz3, tp, rf, rp, nb0, nb1, nb2, nb3, g, xd, f, ta, fm, fw, fh, tq, fk, fp, ww, wv, nm, g0, g1, g2, xd0, xd1, xd2, hB, hM, hI, ⟨r0, r1, r2, r3, r4, i0, i1, i2, ttp, ttf, ttq, ttg, tte0, tte1, tte2, ttn0, ttn1, ttn2, ttn3, ttx, ttx0, ttx1, ttx2⟩, hP, hD, hS, hl, by omega, by omega⟩
  · obtain rfl : 3 = av2 := h9.symm
    rcases so_cases av6 with h9 | h9 | h9 | h9 | h9 | h9
    · obtain rfl : 0 = av6 := h9.symm
      refine cx_fpaste30 (ob := x) (a2 := av4) (a4 := av8) (a5 := av10) (rest := []) C1  hB hP hD hS hl.1 (Nat.le_of_ble_eq_true rfl) ⟨by omega, by omega⟩ dL_law_1313 (fun an287 w288 nb0_289 H locs hq hB hP hD hS => ?_)
      have hP := P_perm (List.perm_append_comm_assoc w288 wm tl) hP
      have hD := D_perm (List.perm_append_comm_assoc w288 wm tl) hD
      refine lv_pop hx hb dL_law_1316 rfl ?_
      refine lv_aload_n hx hb dL_law_1317 rfl (lv_at hl 1 rfl) ?_
      refine lv_aload_n hx hb dL_law_1318 rfl (lv_at hl 3 rfl) ?_
      refine lv_iload_n hx hb dL_law_1319 rfl (lv_at hl 0 rfl) ?_
      refine lv_iconst (v := 1) hx hb dL_law_1320 (by decide) ?_
      refine lv_iadd hx hb dL_law_1321 ?_
      refine lv_topi (fun jv290 ejv290 => ?_)
      obtain rfl : jv1 = jv290 := ejv1.trans ejv290.symm
      refine va_sld hx hb hX hbl hbA hS (sl_in (c := 1) ejv1 (by decide) (by decide) hi hL) dL_law_1322 ?_
      refine lv_topi (fun av291 eav291 => ?_)
      obtain rfl : 3 = av291 := eav2.trans eav291.symm
      refine lv_aload_n hx hb dL_law_1323 rfl (lv_at hl 3 rfl) ?_
      refine lv_iload_n hx hb dL_law_1324 rfl (lv_at hl 0 rfl) ?_
      refine lv_iconst (v := 2) hx hb dL_law_1325 (by decide) ?_
      refine lv_iadd hx hb dL_law_1326 ?_
      refine lv_topi (fun jv292 ejv292 => ?_)
      obtain rfl : jv3 = jv292 := ejv3.trans ejv292.symm
      refine va_sld hx hb hX hbl hbA hS (sl_in (c := 2) ejv3 (by decide) (by decide) hi hL) dL_law_1327 ?_
      refine lv_topi (fun av293 eav293 => ?_)
      obtain rfl : av4 = av293 := eav4.trans eav293.symm
      refine lv_aload_n hx hb dL_law_1328 rfl (lv_at hl 3 rfl) ?_
      refine lv_iload_n hx hb dL_law_1329 rfl (lv_at hl 0 rfl) ?_
      refine lv_iconst (v := 3) hx hb dL_law_1330 (by decide) ?_
      refine lv_iadd hx hb dL_law_1331 ?_
      refine lv_topi (fun jv294 ejv294 => ?_)
      obtain rfl : jv5 = jv294 := ejv5.trans ejv294.symm
      refine va_sld hx hb hX hbl hbA hS (sl_in (c := 3) ejv5 (by decide) (by decide) hi hL) dL_law_1332 ?_
      refine lv_topi (fun av295 eav295 => ?_)
      obtain rfl : 0 = av295 := eav6.trans eav295.symm
      refine lv_aload_n hx hb dL_law_1333 rfl (lv_at hl 3 rfl) ?_
      refine lv_iload_n hx hb dL_law_1334 rfl (lv_at hl 0 rfl) ?_
      refine lv_iconst (v := 4) hx hb dL_law_1335 (by decide) ?_
      refine lv_iadd hx hb dL_law_1336 ?_
      refine lv_topi (fun jv296 ejv296 => ?_)
      obtain rfl : jv7 = jv296 := ejv7.trans ejv296.symm
      refine va_sld hx hb hX hbl hbA hS (sl_in (c := 4) ejv7 (by decide) (by decide) hi hL) dL_law_1337 ?_
      refine lv_topi (fun av297 eav297 => ?_)
      obtain rfl : av8 = av297 := eav8.trans eav297.symm
      refine lv_aload_n hx hb dL_law_1338 rfl (lv_at hl 3 rfl) ?_
      refine lv_iload_n hx hb dL_law_1339 rfl (lv_at hl 0 rfl) ?_
      refine lv_iconst (v := 5) hx hb dL_law_1340 (by decide) ?_
      refine lv_iadd hx hb dL_law_1341 ?_
      refine lv_topi (fun jv298 ejv298 => ?_)
      obtain rfl : jv9 = jv298 := ejv9.trans ejv298.symm
      refine va_sld hx hb hX hbl hbA hS (sl_in (c := 5) ejv9 (by decide) (by decide) hi hL) dL_law_1342 ?_
      refine lv_topi (fun av299 eav299 => ?_)
      obtain rfl : av10 = av299 := eav10.trans eav299.symm
      have hM0 := hM
      refine cx_fpasteM30 (ob := q) (a2 := av4) (a4 := av8) (a5 := av10) (rest := []) C1  hM hP hD hS hl.1 (Nat.le_of_ble_eq_true rfl) ⟨by omega, by omega⟩ dL_law_1343 (fun an300 w301 nm_302 H locs hq2 hM hP hD hS => ?_)
      have hP := P_perm (List.perm_append_comm_assoc w301 w288 tl) hP
      have hD := D_perm (List.perm_append_comm_assoc w301 w288 tl) hD
      refine lv_pop hx hb dL_law_1346 rfl ?_
      refine lv_goto (tgt := 1350) hx hb dL_law_1347 (by decide) ?_
      unfold sR at r1 r2 r3 r4
      have hm09 := BM_n hM0 0
      have hm19 := BM_n hM0 1
      have hm29 := BM_n hM0 2
      have hm39 := BM_n hM0 3
      rcases hq with hq | hq | hq | hq
      · skip
        obtain ⟨rfl, rfl, hz⟩ := hq
        rcases hq2 with hq2 | hq2 | hq2 | hq2
        · skip
          obtain ⟨rfl, rfl, hy⟩ := hq2
          exact K _ _ _ _ ⟨w288, w301, tl, _, _, _, _, _, _, _, _, _, _, _, _, _, _, _, _, _, _, _, _, _, _, _, _, _, _, _, _, _, _, _, _, _, g0, g1, g2, xd0, xd1, xd2, (by assumption), (by assumption), hI, ⟨r0, r1, r2, r3, r4, i0, i1, i2, ttp, ttf, ttq, ttg, tte0, tte1, tte2, ttn0, ttn1, ttn2, ttn3, ttx, ttx0, ttx1, ttx2⟩, hP, hD, hS, hl, by omega, by omega⟩
        · skip
          obtain ⟨rfl, rfl, hy⟩ := hq2
          exfalso
          omega
        · skip
          obtain ⟨rfl, rfl, hy⟩ := hq2
          exfalso
          omega
        · skip
          obtain ⟨rfl, hy⟩ := hq2
          exfalso
          omega
      · skip
        obtain ⟨rfl, rfl, hz⟩ := hq
        rcases hq2 with hq2 | hq2 | hq2 | hq2
        · skip
          obtain ⟨rfl, rfl, hy⟩ := hq2
          exfalso
          omega
        · skip
          obtain ⟨rfl, rfl, hy⟩ := hq2
          exact K _ _ _ _ ⟨w288, w301, tl, _, _, _, _, _, _, _, _, _, _, _, _, _, _, _, _, _, _, _, _, _, _, _, _, _, _, _, _, _, _, _, _, _, g0, g1, g2, xd0, xd1, xd2, (by assumption), (by assumption), hI, ⟨r0, r1, r2, r3, r4, i0, i1, i2, ttp, ttf, ttq, ttg, tte0, tte1, tte2, ttn0, ttn1, ttn2, ttn3, ttx, ttx0, ttx1, ttx2⟩, hP, hD, hS, hl, by omega, by omega⟩
        · skip
          obtain ⟨rfl, rfl, hy⟩ := hq2
          exfalso
          omega
        · skip
          obtain ⟨rfl, hy⟩ := hq2
          exfalso
          omega
      · skip
        obtain ⟨rfl, rfl, hz⟩ := hq
        rcases hq2 with hq2 | hq2 | hq2 | hq2
        · skip
          obtain ⟨rfl, rfl, hy⟩ := hq2
          exfalso
          omega
        · skip
          obtain ⟨rfl, rfl, hy⟩ := hq2
          exfalso
          omega
        · skip
          obtain ⟨rfl, rfl, hy⟩ := hq2
          exact K _ _ _ _ ⟨w288, w301, tl, _, _, _, _, _, _, _, _, _, _, _, _, _, _, _, _, _, _, _, _, _, _, _, _, _, _, _, _, _, _, _, _, _, g0, g1, g2, xd0, xd1, xd2, (by assumption), (by assumption), hI, ⟨r0, r1, r2, r3, r4, i0, i1, i2, ttp, ttf, ttq, ttg, tte0, tte1, tte2, ttn0, ttn1, ttn2, ttn3, ttx, ttx0, ttx1, ttx2⟩, hP, hD, hS, hl, by omega, by omega⟩
        · skip
          obtain ⟨rfl, hy⟩ := hq2
          exfalso
          omega
      · skip
        obtain ⟨rfl, hz⟩ := hq
        rcases hq2 with hq2 | hq2 | hq2 | hq2
        · skip
          obtain ⟨rfl, rfl, hy⟩ := hq2
          exfalso
          omega
        · skip
          obtain ⟨rfl, rfl, hy⟩ := hq2
          exfalso
          omega
        · skip
          obtain ⟨rfl, rfl, hy⟩ := hq2
          exfalso
          omega
        · skip
          obtain ⟨rfl, hy⟩ := hq2
          exact K _ _ _ _ ⟨w288, w301, tl, _, _, _, _, _, _, _, _, _, _, _, _, _, _, _, _, _, _, _, _, _, _, _, _, _, _, _, _, _, _, _, _, _, g0, g1, g2, xd0, xd1, xd2, (by assumption), (by assumption), hI, ⟨r0, r1, r2, r3, r4, i0, i1, i2, ttp, ttf, ttq, ttg, tte0, tte1, tte2, (nt_pa ttn3 ttn0 (hz.2.1) (hy.2.1) (by omega) (by omega) (by omega)), (nt_paO (m := av10.toInt.toNat) ttn1 (hy.2.1) (by omega) (by omega) (by decide)), (nt_paO (m := av10.toInt.toNat) ttn2 (hy.2.1) (by omega) (by omega) (by decide)), (nt_paO (m := av10.toInt.toNat) ttn3 (hy.2.1) (by omega) (by omega) (by decide)), ttx, ttx0, ttx1, ttx2⟩, hP, hD, hS, hl, by omega, by omega⟩
    · obtain rfl : 1 = av6 := h9.symm
      refine cx_fpaste31 (ob := x) (a2 := av4) (a4 := av8) (a5 := av10) (rest := []) C1  hB hP hD hS hl.1 (Nat.le_of_ble_eq_true rfl) ⟨by omega, by omega⟩ dL_law_1313 (fun an303 w304 nb1_305 H locs hq hB hP hD hS => ?_)
      have hP := P_perm (List.perm_append_comm_assoc w304 wm tl) hP
      have hD := D_perm (List.perm_append_comm_assoc w304 wm tl) hD
      refine lv_pop hx hb dL_law_1316 rfl ?_
      refine lv_aload_n hx hb dL_law_1317 rfl (lv_at hl 1 rfl) ?_
      refine lv_aload_n hx hb dL_law_1318 rfl (lv_at hl 3 rfl) ?_
      refine lv_iload_n hx hb dL_law_1319 rfl (lv_at hl 0 rfl) ?_
      refine lv_iconst (v := 1) hx hb dL_law_1320 (by decide) ?_
      refine lv_iadd hx hb dL_law_1321 ?_
      refine lv_topi (fun jv306 ejv306 => ?_)
      obtain rfl : jv1 = jv306 := ejv1.trans ejv306.symm
      refine va_sld hx hb hX hbl hbA hS (sl_in (c := 1) ejv1 (by decide) (by decide) hi hL) dL_law_1322 ?_
      refine lv_topi (fun av307 eav307 => ?_)
      obtain rfl : 3 = av307 := eav2.trans eav307.symm
      refine lv_aload_n hx hb dL_law_1323 rfl (lv_at hl 3 rfl) ?_
      refine lv_iload_n hx hb dL_law_1324 rfl (lv_at hl 0 rfl) ?_
      refine lv_iconst (v := 2) hx hb dL_law_1325 (by decide) ?_
      refine lv_iadd hx hb dL_law_1326 ?_
      refine lv_topi (fun jv308 ejv308 => ?_)
      obtain rfl : jv3 = jv308 := ejv3.trans ejv308.symm
      refine va_sld hx hb hX hbl hbA hS (sl_in (c := 2) ejv3 (by decide) (by decide) hi hL) dL_law_1327 ?_
      refine lv_topi (fun av309 eav309 => ?_)
      obtain rfl : av4 = av309 := eav4.trans eav309.symm
      refine lv_aload_n hx hb dL_law_1328 rfl (lv_at hl 3 rfl) ?_
      refine lv_iload_n hx hb dL_law_1329 rfl (lv_at hl 0 rfl) ?_
      refine lv_iconst (v := 3) hx hb dL_law_1330 (by decide) ?_
      refine lv_iadd hx hb dL_law_1331 ?_
      refine lv_topi (fun jv310 ejv310 => ?_)
      obtain rfl : jv5 = jv310 := ejv5.trans ejv310.symm
      refine va_sld hx hb hX hbl hbA hS (sl_in (c := 3) ejv5 (by decide) (by decide) hi hL) dL_law_1332 ?_
      refine lv_topi (fun av311 eav311 => ?_)
      obtain rfl : 1 = av311 := eav6.trans eav311.symm
      refine lv_aload_n hx hb dL_law_1333 rfl (lv_at hl 3 rfl) ?_
      refine lv_iload_n hx hb dL_law_1334 rfl (lv_at hl 0 rfl) ?_
      refine lv_iconst (v := 4) hx hb dL_law_1335 (by decide) ?_
      refine lv_iadd hx hb dL_law_1336 ?_
      refine lv_topi (fun jv312 ejv312 => ?_)
      obtain rfl : jv7 = jv312 := ejv7.trans ejv312.symm
      refine va_sld hx hb hX hbl hbA hS (sl_in (c := 4) ejv7 (by decide) (by decide) hi hL) dL_law_1337 ?_
      refine lv_topi (fun av313 eav313 => ?_)
      obtain rfl : av8 = av313 := eav8.trans eav313.symm
      refine lv_aload_n hx hb dL_law_1338 rfl (lv_at hl 3 rfl) ?_
      refine lv_iload_n hx hb dL_law_1339 rfl (lv_at hl 0 rfl) ?_
      refine lv_iconst (v := 5) hx hb dL_law_1340 (by decide) ?_
      refine lv_iadd hx hb dL_law_1341 ?_
      refine lv_topi (fun jv314 ejv314 => ?_)
      obtain rfl : jv9 = jv314 := ejv9.trans ejv314.symm
      refine va_sld hx hb hX hbl hbA hS (sl_in (c := 5) ejv9 (by decide) (by decide) hi hL) dL_law_1342 ?_
      refine lv_topi (fun av315 eav315 => ?_)
      obtain rfl : av10 = av315 := eav10.trans eav315.symm
      have hM0 := hM
      refine cx_fpasteM31 (ob := q) (a2 := av4) (a4 := av8) (a5 := av10) (rest := []) C1  hM hP hD hS hl.1 (Nat.le_of_ble_eq_true rfl) ⟨by omega, by omega⟩ dL_law_1343 (fun an316 w317 nm_318 H locs hq2 hM hP hD hS => ?_)
      have hP := P_perm (List.perm_append_comm_assoc w317 w304 tl) hP
      have hD := D_perm (List.perm_append_comm_assoc w317 w304 tl) hD
      refine lv_pop hx hb dL_law_1346 rfl ?_
      refine lv_goto (tgt := 1350) hx hb dL_law_1347 (by decide) ?_
      unfold sR at r1 r2 r3 r4
      have hm09 := BM_n hM0 0
      have hm19 := BM_n hM0 1
      have hm29 := BM_n hM0 2
      have hm39 := BM_n hM0 3
      rcases hq with hq | hq | hq | hq
      · skip
        obtain ⟨rfl, rfl, hz⟩ := hq
        rcases hq2 with hq2 | hq2 | hq2 | hq2
        · skip
          obtain ⟨rfl, rfl, hy⟩ := hq2
          exact K _ _ _ _ ⟨w304, w317, tl, _, _, _, _, _, _, _, _, _, _, _, _, _, _, _, _, _, _, _, _, _, _, _, _, _, _, _, _, _, _, _, _, _, g0, g1, g2, xd0, xd1, xd2, (by assumption), (by assumption), hI, ⟨r0, r1, r2, r3, r4, i0, i1, i2, ttp, ttf, ttq, ttg, tte0, tte1, tte2, ttn0, ttn1, ttn2, ttn3, ttx, ttx0, ttx1, ttx2⟩, hP, hD, hS, hl, by omega, by omega⟩
        · skip
          obtain ⟨rfl, rfl, hy⟩ := hq2
          exfalso
          omega
        · skip
          obtain ⟨rfl, rfl, hy⟩ := hq2
          exfalso
          omega
        · skip
          obtain ⟨rfl, hy⟩ := hq2
          exfalso
          omega
      · skip
        obtain ⟨rfl, rfl, hz⟩ := hq
        rcases hq2 with hq2 | hq2 | hq2 | hq2
        · skip
          obtain ⟨rfl, rfl, hy⟩ := hq2
          exfalso
          omega
        · skip
          obtain ⟨rfl, rfl, hy⟩ := hq2
          exact K _ _ _ _ ⟨w304, w317, tl, _, _, _, _, _, _, _, _, _, _, _, _, _, _, _, _, _, _, _, _, _, _, _, _, _, _, _, _, _, _, _, _, _, g0, g1, g2, xd0, xd1, xd2, (by assumption), (by assumption), hI, ⟨r0, r1, r2, r3, r4, i0, i1, i2, ttp, ttf, ttq, ttg, tte0, tte1, tte2, ttn0, ttn1, ttn2, ttn3, ttx, ttx0, ttx1, ttx2⟩, hP, hD, hS, hl, by omega, by omega⟩
        · skip
          obtain ⟨rfl, rfl, hy⟩ := hq2
          exfalso
          omega
        · skip
          obtain ⟨rfl, hy⟩ := hq2
          exfalso
          omega
      · skip
        obtain ⟨rfl, rfl, hz⟩ := hq
        rcases hq2 with hq2 | hq2 | hq2 | hq2
        · skip
          obtain ⟨rfl, rfl, hy⟩ := hq2
          exfalso
          omega
        · skip
          obtain ⟨rfl, rfl, hy⟩ := hq2
          exfalso
          omega
        · skip
          obtain ⟨rfl, rfl, hy⟩ := hq2
          exact K _ _ _ _ ⟨w304, w317, tl, _, _, _, _, _, _, _, _, _, _, _, _, _, _, _, _, _, _, _, _, _, _, _, _, _, _, _, _, _, _, _, _, _, g0, g1, g2, xd0, xd1, xd2, (by assumption), (by assumption), hI, ⟨r0, r1, r2, r3, r4, i0, i1, i2, ttp, ttf, ttq, ttg, tte0, tte1, tte2, ttn0, ttn1, ttn2, ttn3, ttx, ttx0, ttx1, ttx2⟩, hP, hD, hS, hl, by omega, by omega⟩
        · skip
          obtain ⟨rfl, hy⟩ := hq2
          exfalso
          omega
      · skip
        obtain ⟨rfl, hz⟩ := hq
        rcases hq2 with hq2 | hq2 | hq2 | hq2
        · skip
          obtain ⟨rfl, rfl, hy⟩ := hq2
          exfalso
          omega
        · skip
          obtain ⟨rfl, rfl, hy⟩ := hq2
          exfalso
          omega
        · skip
          obtain ⟨rfl, rfl, hy⟩ := hq2
          exfalso
          omega
        · skip
          obtain ⟨rfl, hy⟩ := hq2
          exact K _ _ _ _ ⟨w304, w317, tl, _, _, _, _, _, _, _, _, _, _, _, _, _, _, _, _, _, _, _, _, _, _, _, _, _, _, _, _, _, _, _, _, _, g0, g1, g2, xd0, xd1, xd2, (by assumption), (by assumption), hI, ⟨r0, r1, r2, r3, r4, i0, i1, i2, ttp, ttf, ttq, ttg, tte0, tte1, tte2, (nt_paO (m := av10.toInt.toNat) ttn0 (hy.2.1) (by omega) (by omega) (by decide)), (nt_pa ttn3 ttn1 (hz.2.1) (hy.2.1) (by omega) (by omega) (by omega)), (nt_paO (m := av10.toInt.toNat) ttn2 (hy.2.1) (by omega) (by omega) (by decide)), (nt_paO (m := av10.toInt.toNat) ttn3 (hy.2.1) (by omega) (by omega) (by decide)), ttx, ttx0, ttx1, ttx2⟩, hP, hD, hS, hl, by omega, by omega⟩
    · obtain rfl : 2 = av6 := h9.symm
      refine cx_fpaste32 (ob := x) (a2 := av4) (a4 := av8) (a5 := av10) (rest := []) C1  hB hP hD hS hl.1 (Nat.le_of_ble_eq_true rfl) ⟨by omega, by omega⟩ dL_law_1313 (fun an319 w320 nb2_321 H locs hq hB hP hD hS => ?_)
      have hP := P_perm (List.perm_append_comm_assoc w320 wm tl) hP
      have hD := D_perm (List.perm_append_comm_assoc w320 wm tl) hD
      refine lv_pop hx hb dL_law_1316 rfl ?_
      refine lv_aload_n hx hb dL_law_1317 rfl (lv_at hl 1 rfl) ?_
      refine lv_aload_n hx hb dL_law_1318 rfl (lv_at hl 3 rfl) ?_
      refine lv_iload_n hx hb dL_law_1319 rfl (lv_at hl 0 rfl) ?_
      refine lv_iconst (v := 1) hx hb dL_law_1320 (by decide) ?_
      refine lv_iadd hx hb dL_law_1321 ?_
      refine lv_topi (fun jv322 ejv322 => ?_)
      obtain rfl : jv1 = jv322 := ejv1.trans ejv322.symm
      refine va_sld hx hb hX hbl hbA hS (sl_in (c := 1) ejv1 (by decide) (by decide) hi hL) dL_law_1322 ?_
      refine lv_topi (fun av323 eav323 => ?_)
      obtain rfl : 3 = av323 := eav2.trans eav323.symm
      refine lv_aload_n hx hb dL_law_1323 rfl (lv_at hl 3 rfl) ?_
      refine lv_iload_n hx hb dL_law_1324 rfl (lv_at hl 0 rfl) ?_
      refine lv_iconst (v := 2) hx hb dL_law_1325 (by decide) ?_
      refine lv_iadd hx hb dL_law_1326 ?_
      refine lv_topi (fun jv324 ejv324 => ?_)
      obtain rfl : jv3 = jv324 := ejv3.trans ejv324.symm
      refine va_sld hx hb hX hbl hbA hS (sl_in (c := 2) ejv3 (by decide) (by decide) hi hL) dL_law_1327 ?_
      refine lv_topi (fun av325 eav325 => ?_)
      obtain rfl : av4 = av325 := eav4.trans eav325.symm
      refine lv_aload_n hx hb dL_law_1328 rfl (lv_at hl 3 rfl) ?_
      refine lv_iload_n hx hb dL_law_1329 rfl (lv_at hl 0 rfl) ?_
      refine lv_iconst (v := 3) hx hb dL_law_1330 (by decide) ?_
      refine lv_iadd hx hb dL_law_1331 ?_
      refine lv_topi (fun jv326 ejv326 => ?_)
      obtain rfl : jv5 = jv326 := ejv5.trans ejv326.symm
      refine va_sld hx hb hX hbl hbA hS (sl_in (c := 3) ejv5 (by decide) (by decide) hi hL) dL_law_1332 ?_
      refine lv_topi (fun av327 eav327 => ?_)
      obtain rfl : 2 = av327 := eav6.trans eav327.symm
      refine lv_aload_n hx hb dL_law_1333 rfl (lv_at hl 3 rfl) ?_
      refine lv_iload_n hx hb dL_law_1334 rfl (lv_at hl 0 rfl) ?_
      refine lv_iconst (v := 4) hx hb dL_law_1335 (by decide) ?_
      refine lv_iadd hx hb dL_law_1336 ?_
      refine lv_topi (fun jv328 ejv328 => ?_)
      obtain rfl : jv7 = jv328 := ejv7.trans ejv328.symm
      refine va_sld hx hb hX hbl hbA hS (sl_in (c := 4) ejv7 (by decide) (by decide) hi hL) dL_law_1337 ?_
      refine lv_topi (fun av329 eav329 => ?_)
      obtain rfl : av8 = av329 := eav8.trans eav329.symm
      refine lv_aload_n hx hb dL_law_1338 rfl (lv_at hl 3 rfl) ?_
      refine lv_iload_n hx hb dL_law_1339 rfl (lv_at hl 0 rfl) ?_
      refine lv_iconst (v := 5) hx hb dL_law_1340 (by decide) ?_
      refine lv_iadd hx hb dL_law_1341 ?_
      refine lv_topi (fun jv330 ejv330 => ?_)
      obtain rfl : jv9 = jv330 := ejv9.trans ejv330.symm
      refine va_sld hx hb hX hbl hbA hS (sl_in (c := 5) ejv9 (by decide) (by decide) hi hL) dL_law_1342 ?_
      refine lv_topi (fun av331 eav331 => ?_)
      obtain rfl : av10 = av331 := eav10.trans eav331.symm
      have hM0 := hM
      refine cx_fpasteM32 (ob := q) (a2 := av4) (a4 := av8) (a5 := av10) (rest := []) C1  hM hP hD hS hl.1 (Nat.le_of_ble_eq_true rfl) ⟨by omega, by omega⟩ dL_law_1343 (fun an332 w333 nm_334 H locs hq2 hM hP hD hS => ?_)
      have hP := P_perm (List.perm_append_comm_assoc w333 w320 tl) hP
      have hD := D_perm (List.perm_append_comm_assoc w333 w320 tl) hD
      refine lv_pop hx hb dL_law_1346 rfl ?_
      refine lv_goto (tgt := 1350) hx hb dL_law_1347 (by decide) ?_
      unfold sR at r1 r2 r3 r4
      have hm09 := BM_n hM0 0
      have hm19 := BM_n hM0 1
      have hm29 := BM_n hM0 2
      have hm39 := BM_n hM0 3
      rcases hq with hq | hq | hq | hq
      · skip
        obtain ⟨rfl, rfl, hz⟩ := hq
        rcases hq2 with hq2 | hq2 | hq2 | hq2
        · skip
          obtain ⟨rfl, rfl, hy⟩ := hq2
          exact K _ _ _ _ ⟨w320, w333, tl, _, _, _, _, _, _, _, _, _, _, _, _, _, _, _, _, _, _, _, _, _, _, _, _, _, _, _, _, _, _, _, _, _, g0, g1, g2, xd0, xd1, xd2, (by assumption), (by assumption), hI, ⟨r0, r1, r2, r3, r4, i0, i1, i2, ttp, ttf, ttq, ttg, tte0, tte1, tte2, ttn0, ttn1, ttn2, ttn3, ttx, ttx0, ttx1, ttx2⟩, hP, hD, hS, hl, by omega, by omega⟩
        · skip
          obtain ⟨rfl, rfl, hy⟩ := hq2
          exfalso
          omega
        · skip
          obtain ⟨rfl, rfl, hy⟩ := hq2
          exfalso
          omega
        · skip
          obtain ⟨rfl, hy⟩ := hq2
          exfalso
          omega
      · skip
        obtain ⟨rfl, rfl, hz⟩ := hq
        rcases hq2 with hq2 | hq2 | hq2 | hq2
        · skip
          obtain ⟨rfl, rfl, hy⟩ := hq2
          exfalso
          omega
        · skip
          obtain ⟨rfl, rfl, hy⟩ := hq2
          exact K _ _ _ _ ⟨w320, w333, tl, _, _, _, _, _, _, _, _, _, _, _, _, _, _, _, _, _, _, _, _, _, _, _, _, _, _, _, _, _, _, _, _, _, g0, g1, g2, xd0, xd1, xd2, (by assumption), (by assumption), hI, ⟨r0, r1, r2, r3, r4, i0, i1, i2, ttp, ttf, ttq, ttg, tte0, tte1, tte2, ttn0, ttn1, ttn2, ttn3, ttx, ttx0, ttx1, ttx2⟩, hP, hD, hS, hl, by omega, by omega⟩
        · skip
          obtain ⟨rfl, rfl, hy⟩ := hq2
          exfalso
          omega
        · skip
          obtain ⟨rfl, hy⟩ := hq2
          exfalso
          omega
      · skip
        obtain ⟨rfl, rfl, hz⟩ := hq
        rcases hq2 with hq2 | hq2 | hq2 | hq2
        · skip
          obtain ⟨rfl, rfl, hy⟩ := hq2
          exfalso
          omega
        · skip
          obtain ⟨rfl, rfl, hy⟩ := hq2
          exfalso
          omega
        · skip
          obtain ⟨rfl, rfl, hy⟩ := hq2
          exact K _ _ _ _ ⟨w320, w333, tl, _, _, _, _, _, _, _, _, _, _, _, _, _, _, _, _, _, _, _, _, _, _, _, _, _, _, _, _, _, _, _, _, _, g0, g1, g2, xd0, xd1, xd2, (by assumption), (by assumption), hI, ⟨r0, r1, r2, r3, r4, i0, i1, i2, ttp, ttf, ttq, ttg, tte0, tte1, tte2, ttn0, ttn1, ttn2, ttn3, ttx, ttx0, ttx1, ttx2⟩, hP, hD, hS, hl, by omega, by omega⟩
        · skip
          obtain ⟨rfl, hy⟩ := hq2
          exfalso
          omega
      · skip
        obtain ⟨rfl, hz⟩ := hq
        rcases hq2 with hq2 | hq2 | hq2 | hq2
        · skip
          obtain ⟨rfl, rfl, hy⟩ := hq2
          exfalso
          omega
        · skip
          obtain ⟨rfl, rfl, hy⟩ := hq2
          exfalso
          omega
        · skip
          obtain ⟨rfl, rfl, hy⟩ := hq2
          exfalso
          omega
        · skip
          obtain ⟨rfl, hy⟩ := hq2
          exact K _ _ _ _ ⟨w320, w333, tl, _, _, _, _, _, _, _, _, _, _, _, _, _, _, _, _, _, _, _, _, _, _, _, _, _, _, _, _, _, _, _, _, _, g0, g1, g2, xd0, xd1, xd2, (by assumption), (by assumption), hI, ⟨r0, r1, r2, r3, r4, i0, i1, i2, ttp, ttf, ttq, ttg, tte0, tte1, tte2, (nt_paO (m := av10.toInt.toNat) ttn0 (hy.2.1) (by omega) (by omega) (by decide)), (nt_paO (m := av10.toInt.toNat) ttn1 (hy.2.1) (by omega) (by omega) (by decide)), (nt_pa ttn3 ttn2 (hz.2.1) (hy.2.1) (by omega) (by omega) (by omega)), (nt_paO (m := av10.toInt.toNat) ttn3 (hy.2.1) (by omega) (by omega) (by decide)), ttx, ttx0, ttx1, ttx2⟩, hP, hD, hS, hl, by omega, by omega⟩
    · obtain rfl : 3 = av6 := h9.symm
      refine cx_fpaste33 (ob := x) (a2 := av4) (a4 := av8) (a5 := av10) (rest := []) C1  hB hP hD hS hl.1 (Nat.le_of_ble_eq_true rfl) ⟨by omega, by omega⟩ dL_law_1313 (fun an335 w336 nb3_337 H locs hq hB hP hD hS => ?_)
      have hP := P_perm (List.perm_append_comm_assoc w336 wm tl) hP
      have hD := D_perm (List.perm_append_comm_assoc w336 wm tl) hD
      refine lv_pop hx hb dL_law_1316 rfl ?_
      refine lv_aload_n hx hb dL_law_1317 rfl (lv_at hl 1 rfl) ?_
      refine lv_aload_n hx hb dL_law_1318 rfl (lv_at hl 3 rfl) ?_
      refine lv_iload_n hx hb dL_law_1319 rfl (lv_at hl 0 rfl) ?_
      refine lv_iconst (v := 1) hx hb dL_law_1320 (by decide) ?_
      refine lv_iadd hx hb dL_law_1321 ?_
      refine lv_topi (fun jv338 ejv338 => ?_)
      obtain rfl : jv1 = jv338 := ejv1.trans ejv338.symm
      refine va_sld hx hb hX hbl hbA hS (sl_in (c := 1) ejv1 (by decide) (by decide) hi hL) dL_law_1322 ?_
      refine lv_topi (fun av339 eav339 => ?_)
      obtain rfl : 3 = av339 := eav2.trans eav339.symm
      refine lv_aload_n hx hb dL_law_1323 rfl (lv_at hl 3 rfl) ?_
      refine lv_iload_n hx hb dL_law_1324 rfl (lv_at hl 0 rfl) ?_
      refine lv_iconst (v := 2) hx hb dL_law_1325 (by decide) ?_
      refine lv_iadd hx hb dL_law_1326 ?_
      refine lv_topi (fun jv340 ejv340 => ?_)
      obtain rfl : jv3 = jv340 := ejv3.trans ejv340.symm
      refine va_sld hx hb hX hbl hbA hS (sl_in (c := 2) ejv3 (by decide) (by decide) hi hL) dL_law_1327 ?_
      refine lv_topi (fun av341 eav341 => ?_)
      obtain rfl : av4 = av341 := eav4.trans eav341.symm
      refine lv_aload_n hx hb dL_law_1328 rfl (lv_at hl 3 rfl) ?_
      refine lv_iload_n hx hb dL_law_1329 rfl (lv_at hl 0 rfl) ?_
      refine lv_iconst (v := 3) hx hb dL_law_1330 (by decide) ?_
      refine lv_iadd hx hb dL_law_1331 ?_
      refine lv_topi (fun jv342 ejv342 => ?_)
      obtain rfl : jv5 = jv342 := ejv5.trans ejv342.symm
      refine va_sld hx hb hX hbl hbA hS (sl_in (c := 3) ejv5 (by decide) (by decide) hi hL) dL_law_1332 ?_
      refine lv_topi (fun av343 eav343 => ?_)
      obtain rfl : 3 = av343 := eav6.trans eav343.symm
      refine lv_aload_n hx hb dL_law_1333 rfl (lv_at hl 3 rfl) ?_
      refine lv_iload_n hx hb dL_law_1334 rfl (lv_at hl 0 rfl) ?_
      refine lv_iconst (v := 4) hx hb dL_law_1335 (by decide) ?_
      refine lv_iadd hx hb dL_law_1336 ?_
      refine lv_topi (fun jv344 ejv344 => ?_)
      obtain rfl : jv7 = jv344 := ejv7.trans ejv344.symm
      refine va_sld hx hb hX hbl hbA hS (sl_in (c := 4) ejv7 (by decide) (by decide) hi hL) dL_law_1337 ?_
      refine lv_topi (fun av345 eav345 => ?_)
      obtain rfl : av8 = av345 := eav8.trans eav345.symm
      refine lv_aload_n hx hb dL_law_1338 rfl (lv_at hl 3 rfl) ?_
      refine lv_iload_n hx hb dL_law_1339 rfl (lv_at hl 0 rfl) ?_
      refine lv_iconst (v := 5) hx hb dL_law_1340 (by decide) ?_
      refine lv_iadd hx hb dL_law_1341 ?_
      refine lv_topi (fun jv346 ejv346 => ?_)
      obtain rfl : jv9 = jv346 := ejv9.trans ejv346.symm
      refine va_sld hx hb hX hbl hbA hS (sl_in (c := 5) ejv9 (by decide) (by decide) hi hL) dL_law_1342 ?_
      refine lv_topi (fun av347 eav347 => ?_)
      obtain rfl : av10 = av347 := eav10.trans eav347.symm
      have hM0 := hM
      refine cx_fpasteM33 (ob := q) (a2 := av4) (a4 := av8) (a5 := av10) (rest := []) C1  hM hP hD hS hl.1 (Nat.le_of_ble_eq_true rfl) ⟨by omega, by omega⟩ dL_law_1343 (fun an348 w349 nm_350 H locs hq2 hM hP hD hS => ?_)
      have hP := P_perm (List.perm_append_comm_assoc w349 w336 tl) hP
      have hD := D_perm (List.perm_append_comm_assoc w349 w336 tl) hD
      refine lv_pop hx hb dL_law_1346 rfl ?_
      refine lv_goto (tgt := 1350) hx hb dL_law_1347 (by decide) ?_
      unfold sR at r1 r2 r3 r4
      have hm09 := BM_n hM0 0
      have hm19 := BM_n hM0 1
      have hm29 := BM_n hM0 2
      have hm39 := BM_n hM0 3
      rcases hq with hq | hq | hq
      · skip
        obtain ⟨rfl, rfl, hz⟩ := hq
        rcases hq2 with hq2 | hq2 | hq2
        · skip
          obtain ⟨rfl, rfl, hy⟩ := hq2
          exact K _ _ _ _ ⟨w336, w349, tl, _, _, _, _, _, _, _, _, _, _, _, _, _, _, _, _, _, _, _, _, _, _, _, _, _, _, _, _, _, _, _, _, _, g0, g1, g2, xd0, xd1, xd2, (by assumption), (by assumption), hI, ⟨r0, r1, r2, r3, r4, i0, i1, i2, ttp, ttf, ttq, ttg, tte0, tte1, tte2, ttn0, ttn1, ttn2, ttn3, ttx, ttx0, ttx1, ttx2⟩, hP, hD, hS, hl, by omega, by omega⟩
        · skip
          obtain ⟨rfl, rfl, hy⟩ := hq2
          exfalso
          omega
        · skip
          obtain ⟨rfl, hy⟩ := hq2
          exfalso
          omega
      · skip
        obtain ⟨rfl, rfl, hz⟩ := hq
        rcases hq2 with hq2 | hq2 | hq2
        · skip
          obtain ⟨rfl, rfl, hy⟩ := hq2
          exfalso
          omega
        · skip
          obtain ⟨rfl, rfl, hy⟩ := hq2
          exact K _ _ _ _ ⟨w336, w349, tl, _, _, _, _, _, _, _, _, _, _, _, _, _, _, _, _, _, _, _, _, _, _, _, _, _, _, _, _, _, _, _, _, _, g0, g1, g2, xd0, xd1, xd2, (by assumption), (by assumption), hI, ⟨r0, r1, r2, r3, r4, i0, i1, i2, ttp, ttf, ttq, ttg, tte0, tte1, tte2, ttn0, ttn1, ttn2, ttn3, ttx, ttx0, ttx1, ttx2⟩, hP, hD, hS, hl, by omega, by omega⟩
        · skip
          obtain ⟨rfl, hy⟩ := hq2
          exfalso
          omega
      · skip
        obtain ⟨rfl, hz⟩ := hq
        rcases hq2 with hq2 | hq2 | hq2
        · skip
          obtain ⟨rfl, rfl, hy⟩ := hq2
          exfalso
          omega
        · skip
          obtain ⟨rfl, rfl, hy⟩ := hq2
          exfalso
          omega
        · skip
          obtain ⟨rfl, hy⟩ := hq2
          exact K _ _ _ _ ⟨w336, w349, tl, _, _, _, _, _, _, _, _, _, _, _, _, _, _, _, _, _, _, _, _, _, _, _, _, _, _, _, _, _, _, _, _, _, g0, g1, g2, xd0, xd1, xd2, (by assumption), (by assumption), hI, ⟨r0, r1, r2, r3, r4, i0, i1, i2, ttp, ttf, ttq, ttg, tte0, tte1, tte2, (nt_paO (m := av10.toInt.toNat) ttn0 (hy.2.1) (by omega) (by omega) (by decide)), (nt_paO (m := av10.toInt.toNat) ttn1 (hy.2.1) (by omega) (by omega) (by decide)), (nt_paO (m := av10.toInt.toNat) ttn2 (hy.2.1) (by omega) (by omega) (by decide)), (nt_pa ttn3 ttn3 (hz.2.1) (hy.2.1) (by omega) (by omega) (by omega)), ttx, ttx0, ttx1, ttx2⟩, hP, hD, hS, hl, by omega, by omega⟩
    · have hav6 := h9
      refine cx_spasteTlo (ob := x) (a1 := 3) (a2 := av4) (a3 := av6) (a4 := av8) (a5 := av10) (rest := []) C1 (by decide) hav6 hB hP hD hS hl.1 (Nat.le_of_ble_eq_true rfl) ⟨by omega, by omega⟩ dL_law_1313 (fun an351 w352  H locs hq hB hP hD hS => ?_)
      have hP := P_perm (List.perm_append_comm_assoc w352 wm tl) hP
      have hD := D_perm (List.perm_append_comm_assoc w352 wm tl) hD
      refine lv_pop hx hb dL_law_1316 rfl ?_
      refine lv_aload_n hx hb dL_law_1317 rfl (lv_at hl 1 rfl) ?_
      refine lv_aload_n hx hb dL_law_1318 rfl (lv_at hl 3 rfl) ?_
      refine lv_iload_n hx hb dL_law_1319 rfl (lv_at hl 0 rfl) ?_
      refine lv_iconst (v := 1) hx hb dL_law_1320 (by decide) ?_
      refine lv_iadd hx hb dL_law_1321 ?_
      refine lv_topi (fun jv353 ejv353 => ?_)
      obtain rfl : jv1 = jv353 := ejv1.trans ejv353.symm
      refine va_sld hx hb hX hbl hbA hS (sl_in (c := 1) ejv1 (by decide) (by decide) hi hL) dL_law_1322 ?_
      refine lv_topi (fun av354 eav354 => ?_)
      obtain rfl : 3 = av354 := eav2.trans eav354.symm
      refine lv_aload_n hx hb dL_law_1323 rfl (lv_at hl 3 rfl) ?_
      refine lv_iload_n hx hb dL_law_1324 rfl (lv_at hl 0 rfl) ?_
      refine lv_iconst (v := 2) hx hb dL_law_1325 (by decide) ?_
      refine lv_iadd hx hb dL_law_1326 ?_
      refine lv_topi (fun jv355 ejv355 => ?_)
      obtain rfl : jv3 = jv355 := ejv3.trans ejv355.symm
      refine va_sld hx hb hX hbl hbA hS (sl_in (c := 2) ejv3 (by decide) (by decide) hi hL) dL_law_1327 ?_
      refine lv_topi (fun av356 eav356 => ?_)
      obtain rfl : av4 = av356 := eav4.trans eav356.symm
      refine lv_aload_n hx hb dL_law_1328 rfl (lv_at hl 3 rfl) ?_
      refine lv_iload_n hx hb dL_law_1329 rfl (lv_at hl 0 rfl) ?_
      refine lv_iconst (v := 3) hx hb dL_law_1330 (by decide) ?_
      refine lv_iadd hx hb dL_law_1331 ?_
      refine lv_topi (fun jv357 ejv357 => ?_)
      obtain rfl : jv5 = jv357 := ejv5.trans ejv357.symm
      refine va_sld hx hb hX hbl hbA hS (sl_in (c := 3) ejv5 (by decide) (by decide) hi hL) dL_law_1332 ?_
      refine lv_topi (fun av358 eav358 => ?_)
      obtain rfl : av6 = av358 := eav6.trans eav358.symm
      refine lv_aload_n hx hb dL_law_1333 rfl (lv_at hl 3 rfl) ?_
      refine lv_iload_n hx hb dL_law_1334 rfl (lv_at hl 0 rfl) ?_
      refine lv_iconst (v := 4) hx hb dL_law_1335 (by decide) ?_
      refine lv_iadd hx hb dL_law_1336 ?_
      refine lv_topi (fun jv359 ejv359 => ?_)
      obtain rfl : jv7 = jv359 := ejv7.trans ejv359.symm
      refine va_sld hx hb hX hbl hbA hS (sl_in (c := 4) ejv7 (by decide) (by decide) hi hL) dL_law_1337 ?_
      refine lv_topi (fun av360 eav360 => ?_)
      obtain rfl : av8 = av360 := eav8.trans eav360.symm
      refine lv_aload_n hx hb dL_law_1338 rfl (lv_at hl 3 rfl) ?_
      refine lv_iload_n hx hb dL_law_1339 rfl (lv_at hl 0 rfl) ?_
      refine lv_iconst (v := 5) hx hb dL_law_1340 (by decide) ?_
      refine lv_iadd hx hb dL_law_1341 ?_
      refine lv_topi (fun jv361 ejv361 => ?_)
      obtain rfl : jv9 = jv361 := ejv9.trans ejv361.symm
      refine va_sld hx hb hX hbl hbA hS (sl_in (c := 5) ejv9 (by decide) (by decide) hi hL) dL_law_1342 ?_
      refine lv_topi (fun av362 eav362 => ?_)
      obtain rfl : av10 = av362 := eav10.trans eav362.symm
      have hM0 := hM
      refine cx_spasteMTlo (ob := q) (a1 := 3) (a2 := av4) (a3 := av6) (a4 := av8) (a5 := av10) (rest := []) C1 (by decide) hav6 hM hP hD hS hl.1 (Nat.le_of_ble_eq_true rfl) ⟨by omega, by omega⟩ dL_law_1343 (fun an363 w364  H locs hq2 hM hP hD hS => ?_)
      have hP := P_perm (List.perm_append_comm_assoc w364 w352 tl) hP
      have hD := D_perm (List.perm_append_comm_assoc w364 w352 tl) hD
      refine lv_pop hx hb dL_law_1346 rfl ?_
      refine lv_goto (tgt := 1350) hx hb dL_law_1347 (by decide) ?_
      exact K _ _ _ _ ⟨w352, w364, tl, ts, fl0, wi0, sz0, fl1, wi1, sz1, fl2, wi2, sz2, fl3, wi3, sz3, tp, rf, rp, nb0, nb1, nb2, nb3, g, xd, f, ta, fm, fw, fh, tq, fk, fp, ww, wv, nm, g0, g1, g2, xd0, xd1, xd2, hB, hM, hI, ⟨r0, r1, r2, r3, r4, i0, i1, i2, ttp, ttf, ttq, ttg, tte0, tte1, tte2, ttn0, ttn1, ttn2, ttn3, ttx, ttx0, ttx1, ttx2⟩, hP, hD, hS, hl, by omega, by omega⟩
    · have hav6 := h9
      refine cx_spasteThi (ob := x) (a1 := 3) (a2 := av4) (a3 := av6) (a4 := av8) (a5 := av10) (rest := []) C1 (by decide) hav6 hB hP hD hS hl.1 (Nat.le_of_ble_eq_true rfl) ⟨by omega, by omega⟩ dL_law_1313 (fun an365 w366  H locs hq hB hP hD hS => ?_)
      have hP := P_perm (List.perm_append_comm_assoc w366 wm tl) hP
      have hD := D_perm (List.perm_append_comm_assoc w366 wm tl) hD
      refine lv_pop hx hb dL_law_1316 rfl ?_
      refine lv_aload_n hx hb dL_law_1317 rfl (lv_at hl 1 rfl) ?_
      refine lv_aload_n hx hb dL_law_1318 rfl (lv_at hl 3 rfl) ?_
      refine lv_iload_n hx hb dL_law_1319 rfl (lv_at hl 0 rfl) ?_
      refine lv_iconst (v := 1) hx hb dL_law_1320 (by decide) ?_
      refine lv_iadd hx hb dL_law_1321 ?_
      refine lv_topi (fun jv367 ejv367 => ?_)
      obtain rfl : jv1 = jv367 := ejv1.trans ejv367.symm
      refine va_sld hx hb hX hbl hbA hS (sl_in (c := 1) ejv1 (by decide) (by decide) hi hL) dL_law_1322 ?_
      refine lv_topi (fun av368 eav368 => ?_)
      obtain rfl : 3 = av368 := eav2.trans eav368.symm
      refine lv_aload_n hx hb dL_law_1323 rfl (lv_at hl 3 rfl) ?_
      refine lv_iload_n hx hb dL_law_1324 rfl (lv_at hl 0 rfl) ?_
      refine lv_iconst (v := 2) hx hb dL_law_1325 (by decide) ?_
      refine lv_iadd hx hb dL_law_1326 ?_
      refine lv_topi (fun jv369 ejv369 => ?_)
      obtain rfl : jv3 = jv369 := ejv3.trans ejv369.symm
      refine va_sld hx hb hX hbl hbA hS (sl_in (c := 2) ejv3 (by decide) (by decide) hi hL) dL_law_1327 ?_
      refine lv_topi (fun av370 eav370 => ?_)
      obtain rfl : av4 = av370 := eav4.trans eav370.symm
      refine lv_aload_n hx hb dL_law_1328 rfl (lv_at hl 3 rfl) ?_
      refine lv_iload_n hx hb dL_law_1329 rfl (lv_at hl 0 rfl) ?_
      refine lv_iconst (v := 3) hx hb dL_law_1330 (by decide) ?_
      refine lv_iadd hx hb dL_law_1331 ?_
      refine lv_topi (fun jv371 ejv371 => ?_)
      obtain rfl : jv5 = jv371 := ejv5.trans ejv371.symm
      refine va_sld hx hb hX hbl hbA hS (sl_in (c := 3) ejv5 (by decide) (by decide) hi hL) dL_law_1332 ?_
      refine lv_topi (fun av372 eav372 => ?_)
      obtain rfl : av6 = av372 := eav6.trans eav372.symm
      refine lv_aload_n hx hb dL_law_1333 rfl (lv_at hl 3 rfl) ?_
      refine lv_iload_n hx hb dL_law_1334 rfl (lv_at hl 0 rfl) ?_
      refine lv_iconst (v := 4) hx hb dL_law_1335 (by decide) ?_
      refine lv_iadd hx hb dL_law_1336 ?_
      refine lv_topi (fun jv373 ejv373 => ?_)
      obtain rfl : jv7 = jv373 := ejv7.trans ejv373.symm
      refine va_sld hx hb hX hbl hbA hS (sl_in (c := 4) ejv7 (by decide) (by decide) hi hL) dL_law_1337 ?_
      refine lv_topi (fun av374 eav374 => ?_)
      obtain rfl : av8 = av374 := eav8.trans eav374.symm
      refine lv_aload_n hx hb dL_law_1338 rfl (lv_at hl 3 rfl) ?_
      refine lv_iload_n hx hb dL_law_1339 rfl (lv_at hl 0 rfl) ?_
      refine lv_iconst (v := 5) hx hb dL_law_1340 (by decide) ?_
      refine lv_iadd hx hb dL_law_1341 ?_
      refine lv_topi (fun jv375 ejv375 => ?_)
      obtain rfl : jv9 = jv375 := ejv9.trans ejv375.symm
      refine va_sld hx hb hX hbl hbA hS (sl_in (c := 5) ejv9 (by decide) (by decide) hi hL) dL_law_1342 ?_
      refine lv_topi (fun av376 eav376 => ?_)
      obtain rfl : av10 = av376 := eav10.trans eav376.symm
      have hM0 := hM
      refine cx_spasteMThi (ob := q) (a1 := 3) (a2 := av4) (a3 := av6) (a4 := av8) (a5 := av10) (rest := []) C1 (by decide) hav6 hM hP hD hS hl.1 (Nat.le_of_ble_eq_true rfl) ⟨by omega, by omega⟩ dL_law_1343 (fun an377 w378  H locs hq2 hM hP hD hS => ?_)
      have hP := P_perm (List.perm_append_comm_assoc w378 w366 tl) hP
      have hD := D_perm (List.perm_append_comm_assoc w378 w366 tl) hD
      refine lv_pop hx hb dL_law_1346 rfl ?_
      refine lv_goto (tgt := 1350) hx hb dL_law_1347 (by decide) ?_
      exact K _ _ _ _ ⟨w366, w378, tl, ts, fl0, wi0, sz0, fl1, wi1, sz1, fl2, wi2, sz2, fl3, wi3, sz3, tp, rf, rp, nb0, nb1, nb2, nb3, g, xd, f, ta, fm, fw, fh, tq, fk, fp, ww, wv, nm, g0, g1, g2, xd0, xd1, xd2, hB, hM, hI, ⟨r0, r1, r2, r3, r4, i0, i1, i2, ttp, ttf, ttq, ttg, tte0, tte1, tte2, ttn0, ttn1, ttn2, ttn3, ttx, ttx0, ttx1, ttx2⟩, hP, hD, hS, hl, by omega, by omega⟩
  · have hav2 := h9
    refine cx_spastelo (ob := x) (a1 := av2) (a2 := av4) (a3 := av6) (a4 := av8) (a5 := av10) (rest := []) C1 hav2 hB hP hD hS hl.1 (Nat.le_of_ble_eq_true rfl) ⟨by omega, by omega⟩ dL_law_1313 (fun an379 w380  H locs hq hB hP hD hS => ?_)
    have hP := P_perm (List.perm_append_comm_assoc w380 wm tl) hP
    have hD := D_perm (List.perm_append_comm_assoc w380 wm tl) hD
    refine lv_pop hx hb dL_law_1316 rfl ?_
    refine lv_aload_n hx hb dL_law_1317 rfl (lv_at hl 1 rfl) ?_
    refine lv_aload_n hx hb dL_law_1318 rfl (lv_at hl 3 rfl) ?_
    refine lv_iload_n hx hb dL_law_1319 rfl (lv_at hl 0 rfl) ?_
    refine lv_iconst (v := 1) hx hb dL_law_1320 (by decide) ?_
    refine lv_iadd hx hb dL_law_1321 ?_
    refine lv_topi (fun jv381 ejv381 => ?_)
    obtain rfl : jv1 = jv381 := ejv1.trans ejv381.symm
    refine va_sld hx hb hX hbl hbA hS (sl_in (c := 1) ejv1 (by decide) (by decide) hi hL) dL_law_1322 ?_
    refine lv_topi (fun av382 eav382 => ?_)
    obtain rfl : av2 = av382 := eav2.trans eav382.symm
    refine lv_aload_n hx hb dL_law_1323 rfl (lv_at hl 3 rfl) ?_
    refine lv_iload_n hx hb dL_law_1324 rfl (lv_at hl 0 rfl) ?_
    refine lv_iconst (v := 2) hx hb dL_law_1325 (by decide) ?_
    refine lv_iadd hx hb dL_law_1326 ?_
    refine lv_topi (fun jv383 ejv383 => ?_)
    obtain rfl : jv3 = jv383 := ejv3.trans ejv383.symm
    refine va_sld hx hb hX hbl hbA hS (sl_in (c := 2) ejv3 (by decide) (by decide) hi hL) dL_law_1327 ?_
    refine lv_topi (fun av384 eav384 => ?_)
    obtain rfl : av4 = av384 := eav4.trans eav384.symm
    refine lv_aload_n hx hb dL_law_1328 rfl (lv_at hl 3 rfl) ?_
    refine lv_iload_n hx hb dL_law_1329 rfl (lv_at hl 0 rfl) ?_
    refine lv_iconst (v := 3) hx hb dL_law_1330 (by decide) ?_
    refine lv_iadd hx hb dL_law_1331 ?_
    refine lv_topi (fun jv385 ejv385 => ?_)
    obtain rfl : jv5 = jv385 := ejv5.trans ejv385.symm
    refine va_sld hx hb hX hbl hbA hS (sl_in (c := 3) ejv5 (by decide) (by decide) hi hL) dL_law_1332 ?_
    refine lv_topi (fun av386 eav386 => ?_)
    obtain rfl : av6 = av386 := eav6.trans eav386.symm
    refine lv_aload_n hx hb dL_law_1333 rfl (lv_at hl 3 rfl) ?_
    refine lv_iload_n hx hb dL_law_1334 rfl (lv_at hl 0 rfl) ?_
    refine lv_iconst (v := 4) hx hb dL_law_1335 (by decide) ?_
    refine lv_iadd hx hb dL_law_1336 ?_
    refine lv_topi (fun jv387 ejv387 => ?_)
    obtain rfl : jv7 = jv387 := ejv7.trans ejv387.symm
    refine va_sld hx hb hX hbl hbA hS (sl_in (c := 4) ejv7 (by decide) (by decide) hi hL) dL_law_1337 ?_
    refine lv_topi (fun av388 eav388 => ?_)
    obtain rfl : av8 = av388 := eav8.trans eav388.symm
    refine lv_aload_n hx hb dL_law_1338 rfl (lv_at hl 3 rfl) ?_
    refine lv_iload_n hx hb dL_law_1339 rfl (lv_at hl 0 rfl) ?_
    refine lv_iconst (v := 5) hx hb dL_law_1340 (by decide) ?_
    refine lv_iadd hx hb dL_law_1341 ?_
    refine lv_topi (fun jv389 ejv389 => ?_)
    obtain rfl : jv9 = jv389 := ejv9.trans ejv389.symm
    refine va_sld hx hb hX hbl hbA hS (sl_in (c := 5) ejv9 (by decide) (by decide) hi hL) dL_law_1342 ?_
    refine lv_topi (fun av390 eav390 => ?_)
    obtain rfl : av10 = av390 := eav10.trans eav390.symm
    have hM0 := hM
    refine cx_spasteMlo (ob := q) (a1 := av2) (a2 := av4) (a3 := av6) (a4 := av8) (a5 := av10) (rest := []) C1 hav2 hM hP hD hS hl.1 (Nat.le_of_ble_eq_true rfl) ⟨by omega, by omega⟩ dL_law_1343 (fun an391 w392  H locs hq2 hM hP hD hS => ?_)
    have hP := P_perm (List.perm_append_comm_assoc w392 w380 tl) hP
    have hD := D_perm (List.perm_append_comm_assoc w392 w380 tl) hD
    refine lv_pop hx hb dL_law_1346 rfl ?_
    refine lv_goto (tgt := 1350) hx hb dL_law_1347 (by decide) ?_
    exact K _ _ _ _ ⟨w380, w392, tl, ts, fl0, wi0, sz0, fl1, wi1, sz1, fl2, wi2, sz2, fl3, wi3, sz3, tp, rf, rp, nb0, nb1, nb2, nb3, g, xd, f, ta, fm, fw, fh, tq, fk, fp, ww, wv, nm, g0, g1, g2, xd0, xd1, xd2, hB, hM, hI, ⟨r0, r1, r2, r3, r4, i0, i1, i2, ttp, ttf, ttq, ttg, tte0, tte1, tte2, ttn0, ttn1, ttn2, ttn3, ttx, ttx0, ttx1, ttx2⟩, hP, hD, hS, hl, by omega, by omega⟩
  · have hav2 := h9
    refine cx_spastehi (ob := x) (a1 := av2) (a2 := av4) (a3 := av6) (a4 := av8) (a5 := av10) (rest := []) C1 hav2 hB hP hD hS hl.1 (Nat.le_of_ble_eq_true rfl) ⟨by omega, by omega⟩ dL_law_1313 (fun an393 w394  H locs hq hB hP hD hS => ?_)
    have hP := P_perm (List.perm_append_comm_assoc w394 wm tl) hP
    have hD := D_perm (List.perm_append_comm_assoc w394 wm tl) hD
    refine lv_pop hx hb dL_law_1316 rfl ?_
    refine lv_aload_n hx hb dL_law_1317 rfl (lv_at hl 1 rfl) ?_
    refine lv_aload_n hx hb dL_law_1318 rfl (lv_at hl 3 rfl) ?_
    refine lv_iload_n hx hb dL_law_1319 rfl (lv_at hl 0 rfl) ?_
    refine lv_iconst (v := 1) hx hb dL_law_1320 (by decide) ?_
    refine lv_iadd hx hb dL_law_1321 ?_
    refine lv_topi (fun jv395 ejv395 => ?_)
    obtain rfl : jv1 = jv395 := ejv1.trans ejv395.symm
    refine va_sld hx hb hX hbl hbA hS (sl_in (c := 1) ejv1 (by decide) (by decide) hi hL) dL_law_1322 ?_
    refine lv_topi (fun av396 eav396 => ?_)
    obtain rfl : av2 = av396 := eav2.trans eav396.symm
    refine lv_aload_n hx hb dL_law_1323 rfl (lv_at hl 3 rfl) ?_
    refine lv_iload_n hx hb dL_law_1324 rfl (lv_at hl 0 rfl) ?_
    refine lv_iconst (v := 2) hx hb dL_law_1325 (by decide) ?_
    refine lv_iadd hx hb dL_law_1326 ?_
    refine lv_topi (fun jv397 ejv397 => ?_)
    obtain rfl : jv3 = jv397 := ejv3.trans ejv397.symm
    refine va_sld hx hb hX hbl hbA hS (sl_in (c := 2) ejv3 (by decide) (by decide) hi hL) dL_law_1327 ?_
    refine lv_topi (fun av398 eav398 => ?_)
    obtain rfl : av4 = av398 := eav4.trans eav398.symm
    refine lv_aload_n hx hb dL_law_1328 rfl (lv_at hl 3 rfl) ?_
    refine lv_iload_n hx hb dL_law_1329 rfl (lv_at hl 0 rfl) ?_
    refine lv_iconst (v := 3) hx hb dL_law_1330 (by decide) ?_
    refine lv_iadd hx hb dL_law_1331 ?_
    refine lv_topi (fun jv399 ejv399 => ?_)
    obtain rfl : jv5 = jv399 := ejv5.trans ejv399.symm
    refine va_sld hx hb hX hbl hbA hS (sl_in (c := 3) ejv5 (by decide) (by decide) hi hL) dL_law_1332 ?_
    refine lv_topi (fun av400 eav400 => ?_)
    obtain rfl : av6 = av400 := eav6.trans eav400.symm
    refine lv_aload_n hx hb dL_law_1333 rfl (lv_at hl 3 rfl) ?_
    refine lv_iload_n hx hb dL_law_1334 rfl (lv_at hl 0 rfl) ?_
    refine lv_iconst (v := 4) hx hb dL_law_1335 (by decide) ?_
    refine lv_iadd hx hb dL_law_1336 ?_
    refine lv_topi (fun jv401 ejv401 => ?_)
    obtain rfl : jv7 = jv401 := ejv7.trans ejv401.symm
    refine va_sld hx hb hX hbl hbA hS (sl_in (c := 4) ejv7 (by decide) (by decide) hi hL) dL_law_1337 ?_
    refine lv_topi (fun av402 eav402 => ?_)
    obtain rfl : av8 = av402 := eav8.trans eav402.symm
    refine lv_aload_n hx hb dL_law_1338 rfl (lv_at hl 3 rfl) ?_
    refine lv_iload_n hx hb dL_law_1339 rfl (lv_at hl 0 rfl) ?_
    refine lv_iconst (v := 5) hx hb dL_law_1340 (by decide) ?_
    refine lv_iadd hx hb dL_law_1341 ?_
    refine lv_topi (fun jv403 ejv403 => ?_)
    obtain rfl : jv9 = jv403 := ejv9.trans ejv403.symm
    refine va_sld hx hb hX hbl hbA hS (sl_in (c := 5) ejv9 (by decide) (by decide) hi hL) dL_law_1342 ?_
    refine lv_topi (fun av404 eav404 => ?_)
    obtain rfl : av10 = av404 := eav10.trans eav404.symm
    have hM0 := hM
    refine cx_spasteMhi (ob := q) (a1 := av2) (a2 := av4) (a3 := av6) (a4 := av8) (a5 := av10) (rest := []) C1 hav2 hM hP hD hS hl.1 (Nat.le_of_ble_eq_true rfl) ⟨by omega, by omega⟩ dL_law_1343 (fun an405 w406  H locs hq2 hM hP hD hS => ?_)
    have hP := P_perm (List.perm_append_comm_assoc w406 w394 tl) hP
    have hD := D_perm (List.perm_append_comm_assoc w406 w394 tl) hD
    refine lv_pop hx hb dL_law_1346 rfl ?_
    refine lv_goto (tgt := 1350) hx hb dL_law_1347 (by decide) ?_
    exact K _ _ _ _ ⟨w394, w406, tl, ts, fl0, wi0, sz0, fl1, wi1, sz1, fl2, wi2, sz2, fl3, wi3, sz3, tp, rf, rp, nb0, nb1, nb2, nb3, g, xd, f, ta, fm, fw, fh, tq, fk, fp, ww, wv, nm, g0, g1, g2, xd0, xd1, xd2, hB, hM, hI, ⟨r0, r1, r2, r3, r4, i0, i1, i2, ttp, ttf, ttq, ttg, tte0, tte1, tte2, ttn0, ttn1, ttn2, ttn3, ttx, ttx0, ttx1, ttx2⟩, hP, hD, hS, hl, by omega, by omega⟩
