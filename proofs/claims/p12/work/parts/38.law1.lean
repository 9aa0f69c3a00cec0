set_option maxHeartbeats 4000000 in
set_option maxRecDepth 100000 in
theorem law_6 {p : Program} {e : Env} {s : State} {m : MethodId} {below : List Frame} {meth : Method} {c : Code} {l : Launch} {b L : Nat} {xs : Nat → Int32} {A : Nat → Prop} {G : va_G} {y : Nat → ClassId} {aK aV : Nat → Nat} {H : Heap} {locs : List Loc} {cells slots : Nat} {ls : Array Slot} {Q : State → Prop} (C0 : lawC p s m meth c b L xs A G y aK aV) {x q : Nat} {i : Int32} (hi : 0 ≤ i.toInt ∧ i.toInt + 6 ≤ (L : Int)) (I : LI s b A G y x q i H locs ls cells slots) (K : ∀ H1 locs1 cells1 slots1, LI s b A G y x q i H1 locs1 ls cells1 slots1 → W p l e room_1 s m #[Value.ref b] below meth c H1 locs1 cells1 slots1 Q (F0 m 1350 ls [])) : W p l e room_1 s m #[Value.ref b] below meth c H locs cells slots Q (F0 m 380 ls []) := by
  have C1 := C0
  obtain ⟨hx, hb, hr, hml, hown, hw0, hX, hbl, hbA, hA, hAf, hlocks, hK, hE, hL⟩ := C0
  obtain ⟨w, wm, tl, ts, fl0, wi0, sz0, fl1, wi1, sz1, fl2, wi2, sz2, fl3, wi3, sz3, tp, rf, rp, nb0, nb1, nb2, nb3, g, xd, f, ta, fm, fw, fh, tq, fk, fp, ww, wv, nm, g0, g1, g2, xd0, xd1, xd2, hB, hM, hI, hR, hP, hD, hS, hl, hc1, hc2⟩ := I
  obtain ⟨r0, r1, r2, r3, r4, i0, i1, i2, ttp, ttf, ttq, ttg, tte0, tte1, tte2, ttn0, ttn1, ttn2, ttn3, ttx, ttx0, ttx1, ttx2⟩ := hR
  refine lv_aload_n hx hb dL_law_380 rfl (lv_at hl 2 rfl) ?_
  refine lv_aload_n hx hb dL_law_381 rfl (lv_at hl 3 rfl) ?_
  refine lv_iload_n hx hb dL_law_382 rfl (lv_at hl 0 rfl) ?_
  refine lv_iconst (v := 1) hx hb dL_law_383 (by decide) ?_
  refine lv_iadd hx hb dL_law_384 ?_
  refine lv_topi (fun jv1 ejv1 => ?_)
  refine va_sld hx hb hX hbl hbA hS (sl_in (c := 1) ejv1 (by decide) (by decide) hi hL) dL_law_385 ?_
  refine lv_topi (fun av2 eav2 => ?_)
  refine lv_aload_n hx hb dL_law_386 rfl (lv_at hl 3 rfl) ?_
  refine lv_iload_n hx hb dL_law_387 rfl (lv_at hl 0 rfl) ?_
  refine lv_iconst (v := 2) hx hb dL_law_388 (by decide) ?_
  refine lv_iadd hx hb dL_law_389 ?_
  refine lv_topi (fun jv3 ejv3 => ?_)
  refine va_sld hx hb hX hbl hbA hS (sl_in (c := 2) ejv3 (by decide) (by decide) hi hL) dL_law_390 ?_
  refine lv_topi (fun av4 eav4 => ?_)
  refine lv_aload_n hx hb dL_law_391 rfl (lv_at hl 3 rfl) ?_
  refine lv_iload_n hx hb dL_law_392 rfl (lv_at hl 0 rfl) ?_
  refine lv_iconst (v := 3) hx hb dL_law_393 (by decide) ?_
  refine lv_iadd hx hb dL_law_394 ?_
  refine lv_topi (fun jv5 ejv5 => ?_)
  refine va_sld hx hb hX hbl hbA hS (sl_in (c := 3) ejv5 (by decide) (by decide) hi hL) dL_law_395 ?_
  refine lv_topi (fun av6 eav6 => ?_)
  refine cx_kX9_does (ob := x) (a1 := av2) (a2 := av4) (a3 := av6) (rest := []) C1  hB hP hD hS hl.1 (Nat.le_of_ble_eq_true rfl) ⟨by omega, by omega⟩ dL_law_396 (fun an7 w8 g_9 xd_10 H locs hq hB hP hD hS => ?_)
  have hP := P_perm (List.perm_append_comm_assoc w8 wm tl) hP
  have hD := D_perm (List.perm_append_comm_assoc w8 wm tl) hD
  refine lv_pop hx hb dL_law_399 rfl ?_
  refine lv_aload_n hx hb dL_law_400 rfl (lv_at hl 1 rfl) ?_
  refine lv_aload_n hx hb dL_law_401 rfl (lv_at hl 3 rfl) ?_
  refine lv_iload_n hx hb dL_law_402 rfl (lv_at hl 0 rfl) ?_
  refine lv_iconst (v := 1) hx hb dL_law_403 (by decide) ?_
  refine lv_iadd hx hb dL_law_404 ?_
  refine lv_topi (fun jv11 ejv11 => ?_)
  obtain rfl : jv1 = jv11 := ejv1.trans ejv11.symm
  refine va_sld hx hb hX hbl hbA hS (sl_in (c := 1) ejv1 (by decide) (by decide) hi hL) dL_law_405 ?_
  refine lv_topi (fun av12 eav12 => ?_)
  obtain rfl : av2 = av12 := eav2.trans eav12.symm
  refine lv_aload_n hx hb dL_law_406 rfl (lv_at hl 3 rfl) ?_
  refine lv_iload_n hx hb dL_law_407 rfl (lv_at hl 0 rfl) ?_
  refine lv_iconst (v := 2) hx hb dL_law_408 (by decide) ?_
  refine lv_iadd hx hb dL_law_409 ?_
  refine lv_topi (fun jv13 ejv13 => ?_)
  obtain rfl : jv3 = jv13 := ejv3.trans ejv13.symm
  refine va_sld hx hb hX hbl hbA hS (sl_in (c := 2) ejv3 (by decide) (by decide) hi hL) dL_law_410 ?_
  refine lv_topi (fun av14 eav14 => ?_)
  obtain rfl : av4 = av14 := eav4.trans eav14.symm
  refine lv_aload_n hx hb dL_law_411 rfl (lv_at hl 3 rfl) ?_
  refine lv_iload_n hx hb dL_law_412 rfl (lv_at hl 0 rfl) ?_
  refine lv_iconst (v := 3) hx hb dL_law_413 (by decide) ?_
  refine lv_iadd hx hb dL_law_414 ?_
  refine lv_topi (fun jv15 ejv15 => ?_)
  obtain rfl : jv5 = jv15 := ejv5.trans ejv15.symm
  refine va_sld hx hb hX hbl hbA hS (sl_in (c := 3) ejv5 (by decide) (by decide) hi hL) dL_law_415 ?_
  refine lv_topi (fun av16 eav16 => ?_)
  obtain rfl : av6 = av16 := eav6.trans eav16.symm
  have hM0 := hM
  refine cx_hdoes (ob := q) (a1 := av2) (a2 := av4) (a3 := av6) (rest := []) C1  hM hP hD hS hl.1 (Nat.le_of_ble_eq_true rfl) ⟨by omega, by omega⟩ dL_law_416 (fun an17 w18 ww_19 H locs hq2 hM hP hD hS => ?_)
  have hP := P_perm (List.perm_append_comm_assoc w18 w8 tl) hP
  have hD := D_perm (List.perm_append_comm_assoc w18 w8 tl) hD
  refine lv_pop hx hb dL_law_419 rfl ?_
  refine lv_goto (tgt := 1350) hx hb dL_law_420 (by decide) ?_
  have hww : (ww 0).toInt ≤ 16 := BM_h hM0
  have ttg2 : tgd g_9 ww_19 := by
    rcases hq with hq | hq | hq | hq
    · skip
      rcases hq2 with hq2 | hq2 | hq2 | hq2
      · skip
        rw [(hq.2.1), (hq2.2.1)]; exact ttg
      · skip
        rw [(hq.2.1), (hq2.2.1)]; exact ttg
      · skip
        rw [(hq.2.1), (hq2.2.1)]; exact ttg
      · skip
        exact False.elim (da_x ttg hww hq.2.2.2.1 hq2.1 (by omega))
    · skip
      rcases hq2 with hq2 | hq2 | hq2 | hq2
      · skip
        rw [(hq.2.1), (hq2.2.1)]; exact ttg
      · skip
        rw [(hq.2.1), (hq2.2.1)]; exact ttg
      · skip
        rw [(hq.2.1), (hq2.2.1)]; exact ttg
      · skip
        exact False.elim (da_x ttg hww hq.2.2.2.1 hq2.1 (by omega))
    · skip
      rcases hq2 with hq2 | hq2 | hq2 | hq2
      · skip
        rw [(hq.2.1), (hq2.2.1)]; exact ttg
      · skip
        rw [(hq.2.1), (hq2.2.1)]; exact ttg
      · skip
        rw [(hq.2.1), (hq2.2.1)]; exact ttg
      · skip
        exact False.elim (da_x ttg hww hq.2.2.2.1 hq2.1 (by omega))
    · skip
      rcases hq2 with hq2 | hq2 | hq2 | hq2
      · skip
        exact False.elim (da_x ttg hww hq.2.2.2.1 hq2.2.2.1 (by omega))
      · skip
        exact False.elim (da_x ttg hww hq.2.2.2.1 hq2.2.2.1 (by omega))
      · skip
        exact False.elim (da_x ttg hww hq.2.2.2.1 hq2.2.2.1 (by omega))
      · skip
        rw [(hq.1)]; exact tgd_t (gdo_c ttg) hq2.2.1
  have hkw := BM_k hM0
  have ttx9 : mxt xd_10 ww_19 := by
    rcases hq with hq | hq | hq | hq
    · skip
      rcases hq2 with hq2 | hq2 | hq2 | hq2
      · skip
        rw [(hq.2.2.1), (hq2.2.1)]; exact ttx
      · skip
        rw [(hq.2.2.1), (hq2.2.1)]; exact ttx
      · skip
        rw [(hq.2.2.1), (hq2.2.1)]; exact ttx
      · skip
        exact False.elim (da_x ttg hww hq.2.2.2.1 hq2.1 (by omega))
    · skip
      rcases hq2 with hq2 | hq2 | hq2 | hq2
      · skip
        rw [(hq.2.2.1), (hq2.2.1)]; exact ttx
      · skip
        rw [(hq.2.2.1), (hq2.2.1)]; exact ttx
      · skip
        rw [(hq.2.2.1), (hq2.2.1)]; exact ttx
      · skip
        exact False.elim (da_x ttg hww hq.2.2.2.1 hq2.1 (by omega))
    · skip
      rcases hq2 with hq2 | hq2 | hq2 | hq2
      · skip
        rw [(hq.2.2.1), (hq2.2.1)]; exact ttx
      · skip
        rw [(hq.2.2.1), (hq2.2.1)]; exact ttx
      · skip
        rw [(hq.2.2.1), (hq2.2.1)]; exact ttx
      · skip
        exact False.elim (da_x ttg hww hq.2.2.2.1 hq2.1 (by omega))
    · skip
      rcases hq2 with hq2 | hq2 | hq2 | hq2
      · skip
        exact False.elim (da_x ttg hww hq.2.2.2.1 hq2.2.2.1 (by omega))
      · skip
        exact False.elim (da_x ttg hww hq.2.2.2.1 hq2.2.2.1 (by omega))
      · skip
        exact False.elim (da_x ttg hww hq.2.2.2.1 hq2.2.2.1 (by omega))
      · skip
        rw [(hq.2.1), gdX_k ttg hww (gok_d (hq.2.2.2.1))]; exact (hq2.2.2.2.1 xd ttx).2
  exact K _ _ _ _ ⟨w8, w18, tl, ts, fl0, wi0, sz0, fl1, wi1, sz1, fl2, wi2, sz2, fl3, wi3, sz3, tp, rf, rp, nb0, nb1, nb2, nb3, g_9, xd_10, f, ta, fm, fw, fh, tq, fk, fp, ww_19, wv, nm, g0, g1, g2, xd0, xd1, xd2, hB, hM, hI, ⟨r0, r1, r2, r3, r4, i0, i1, i2, ttp, ttf, ttq, ttg2, tte0, tte1, tte2, ttn0, ttn1, ttn2, ttn3, ttx9, ttx0, ttx1, ttx2⟩, hP, hD, hS, hl, by omega, by omega⟩

set_option maxHeartbeats 4000000 in
set_option maxRecDepth 100000 in
theorem law_7 {p : Program} {e : Env} {s : State} {m : MethodId} {below : List Frame} {meth : Method} {c : Code} {l : Launch} {b L : Nat} {xs : Nat → Int32} {A : Nat → Prop} {G : va_G} {y : Nat → ClassId} {aK aV : Nat → Nat} {H : Heap} {locs : List Loc} {cells slots : Nat} {ls : Array Slot} {Q : State → Prop} (C0 : lawC p s m meth c b L xs A G y aK aV) {x q : Nat} {i : Int32} (hi : 0 ≤ i.toInt ∧ i.toInt + 6 ≤ (L : Int)) (I : LI s b A G y x q i H locs ls cells slots) (K : ∀ H1 locs1 cells1 slots1, LI s b A G y x q i H1 locs1 ls cells1 slots1 → W p l e room_1 s m #[Value.ref b] below meth c H1 locs1 cells1 slots1 Q (F0 m 1350 ls [])) : W p l e room_1 s m #[Value.ref b] below meth c H locs cells slots Q (F0 m 423 ls []) := by
  have C1 := C0
  obtain ⟨hx, hb, hr, hml, hown, hw0, hX, hbl, hbA, hA, hAf, hlocks, hK, hE, hL⟩ := C0
  obtain ⟨w, wm, tl, ts, fl0, wi0, sz0, fl1, wi1, sz1, fl2, wi2, sz2, fl3, wi3, sz3, tp, rf, rp, nb0, nb1, nb2, nb3, g, xd, f, ta, fm, fw, fh, tq, fk, fp, ww, wv, nm, g0, g1, g2, xd0, xd1, xd2, hB, hM, hI, hR, hP, hD, hS, hl, hc1, hc2⟩ := I
  obtain ⟨r0, r1, r2, r3, r4, i0, i1, i2, ttp, ttf, ttq, ttg, tte0, tte1, tte2, ttn0, ttn1, ttn2, ttn3, ttx, ttx0, ttx1, ttx2⟩ := hR
  refine lv_aload_n hx hb dL_law_423 rfl (lv_at hl 2 rfl) ?_
  refine lv_aload_n hx hb dL_law_424 rfl (lv_at hl 3 rfl) ?_
  refine lv_iload_n hx hb dL_law_425 rfl (lv_at hl 0 rfl) ?_
  refine lv_iconst (v := 1) hx hb dL_law_426 (by decide) ?_
  refine lv_iadd hx hb dL_law_427 ?_
  refine lv_topi (fun jv1 ejv1 => ?_)
  refine va_sld hx hb hX hbl hbA hS (sl_in (c := 1) ejv1 (by decide) (by decide) hi hL) dL_law_428 ?_
  refine lv_topi (fun av2 eav2 => ?_)
  refine lv_aload_n hx hb dL_law_429 rfl (lv_at hl 3 rfl) ?_
  refine lv_iload_n hx hb dL_law_430 rfl (lv_at hl 0 rfl) ?_
  refine lv_iconst (v := 2) hx hb dL_law_431 (by decide) ?_
  refine lv_iadd hx hb dL_law_432 ?_
  refine lv_topi (fun jv3 ejv3 => ?_)
  refine va_sld hx hb hX hbl hbA hS (sl_in (c := 2) ejv3 (by decide) (by decide) hi hL) dL_law_433 ?_
  refine lv_topi (fun av4 eav4 => ?_)
  refine cx_fX9_meet (ob := x) (a1 := av2) (a2 := av4) (rest := []) C1  hB hP hD hS hl.1 (Nat.le_of_ble_eq_true rfl) ⟨by omega, by omega⟩ dL_law_434 (fun an5 w6 g_7 H locs hq hB hP hD hS => ?_)
  have hP := P_perm (List.perm_append_comm_assoc w6 wm tl) hP
  have hD := D_perm (List.perm_append_comm_assoc w6 wm tl) hD
  refine lv_pop hx hb dL_law_437 rfl ?_
  refine lv_aload_n hx hb dL_law_438 rfl (lv_at hl 1 rfl) ?_
  refine lv_aload_n hx hb dL_law_439 rfl (lv_at hl 3 rfl) ?_
  refine lv_iload_n hx hb dL_law_440 rfl (lv_at hl 0 rfl) ?_
  refine lv_iconst (v := 1) hx hb dL_law_441 (by decide) ?_
  refine lv_iadd hx hb dL_law_442 ?_
  refine lv_topi (fun jv8 ejv8 => ?_)
  obtain rfl : jv1 = jv8 := ejv1.trans ejv8.symm
  refine va_sld hx hb hX hbl hbA hS (sl_in (c := 1) ejv1 (by decide) (by decide) hi hL) dL_law_443 ?_
  refine lv_topi (fun av9 eav9 => ?_)
  obtain rfl : av2 = av9 := eav2.trans eav9.symm
  refine lv_aload_n hx hb dL_law_444 rfl (lv_at hl 3 rfl) ?_
  refine lv_iload_n hx hb dL_law_445 rfl (lv_at hl 0 rfl) ?_
  refine lv_iconst (v := 2) hx hb dL_law_446 (by decide) ?_
  refine lv_iadd hx hb dL_law_447 ?_
  refine lv_topi (fun jv10 ejv10 => ?_)
  obtain rfl : jv3 = jv10 := ejv3.trans ejv10.symm
  refine va_sld hx hb hX hbl hbA hS (sl_in (c := 2) ejv3 (by decide) (by decide) hi hL) dL_law_448 ?_
  refine lv_topi (fun av11 eav11 => ?_)
  obtain rfl : av4 = av11 := eav4.trans eav11.symm
  have hM0 := hM
  refine cx_hmeet (ob := q) (a1 := av2) (a2 := av4) (rest := []) C1  hM hP hD hS hl.1 (Nat.le_of_ble_eq_true rfl) ⟨by omega, by omega⟩ dL_law_449 (fun an12 w13 ww_14 H locs hq2 hM hP hD hS => ?_)
  have hP := P_perm (List.perm_append_comm_assoc w13 w6 tl) hP
  have hD := D_perm (List.perm_append_comm_assoc w13 w6 tl) hD
  refine lv_pop hx hb dL_law_452 rfl ?_
  refine lv_goto (tgt := 1350) hx hb dL_law_453 (by decide) ?_
  have hww : (ww 0).toInt ≤ 16 := BM_h hM0
  have ttg2 : tgd g_7 ww_14 := by
    rcases hq with hq | hq | hq
    · skip
      rcases hq2 with hq2 | hq2 | hq2
      · skip
        rw [(hq.2.1), (hq2.2.1)]; exact ttg
      · skip
        rw [(hq.2.1), (hq2.2.1)]; exact ttg
      · skip
        exact False.elim (me_x ttg hww hq.2.2.1 hq2.1.symm (by omega))
    · skip
      rcases hq2 with hq2 | hq2 | hq2
      · skip
        rw [(hq.2.1), (hq2.2.1)]; exact ttg
      · skip
        rw [(hq.2.1), (hq2.2.1)]; exact ttg
      · skip
        exact False.elim (me_x ttg hww hq.2.2.1 hq2.1.symm (by omega))
    · skip
      rcases hq2 with hq2 | hq2 | hq2
      · skip
        exact False.elim (me_x ttg hww hq.2.2.1.symm hq2.2.2.1 (by omega))
      · skip
        exact False.elim (me_x ttg hww hq.2.2.1.symm hq2.2.2.1 (by omega))
      · skip
        rw [(hq.1)]; exact tgd_t (gdo_c ttg) hq2.2.1
  have hkw := BM_k hM0
  have ttx9 : mxt xd ww_14 := by
    rcases hq with hq | hq | hq
    · skip
      rcases hq2 with hq2 | hq2 | hq2
      · skip
        rw [(hq2.2.1)]; exact ttx
      · skip
        rw [(hq2.2.1)]; exact ttx
      · skip
        exact False.elim (me_x ttg hww hq.2.2.1 hq2.1.symm (by omega))
    · skip
      rcases hq2 with hq2 | hq2 | hq2
      · skip
        rw [(hq2.2.1)]; exact ttx
      · skip
        rw [(hq2.2.1)]; exact ttx
      · skip
        exact False.elim (me_x ttg hww hq.2.2.1 hq2.1.symm (by omega))
    · skip
      rcases hq2 with hq2 | hq2 | hq2
      · skip
        exact False.elim (me_x ttg hww hq.2.2.1.symm hq2.2.2.1 (by omega))
      · skip
        exact False.elim (me_x ttg hww hq.2.2.1.symm hq2.2.2.1 (by omega))
      · skip
        exact hq2.2.2.2.1 xd ttx
  exact K _ _ _ _ ⟨w6, w13, tl, ts, fl0, wi0, sz0, fl1, wi1, sz1, fl2, wi2, sz2, fl3, wi3, sz3, tp, rf, rp, nb0, nb1, nb2, nb3, g_7, xd, f, ta, fm, fw, fh, tq, fk, fp, ww_14, wv, nm, g0, g1, g2, xd0, xd1, xd2, hB, hM, hI, ⟨r0, r1, r2, r3, r4, i0, i1, i2, ttp, ttf, ttq, ttg2, tte0, tte1, tte2, ttn0, ttn1, ttn2, ttn3, ttx9, ttx0, ttx1, ttx2⟩, hP, hD, hS, hl, by omega, by omega⟩

set_option maxHeartbeats 4000000 in
set_option maxRecDepth 100000 in
theorem law_8 {p : Program} {e : Env} {s : State} {m : MethodId} {below : List Frame} {meth : Method} {c : Code} {l : Launch} {b L : Nat} {xs : Nat → Int32} {A : Nat → Prop} {G : va_G} {y : Nat → ClassId} {aK aV : Nat → Nat} {H : Heap} {locs : List Loc} {cells slots : Nat} {ls : Array Slot} {Q : State → Prop} (C0 : lawC p s m meth c b L xs A G y aK aV) {x q : Nat} {i : Int32} (hi : 0 ≤ i.toInt ∧ i.toInt + 6 ≤ (L : Int)) (I : LI s b A G y x q i H locs ls cells slots) (K : ∀ H1 locs1 cells1 slots1, LI s b A G y x q i H1 locs1 ls cells1 slots1 → W p l e room_1 s m #[Value.ref b] below meth c H1 locs1 cells1 slots1 Q (F0 m 1350 ls [])) : W p l e room_1 s m #[Value.ref b] below meth c H locs cells slots Q (F0 m 456 ls []) := by
  have C1 := C0
  obtain ⟨hx, hb, hr, hml, hown, hw0, hX, hbl, hbA, hA, hAf, hlocks, hK, hE, hL⟩ := C0
  obtain ⟨w, wm, tl, ts, fl0, wi0, sz0, fl1, wi1, sz1, fl2, wi2, sz2, fl3, wi3, sz3, tp, rf, rp, nb0, nb1, nb2, nb3, g, xd, f, ta, fm, fw, fh, tq, fk, fp, ww, wv, nm, g0, g1, g2, xd0, xd1, xd2, hB, hM, hI, hR, hP, hD, hS, hl, hc1, hc2⟩ := I
  obtain ⟨r0, r1, r2, r3, r4, i0, i1, i2, ttp, ttf, ttq, ttg, tte0, tte1, tte2, ttn0, ttn1, ttn2, ttn3, ttx, ttx0, ttx1, ttx2⟩ := hR
  refine lv_aload_n hx hb dL_law_456 rfl (lv_at hl 2 rfl) ?_
  refine lv_aload_n hx hb dL_law_457 rfl (lv_at hl 3 rfl) ?_
  refine lv_iload_n hx hb dL_law_458 rfl (lv_at hl 0 rfl) ?_
  refine lv_iconst (v := 1) hx hb dL_law_459 (by decide) ?_
  refine lv_iadd hx hb dL_law_460 ?_
  refine lv_topi (fun jv1 ejv1 => ?_)
  refine va_sld hx hb hX hbl hbA hS (sl_in (c := 1) ejv1 (by decide) (by decide) hi hL) dL_law_461 ?_
  refine lv_topi (fun av2 eav2 => ?_)
  rcases so_cases av2 with h9 | h9 | h9 | h9 | h9 | h9
  · obtain rfl : 0 = av2 := h9.symm
    refine cx_kdone0 (ob := x)  (rest := []) C1  hB hP hD hS hl.1 (Nat.le_of_ble_eq_true rfl) ⟨by omega, by omega⟩ dL_law_462 (fun an3 w4 g_5 xd_6 H locs hq hB hP hD hS => ?_)
    have hP := P_perm (List.perm_append_comm_assoc w4 wm tl) hP
    have hD := D_perm (List.perm_append_comm_assoc w4 wm tl) hD
    refine lv_pop hx hb dL_law_465 rfl ?_
    refine lv_aload_n hx hb dL_law_466 rfl (lv_at hl 1 rfl) ?_
    refine lv_aload_n hx hb dL_law_467 rfl (lv_at hl 3 rfl) ?_
    refine lv_iload_n hx hb dL_law_468 rfl (lv_at hl 0 rfl) ?_
    refine lv_iconst (v := 1) hx hb dL_law_469 (by decide) ?_
    refine lv_iadd hx hb dL_law_470 ?_
    refine lv_topi (fun jv7 ejv7 => ?_)
    obtain rfl : jv1 = jv7 := ejv1.trans ejv7.symm
    refine va_sld hx hb hX hbl hbA hS (sl_in (c := 1) ejv1 (by decide) (by decide) hi hL) dL_law_471 ?_
    refine lv_topi (fun av8 eav8 => ?_)
    obtain rfl : 0 = av8 := eav2.trans eav8.symm
    have hM0 := hM
    refine cx_hdone0 (ob := q)  (rest := []) C1  hM hP hD hS hl.1 (Nat.le_of_ble_eq_true rfl) ⟨by omega, by omega⟩ dL_law_472 (fun an9 w10 ww_11 H locs hq2 hM hP hD hS => ?_)
    have hP := P_perm (List.perm_append_comm_assoc w10 w4 tl) hP
    have hD := D_perm (List.perm_append_comm_assoc w10 w4 tl) hD
    refine lv_pop hx hb dL_law_475 rfl ?_
    refine lv_goto (tgt := 1350) hx hb dL_law_476 (by decide) ?_
    have hww : (ww 0).toInt ≤ 16 := BM_h hM0
    have ttg2 : tgd g_5 ww_11 := by
      rcases hq with hq | hq
      · skip
        rcases hq2 with hq2 | hq2
        · skip
          rw [(hq.2.1), (hq2.2.1)]; exact ttg
        · skip
          exact False.elim (by unfold sR at r1; omega)
      · skip
        rcases hq2 with hq2 | hq2
        · skip
          exact False.elim (by unfold sR at r1; omega)
        · skip
          have hz9 : (sz0).toInt = (fm 0).toInt := by unfold sR at r1; omega
          have hm9 := BM_n hM0 0
          rw [(hq.1), hz9]; exact tgd_t (gdn_c ttn0 hm9 20 0 _ _ ttg hww).1 hq2.2.1.2
    have hkw := BM_k hM0
    have ttx9 : mxt xd_6 ww_11 := by
      rcases hq with hq | hq
      · skip
        rcases hq2 with hq2 | hq2
        · skip
          rw [(hq.2.2.1), (hq2.2.1)]; exact ttx
        · skip
          exact False.elim (by unfold sR at r1; omega)
      · skip
        rcases hq2 with hq2 | hq2
        · skip
          exact False.elim (by unfold sR at r1; omega)
        · skip
          have hz9 : (sz0).toInt = (fm 0).toInt := by unfold sR at r1; omega
          have hm9 := BM_n hM0 0
          rw [(hq.2.1), hz9, gxn_c ttn0 hm9 20 0 _ _ _ ttg hww]; exact hq2.2.2.1 xd ttx
    exact K _ _ _ _ ⟨w4, w10, tl, ts, fl0, wi0, sz0, fl1, wi1, sz1, fl2, wi2, sz2, fl3, wi3, sz3, tp, rf, rp, nb0, nb1, nb2, nb3, g_5, xd_6, f, ta, fm, fw, fh, tq, fk, fp, ww_11, wv, nm, g0, g1, g2, xd0, xd1, xd2, hB, hM, hI, ⟨r0, r1, r2, r3, r4, i0, i1, i2, ttp, ttf, ttq, ttg2, tte0, tte1, tte2, ttn0, ttn1, ttn2, ttn3, ttx9, ttx0, ttx1, ttx2⟩, hP, hD, hS, hl, by omega, by omega⟩
  · obtain rfl : 1 = av2 := h9.symm
    refine cx_kdone1 (ob := x)  (rest := []) C1  hB hP hD hS hl.1 (Nat.le_of_ble_eq_true rfl) ⟨by omega, by omega⟩ dL_law_462 (fun an12 w13 g_14 xd_15 H locs hq hB hP hD hS => ?_)
    have hP := P_perm (List.perm_append_comm_assoc w13 wm tl) hP
    have hD := D_perm (List.perm_append_comm_assoc w13 wm tl) hD
    refine lv_pop hx hb dL_law_465 rfl ?_
    refine lv_aload_n hx hb dL_law_466 rfl (lv_at hl 1 rfl) ?_
    refine lv_aload_n hx hb dL_law_467 rfl (lv_at hl 3 rfl) ?_
    refine lv_iload_n hx hb dL_law_468 rfl (lv_at hl 0 rfl) ?_
    refine lv_iconst (v := 1) hx hb dL_law_469 (by decide) ?_
    refine lv_iadd hx hb dL_law_470 ?_
    refine lv_topi (fun jv16 ejv16 => ?_)
    obtain rfl : jv1 = jv16 := ejv1.trans ejv16.symm
    refine va_sld hx hb hX hbl hbA hS (sl_in (c := 1) ejv1 (by decide) (by decide) hi hL) dL_law_471 ?_
    refine lv_topi (fun av17 eav17 => ?_)
    obtain rfl : 1 = av17 := eav2.trans eav17.symm
    have hM0 := hM
    refine cx_hdone1 (ob := q)  (rest := []) C1  hM hP hD hS hl.1 (Nat.le_of_ble_eq_true rfl) ⟨by omega, by omega⟩ dL_law_472 (fun an18 w19 ww_20 H locs hq2 hM hP hD hS => ?_)
    have hP := P_perm (List.perm_append_comm_assoc w19 w13 tl) hP
    have hD := D_perm (List.perm_append_comm_assoc w19 w13 tl) hD
    refine lv_pop hx hb dL_law_475 rfl ?_
    refine lv_goto (tgt := 1350) hx hb dL_law_476 (by decide) ?_
    have hww : (ww 0).toInt ≤ 16 := BM_h hM0
    have ttg2 : tgd g_14 ww_20 := by
      rcases hq with hq | hq
      · skip
        rcases hq2 with hq2 | hq2
        · skip
          rw [(hq.2.1), (hq2.2.1)]; exact ttg
        · skip
          exact False.elim (by unfold sR at r2; omega)
      · skip
        rcases hq2 with hq2 | hq2
        · skip
          exact False.elim (by unfold sR at r2; omega)
        · skip
          have hz9 : (sz1).toInt = (fm 1).toInt := by unfold sR at r2; omega
          have hm9 := BM_n hM0 1
          rw [(hq.1), hz9]; exact tgd_t (gdn_c ttn1 hm9 20 0 _ _ ttg hww).1 hq2.2.1.2
    have hkw := BM_k hM0
    have ttx9 : mxt xd_15 ww_20 := by
      rcases hq with hq | hq
      · skip
        rcases hq2 with hq2 | hq2
        · skip
          rw [(hq.2.2.1), (hq2.2.1)]; exact ttx
        · skip
          exact False.elim (by unfold sR at r2; omega)
      · skip
        rcases hq2 with hq2 | hq2
        · skip
          exact False.elim (by unfold sR at r2; omega)
        · skip
          have hz9 : (sz1).toInt = (fm 1).toInt := by unfold sR at r2; omega
          have hm9 := BM_n hM0 1
          rw [(hq.2.1), hz9, gxn_c ttn1 hm9 20 0 _ _ _ ttg hww]; exact hq2.2.2.1 xd ttx
    exact K _ _ _ _ ⟨w13, w19, tl, ts, fl0, wi0, sz0, fl1, wi1, sz1, fl2, wi2, sz2, fl3, wi3, sz3, tp, rf, rp, nb0, nb1, nb2, nb3, g_14, xd_15, f, ta, fm, fw, fh, tq, fk, fp, ww_20, wv, nm, g0, g1, g2, xd0, xd1, xd2, hB, hM, hI, ⟨r0, r1, r2, r3, r4, i0, i1, i2, ttp, ttf, ttq, ttg2, tte0, tte1, tte2, ttn0, ttn1, ttn2, ttn3, ttx9, ttx0, ttx1, ttx2⟩, hP, hD, hS, hl, by omega, by omega⟩
  · obtain rfl : 2 = av2 := h9.symm
    refine cx_kdone2 (ob := x)  (rest := []) C1  hB hP hD hS hl.1 (Nat.le_of_ble_eq_true rfl) ⟨by omega, by omega⟩ dL_law_462 (fun an21 w22 g_23 xd_24 H locs hq hB hP hD hS => ?_)
    have hP := P_perm (List.perm_append_comm_assoc w22 wm tl) hP
    have hD := D_perm (List.perm_append_comm_assoc w22 wm tl) hD
    refine lv_pop hx hb dL_law_465 rfl ?_
    refine lv_aload_n hx hb dL_law_466 rfl (lv_at hl 1 rfl) ?_
    refine lv_aload_n hx hb dL_law_467 rfl (lv_at hl 3 rfl) ?_
    refine lv_iload_n hx hb dL_law_468 rfl (lv_at hl 0 rfl) ?_
    refine lv_iconst (v := 1) hx hb dL_law_469 (by decide) ?_
    refine lv_iadd hx hb dL_law_470 ?_
    refine lv_topi (fun jv25 ejv25 => ?_)
    obtain rfl : jv1 = jv25 := ejv1.trans ejv25.symm
    refine va_sld hx hb hX hbl hbA hS (sl_in (c := 1) ejv1 (by decide) (by decide) hi hL) dL_law_471 ?_
    refine lv_topi (fun av26 eav26 => ?_)
    obtain rfl : 2 = av26 := eav2.trans eav26.symm
    have hM0 := hM
    refine cx_hdone2 (ob := q)  (rest := []) C1  hM hP hD hS hl.1 (Nat.le_of_ble_eq_true rfl) ⟨by omega, by omega⟩ dL_law_472 (fun an27 w28 ww_29 H locs hq2 hM hP hD hS => ?_)
    have hP := P_perm (List.perm_append_comm_assoc w28 w22 tl) hP
    have hD := D_perm (List.perm_append_comm_assoc w28 w22 tl) hD
    refine lv_pop hx hb dL_law_475 rfl ?_
    refine lv_goto (tgt := 1350) hx hb dL_law_476 (by decide) ?_
    have hww : (ww 0).toInt ≤ 16 := BM_h hM0
    have ttg2 : tgd g_23 ww_29 := by
      rcases hq with hq | hq
      · skip
        rcases hq2 with hq2 | hq2
        · skip
          rw [(hq.2.1), (hq2.2.1)]; exact ttg
        · skip
          exact False.elim (by unfold sR at r3; omega)
      · skip
        rcases hq2 with hq2 | hq2
        · skip
          exact False.elim (by unfold sR at r3; omega)
        · skip
          have hz9 : (sz2).toInt = (fm 2).toInt := by unfold sR at r3; omega
          have hm9 := BM_n hM0 2
          rw [(hq.1), hz9]; exact tgd_t (gdn_c ttn2 hm9 20 0 _ _ ttg hww).1 hq2.2.1.2
    have hkw := BM_k hM0
    have ttx9 : mxt xd_24 ww_29 := by
      rcases hq with hq | hq
      · skip
        rcases hq2 with hq2 | hq2
        · skip
          rw [(hq.2.2.1), (hq2.2.1)]; exact ttx
        · skip
          exact False.elim (by unfold sR at r3; omega)
      · skip
        rcases hq2 with hq2 | hq2
        · skip
          exact False.elim (by unfold sR at r3; omega)
        · skip
          have hz9 : (sz2).toInt = (fm 2).toInt := by unfold sR at r3; omega
          have hm9 := BM_n hM0 2
          rw [(hq.2.1), hz9, gxn_c ttn2 hm9 20 0 _ _ _ ttg hww]; exact hq2.2.2.1 xd ttx
    exact K _ _ _ _ ⟨w22, w28, tl, ts, fl0, wi0, sz0, fl1, wi1, sz1, fl2, wi2, sz2, fl3, wi3, sz3, tp, rf, rp, nb0, nb1, nb2, nb3, g_23, xd_24, f, ta, fm, fw, fh, tq, fk, fp, ww_29, wv, nm, g0, g1, g2, xd0, xd1, xd2, hB, hM, hI, ⟨r0, r1, r2, r3, r4, i0, i1, i2, ttp, ttf, ttq, ttg2, tte0, tte1, tte2, ttn0, ttn1, ttn2, ttn3, ttx9, ttx0, ttx1, ttx2⟩, hP, hD, hS, hl, by omega, by omega⟩
  · obtain rfl : 3 = av2 := h9.symm
    refine cx_kdone3 (ob := x)  (rest := []) C1  hB hP hD hS hl.1 (Nat.le_of_ble_eq_true rfl) ⟨by omega, by omega⟩ dL_law_462 (fun an30 w31 g_32 xd_33 H locs hq hB hP hD hS => ?_)
    have hP := P_perm (List.perm_append_comm_assoc w31 wm tl) hP
    have hD := D_perm (List.perm_append_comm_assoc w31 wm tl) hD
    refine lv_pop hx hb dL_law_465 rfl ?_
    refine lv_aload_n hx hb dL_law_466 rfl (lv_at hl 1 rfl) ?_
    refine lv_aload_n hx hb dL_law_467 rfl (lv_at hl 3 rfl) ?_
    refine lv_iload_n hx hb dL_law_468 rfl (lv_at hl 0 rfl) ?_
    refine lv_iconst (v := 1) hx hb dL_law_469 (by decide) ?_
    refine lv_iadd hx hb dL_law_470 ?_
    refine lv_topi (fun jv34 ejv34 => ?_)
    obtain rfl : jv1 = jv34 := ejv1.trans ejv34.symm
    refine va_sld hx hb hX hbl hbA hS (sl_in (c := 1) ejv1 (by decide) (by decide) hi hL) dL_law_471 ?_
    refine lv_topi (fun av35 eav35 => ?_)
    obtain rfl : 3 = av35 := eav2.trans eav35.symm
    have hM0 := hM
    refine cx_hdone3 (ob := q)  (rest := []) C1  hM hP hD hS hl.1 (Nat.le_of_ble_eq_true rfl) ⟨by omega, by omega⟩ dL_law_472 (fun an36 w37 ww_38 H locs hq2 hM hP hD hS => ?_)
    have hP := P_perm (List.perm_append_comm_assoc w37 w31 tl) hP
    have hD := D_perm (List.perm_append_comm_assoc w37 w31 tl) hD
    refine lv_pop hx hb dL_law_475 rfl ?_
    refine lv_goto (tgt := 1350) hx hb dL_law_476 (by decide) ?_
    have hww : (ww 0).toInt ≤ 16 := BM_h hM0
    have ttg2 : tgd g_32 ww_38 := by
      rcases hq with hq | hq
      · skip
        rcases hq2 with hq2 | hq2
        · skip
          rw [(hq.2.1), (hq2.2.1)]; exact ttg
        · skip
          exact False.elim (by unfold sR at r4; omega)
      · skip
        rcases hq2 with hq2 | hq2
        · skip
          exact False.elim (by unfold sR at r4; omega)
        · skip
          have hz9 : (sz3).toInt = (fm 3).toInt := by unfold sR at r4; omega
          have hm9 := BM_n hM0 3
          rw [(hq.1), hz9]; exact tgd_t (gdn_c ttn3 hm9 20 0 _ _ ttg hww).1 hq2.2.1.2
    have hkw := BM_k hM0
    have ttx9 : mxt xd_33 ww_38 := by
      rcases hq with hq | hq
      · skip
        rcases hq2 with hq2 | hq2
        · skip
          rw [(hq.2.2.1), (hq2.2.1)]; exact ttx
        · skip
          exact False.elim (by unfold sR at r4; omega)
      · skip
        rcases hq2 with hq2 | hq2
        · skip
          exact False.elim (by unfold sR at r4; omega)
        · skip
          have hz9 : (sz3).toInt = (fm 3).toInt := by unfold sR at r4; omega
          have hm9 := BM_n hM0 3
          rw [(hq.2.1), hz9, gxn_c ttn3 hm9 20 0 _ _ _ ttg hww]; exact hq2.2.2.1 xd ttx
    exact K _ _ _ _ ⟨w31, w37, tl, ts, fl0, wi0, sz0, fl1, wi1, sz1, fl2, wi2, sz2, fl3, wi3, sz3, tp, rf, rp, nb0, nb1, nb2, nb3, g_32, xd_33, f, ta, fm, fw, fh, tq, fk, fp, ww_38, wv, nm, g0, g1, g2, xd0, xd1, xd2, hB, hM, hI, ⟨r0, r1, r2, r3, r4, i0, i1, i2, ttp, ttf, ttq, ttg2, tte0, tte1, tte2, ttn0, ttn1, ttn2, ttn3, ttx9, ttx0, ttx1, ttx2⟩, hP, hD, hS, hl, by omega, by omega⟩
  · have hav2 := h9
    refine cx_sdonelo (ob := x) (a1 := av2) (rest := []) C1 hav2 hB hP hD hS hl.1 (Nat.le_of_ble_eq_true rfl) ⟨by omega, by omega⟩ dL_law_462 (fun an39 w40  H locs hq hB hP hD hS => ?_)
    have hP := P_perm (List.perm_append_comm_assoc w40 wm tl) hP
    have hD := D_perm (List.perm_append_comm_assoc w40 wm tl) hD
    refine lv_pop hx hb dL_law_465 rfl ?_
    refine lv_aload_n hx hb dL_law_466 rfl (lv_at hl 1 rfl) ?_
    refine lv_aload_n hx hb dL_law_467 rfl (lv_at hl 3 rfl) ?_
    refine lv_iload_n hx hb dL_law_468 rfl (lv_at hl 0 rfl) ?_
    refine lv_iconst (v := 1) hx hb dL_law_469 (by decide) ?_
    refine lv_iadd hx hb dL_law_470 ?_
    refine lv_topi (fun jv41 ejv41 => ?_)
    obtain rfl : jv1 = jv41 := ejv1.trans ejv41.symm
    refine va_sld hx hb hX hbl hbA hS (sl_in (c := 1) ejv1 (by decide) (by decide) hi hL) dL_law_471 ?_
    refine lv_topi (fun av42 eav42 => ?_)
    obtain rfl : av2 = av42 := eav2.trans eav42.symm
    have hM0 := hM
    refine cx_sdoneMlo (ob := q) (a1 := av2) (rest := []) C1 hav2 hM hP hD hS hl.1 (Nat.le_of_ble_eq_true rfl) ⟨by omega, by omega⟩ dL_law_472 (fun an43 w44  H locs hq2 hM hP hD hS => ?_)
    have hP := P_perm (List.perm_append_comm_assoc w44 w40 tl) hP
    have hD := D_perm (List.perm_append_comm_assoc w44 w40 tl) hD
    refine lv_pop hx hb dL_law_475 rfl ?_
    refine lv_goto (tgt := 1350) hx hb dL_law_476 (by decide) ?_
    exact K _ _ _ _ ⟨w40, w44, tl, ts, fl0, wi0, sz0, fl1, wi1, sz1, fl2, wi2, sz2, fl3, wi3, sz3, tp, rf, rp, nb0, nb1, nb2, nb3, g, xd, f, ta, fm, fw, fh, tq, fk, fp, ww, wv, nm, g0, g1, g2, xd0, xd1, xd2, hB, hM, hI, ⟨r0, r1, r2, r3, r4, i0, i1, i2, ttp, ttf, ttq, ttg, tte0, tte1, tte2, ttn0, ttn1, ttn2, ttn3, ttx, ttx0, ttx1, ttx2⟩, hP, hD, hS, hl, by omega, by omega⟩
  · have hav2 := h9
    refine cx_sdonehi (ob := x) (a1 := av2) (rest := []) C1 hav2 hB hP hD hS hl.1 (Nat.le_of_ble_eq_true rfl) ⟨by omega, by omega⟩ dL_law_462 (fun an45 w46  H locs hq hB hP hD hS => ?_)
    have hP := P_perm (List.perm_append_comm_assoc w46 wm tl) hP
    have hD := D_perm (List.perm_append_comm_assoc w46 wm tl) hD
    refine lv_pop hx hb dL_law_465 rfl ?_
    refine lv_aload_n hx hb dL_law_466 rfl (lv_at hl 1 rfl) ?_
    refine lv_aload_n hx hb dL_law_467 rfl (lv_at hl 3 rfl) ?_
    refine lv_iload_n hx hb dL_law_468 rfl (lv_at hl 0 rfl) ?_
    refine lv_iconst (v := 1) hx hb dL_law_469 (by decide) ?_
    refine lv_iadd hx hb dL_law_470 ?_
    refine lv_topi (fun jv47 ejv47 => ?_)
    obtain rfl : jv1 = jv47 := ejv1.trans ejv47.symm
    refine va_sld hx hb hX hbl hbA hS (sl_in (c := 1) ejv1 (by decide) (by decide) hi hL) dL_law_471 ?_
    refine lv_topi (fun av48 eav48 => ?_)
    obtain rfl : av2 = av48 := eav2.trans eav48.symm
    have hM0 := hM
    refine cx_sdoneMhi (ob := q) (a1 := av2) (rest := []) C1 hav2 hM hP hD hS hl.1 (Nat.le_of_ble_eq_true rfl) ⟨by omega, by omega⟩ dL_law_472 (fun an49 w50  H locs hq2 hM hP hD hS => ?_)
    have hP := P_perm (List.perm_append_comm_assoc w50 w46 tl) hP
    have hD := D_perm (List.perm_append_comm_assoc w50 w46 tl) hD
    refine lv_pop hx hb dL_law_475 rfl ?_
    refine lv_goto (tgt := 1350) hx hb dL_law_476 (by decide) ?_
    exact K _ _ _ _ ⟨w46, w50, tl, ts, fl0, wi0, sz0, fl1, wi1, sz1, fl2, wi2, sz2, fl3, wi3, sz3, tp, rf, rp, nb0, nb1, nb2, nb3, g, xd, f, ta, fm, fw, fh, tq, fk, fp, ww, wv, nm, g0, g1, g2, xd0, xd1, xd2, hB, hM, hI, ⟨r0, r1, r2, r3, r4, i0, i1, i2, ttp, ttf, ttq, ttg, tte0, tte1, tte2, ttn0, ttn1, ttn2, ttn3, ttx, ttx0, ttx1, ttx2⟩, hP, hD, hS, hl, by omega, by omega⟩

set_option maxHeartbeats 4000000 in
set_option maxRecDepth 100000 in
theorem law_9 {p : Program} {e : Env} {s : State} {m : MethodId} {below : List Frame} {meth : Method} {c : Code} {l : Launch} {b L : Nat} {xs : Nat → Int32} {A : Nat → Prop} {G : va_G} {y : Nat → ClassId} {aK aV : Nat → Nat} {H : Heap} {locs : List Loc} {cells slots : Nat} {ls : Array Slot} {Q : State → Prop} (C0 : lawC p s m meth c b L xs A G y aK aV) {x q : Nat} {i : Int32} (hi : 0 ≤ i.toInt ∧ i.toInt + 6 ≤ (L : Int)) (I : LI s b A G y x q i H locs ls cells slots) (K : ∀ H1 locs1 cells1 slots1, LI s b A G y x q i H1 locs1 ls cells1 slots1 → W p l e room_1 s m #[Value.ref b] below meth c H1 locs1 cells1 slots1 Q (F0 m 1350 ls [])) : W p l e room_1 s m #[Value.ref b] below meth c H locs cells slots Q (F0 m 479 ls []) := by
  have C1 := C0
  obtain ⟨hx, hb, hr, hml, hown, hw0, hX, hbl, hbA, hA, hAf, hlocks, hK, hE, hL⟩ := C0
  obtain ⟨w, wm, tl, ts, fl0, wi0, sz0, fl1, wi1, sz1, fl2, wi2, sz2, fl3, wi3, sz3, tp, rf, rp, nb0, nb1, nb2, nb3, g, xd, f, ta, fm, fw, fh, tq, fk, fp, ww, wv, nm, g0, g1, g2, xd0, xd1, xd2, hB, hM, hI, hR, hP, hD, hS, hl, hc1, hc2⟩ := I
  obtain ⟨r0, r1, r2, r3, r4, i0, i1, i2, ttp, ttf, ttq, ttg, tte0, tte1, tte2, ttn0, ttn1, ttn2, ttn3, ttx, ttx0, ttx1, ttx2⟩ := hR
  refine lv_aload_n hx hb dL_law_479 rfl (lv_at hl 2 rfl) ?_
  refine lv_aload_n hx hb dL_law_480 rfl (lv_at hl 3 rfl) ?_
  refine lv_iload_n hx hb dL_law_481 rfl (lv_at hl 0 rfl) ?_
  refine lv_iconst (v := 1) hx hb dL_law_482 (by decide) ?_
  refine lv_iadd hx hb dL_law_483 ?_
  refine lv_topi (fun jv1 ejv1 => ?_)
  refine va_sld hx hb hX hbl hbA hS (sl_in (c := 1) ejv1 (by decide) (by decide) hi hL) dL_law_484 ?_
  refine lv_topi (fun av2 eav2 => ?_)
  refine lv_aload_n hx hb dL_law_485 rfl (lv_at hl 3 rfl) ?_
  refine lv_iload_n hx hb dL_law_486 rfl (lv_at hl 0 rfl) ?_
  refine lv_iconst (v := 2) hx hb dL_law_487 (by decide) ?_
  refine lv_iadd hx hb dL_law_488 ?_
  refine lv_topi (fun jv3 ejv3 => ?_)
  refine va_sld hx hb hX hbl hbA hS (sl_in (c := 2) ejv3 (by decide) (by decide) hi hL) dL_law_489 ?_
  refine lv_topi (fun av4 eav4 => ?_)
  refine cx_fX9_known (ob := x) (a1 := av2) (a2 := av4) (rest := []) C1  hB hP hD hS hl.1 (Nat.le_of_ble_eq_true rfl) ⟨by omega, by omega⟩ dL_law_490 (fun an5 w6  H locs hq hB hP hD hS => ?_)
  have hP := P_perm (List.perm_append_comm_assoc w6 wm tl) hP
  have hD := D_perm (List.perm_append_comm_assoc w6 wm tl) hD
  refine lv_pop hx hb dL_law_493 rfl ?_
  refine lv_aload_n hx hb dL_law_494 rfl (lv_at hl 1 rfl) ?_
  refine lv_aload_n hx hb dL_law_495 rfl (lv_at hl 3 rfl) ?_
  refine lv_iload_n hx hb dL_law_496 rfl (lv_at hl 0 rfl) ?_
  refine lv_iconst (v := 1) hx hb dL_law_497 (by decide) ?_
  refine lv_iadd hx hb dL_law_498 ?_
  refine lv_topi (fun jv7 ejv7 => ?_)
  obtain rfl : jv1 = jv7 := ejv1.trans ejv7.symm
  refine va_sld hx hb hX hbl hbA hS (sl_in (c := 1) ejv1 (by decide) (by decide) hi hL) dL_law_499 ?_
  refine lv_topi (fun av8 eav8 => ?_)
  obtain rfl : av2 = av8 := eav2.trans eav8.symm
  refine lv_aload_n hx hb dL_law_500 rfl (lv_at hl 3 rfl) ?_
  refine lv_iload_n hx hb dL_law_501 rfl (lv_at hl 0 rfl) ?_
  refine lv_iconst (v := 2) hx hb dL_law_502 (by decide) ?_
  refine lv_iadd hx hb dL_law_503 ?_
  refine lv_topi (fun jv9 ejv9 => ?_)
  obtain rfl : jv3 = jv9 := ejv3.trans ejv9.symm
  refine va_sld hx hb hX hbl hbA hS (sl_in (c := 2) ejv3 (by decide) (by decide) hi hL) dL_law_504 ?_
  refine lv_topi (fun av10 eav10 => ?_)
  obtain rfl : av4 = av10 := eav4.trans eav10.symm
  have hM0 := hM
  refine cx_gknown (ob := q) (a1 := av2) (a2 := av4) (rest := []) C1  hM hP hD hS hl.1 (Nat.le_of_ble_eq_true rfl) ⟨by omega, by omega⟩ dL_law_505 (fun an11 w12  H locs hq2 hM hP hD hS => ?_)
  have hP := P_perm (List.perm_append_comm_assoc w12 w6 tl) hP
  have hD := D_perm (List.perm_append_comm_assoc w12 w6 tl) hD
  refine lv_pop hx hb dL_law_508 rfl ?_
  refine lv_goto (tgt := 1350) hx hb dL_law_509 (by decide) ?_
  exact K _ _ _ _ ⟨w6, w12, tl, ts, fl0, wi0, sz0, fl1, wi1, sz1, fl2, wi2, sz2, fl3, wi3, sz3, tp, rf, rp, nb0, nb1, nb2, nb3, g, xd, f, ta, fm, fw, fh, tq, fk, fp, ww, wv, nm, g0, g1, g2, xd0, xd1, xd2, hB, hM, hI, ⟨r0, r1, r2, r3, r4, i0, i1, i2, ttp, ttf, ttq, ttg, tte0, tte1, tte2, ttn0, ttn1, ttn2, ttn3, ttx, ttx0, ttx1, ttx2⟩, hP, hD, hS, hl, by omega, by omega⟩

set_option maxHeartbeats 4000000 in
set_option maxRecDepth 100000 in
theorem law_10 {p : Program} {e : Env} {s : State} {m : MethodId} {below : List Frame} {meth : Method} {c : Code} {l : Launch} {b L : Nat} {xs : Nat → Int32} {A : Nat → Prop} {G : va_G} {y : Nat → ClassId} {aK aV : Nat → Nat} {H : Heap} {locs : List Loc} {cells slots : Nat} {ls : Array Slot} {Q : State → Prop} (C0 : lawC p s m meth c b L xs A G y aK aV) {x q : Nat} {i : Int32} (hi : 0 ≤ i.toInt ∧ i.toInt + 6 ≤ (L : Int)) (I : LI s b A G y x q i H locs ls cells slots) (K : ∀ H1 locs1 cells1 slots1, LI s b A G y x q i H1 locs1 ls cells1 slots1 → W p l e room_1 s m #[Value.ref b] below meth c H1 locs1 cells1 slots1 Q (F0 m 1350 ls [])) : W p l e room_1 s m #[Value.ref b] below meth c H locs cells slots Q (F0 m 512 ls []) := by
  have C1 := C0
  obtain ⟨hx, hb, hr, hml, hown, hw0, hX, hbl, hbA, hA, hAf, hlocks, hK, hE, hL⟩ := C0
  obtain ⟨w, wm, tl, ts, fl0, wi0, sz0, fl1, wi1, sz1, fl2, wi2, sz2, fl3, wi3, sz3, tp, rf, rp, nb0, nb1, nb2, nb3, g, xd, f, ta, fm, fw, fh, tq, fk, fp, ww, wv, nm, g0, g1, g2, xd0, xd1, xd2, hB, hM, hI, hR, hP, hD, hS, hl, hc1, hc2⟩ := I
  obtain ⟨r0, r1, r2, r3, r4, i0, i1, i2, ttp, ttf, ttq, ttg, tte0, tte1, tte2, ttn0, ttn1, ttn2, ttn3, ttx, ttx0, ttx1, ttx2⟩ := hR
  refine lv_aload_n hx hb dL_law_512 rfl (lv_at hl 2 rfl) ?_
  refine lv_aload_n hx hb dL_law_513 rfl (lv_at hl 3 rfl) ?_
  refine lv_iload_n hx hb dL_law_514 rfl (lv_at hl 0 rfl) ?_
  refine lv_iconst (v := 1) hx hb dL_law_515 (by decide) ?_
  refine lv_iadd hx hb dL_law_516 ?_
  refine lv_topi (fun jv1 ejv1 => ?_)
  refine va_sld hx hb hX hbl hbA hS (sl_in (c := 1) ejv1 (by decide) (by decide) hi hL) dL_law_517 ?_
  refine lv_topi (fun av2 eav2 => ?_)
  refine cx_kX9_debts (ob := x) (a1 := av2) (rest := []) C1  hB hP hD hS hl.1 (Nat.le_of_ble_eq_true rfl) ⟨by omega, by omega⟩ dL_law_518 (fun an3 w4  H locs hq hB hP hD hS => ?_)
  have hP := P_perm (List.perm_append_comm_assoc w4 wm tl) hP
  have hD := D_perm (List.perm_append_comm_assoc w4 wm tl) hD
  refine lv_aload_n hx hb dL_law_521 rfl (lv_at hl 1 rfl) ?_
  refine lv_aload_n hx hb dL_law_522 rfl (lv_at hl 3 rfl) ?_
  refine lv_iload_n hx hb dL_law_523 rfl (lv_at hl 0 rfl) ?_
  refine lv_iconst (v := 1) hx hb dL_law_524 (by decide) ?_
  refine lv_iadd hx hb dL_law_525 ?_
  refine lv_topi (fun jv5 ejv5 => ?_)
  obtain rfl : jv1 = jv5 := ejv1.trans ejv5.symm
  refine va_sld hx hb hX hbl hbA hS (sl_in (c := 1) ejv1 (by decide) (by decide) hi hL) dL_law_526 ?_
  refine lv_topi (fun av6 eav6 => ?_)
  obtain rfl : av2 = av6 := eav2.trans eav6.symm
  have hM0 := hM
  refine cx_hdebts (ob := q) (a1 := av2) (rest := [.int an3]) C1  hM hP hD hS hl.1 (Nat.le_of_ble_eq_true rfl) ⟨by omega, by omega⟩ dL_law_527 (fun an7 w8  H locs hq2 hM hP hD hS => ?_)
  have hP := P_perm (List.perm_append_comm_assoc w8 w4 tl) hP
  have hD := D_perm (List.perm_append_comm_assoc w8 w4 tl) hD
  have hww : (ww 0).toInt ≤ 16 := BM_h hM0
  have hEQ : an3 = an7 := by
    apply Int32.toInt_inj.mp
    exact de_u ttg ttx hww (hq.1) (hq2.1)
  subst hEQ
  refine lv_icmp_eq (tgt := 1350) hx hb dL_law_530 (by decide) (fun _ => ?_) (fun c9 => absurd rfl c9)
  exact K _ _ _ _ ⟨w4, w8, tl, ts, fl0, wi0, sz0, fl1, wi1, sz1, fl2, wi2, sz2, fl3, wi3, sz3, tp, rf, rp, nb0, nb1, nb2, nb3, g, xd, f, ta, fm, fw, fh, tq, fk, fp, ww, wv, nm, g0, g1, g2, xd0, xd1, xd2, hB, hM, hI, ⟨r0, r1, r2, r3, r4, i0, i1, i2, ttp, ttf, ttq, ttg, tte0, tte1, tte2, ttn0, ttn1, ttn2, ttn3, ttx, ttx0, ttx1, ttx2⟩, hP, hD, hS, hl, by omega, by omega⟩

set_option maxHeartbeats 4000000 in
set_option maxRecDepth 100000 in
theorem law_11 {p : Program} {e : Env} {s : State} {m : MethodId} {below : List Frame} {meth : Method} {c : Code} {l : Launch} {b L : Nat} {xs : Nat → Int32} {A : Nat → Prop} {G : va_G} {y : Nat → ClassId} {aK aV : Nat → Nat} {H : Heap} {locs : List Loc} {cells slots : Nat} {ls : Array Slot} {Q : State → Prop} (C0 : lawC p s m meth c b L xs A G y aK aV) {x q : Nat} {i : Int32} (hi : 0 ≤ i.toInt ∧ i.toInt + 6 ≤ (L : Int)) (I : LI s b A G y x q i H locs ls cells slots) (K : ∀ H1 locs1 cells1 slots1, LI s b A G y x q i H1 locs1 ls cells1 slots1 → W p l e room_1 s m #[Value.ref b] below meth c H1 locs1 cells1 slots1 Q (F0 m 1350 ls [])) : W p l e room_1 s m #[Value.ref b] below meth c H locs cells slots Q (F0 m 535 ls []) := by
  have C1 := C0
  obtain ⟨hx, hb, hr, hml, hown, hw0, hX, hbl, hbA, hA, hAf, hlocks, hK, hE, hL⟩ := C0
  obtain ⟨w, wm, tl, ts, fl0, wi0, sz0, fl1, wi1, sz1, fl2, wi2, sz2, fl3, wi3, sz3, tp, rf, rp, nb0, nb1, nb2, nb3, g, xd, f, ta, fm, fw, fh, tq, fk, fp, ww, wv, nm, g0, g1, g2, xd0, xd1, xd2, hB, hM, hI, hR, hP, hD, hS, hl, hc1, hc2⟩ := I
  obtain ⟨r0, r1, r2, r3, r4, i0, i1, i2, ttp, ttf, ttq, ttg, tte0, tte1, tte2, ttn0, ttn1, ttn2, ttn3, ttx, ttx0, ttx1, ttx2⟩ := hR
  refine lv_aload_n hx hb dL_law_535 rfl (lv_at hl 2 rfl) ?_
  refine lv_aload_n hx hb dL_law_536 rfl (lv_at hl 3 rfl) ?_
  refine lv_iload_n hx hb dL_law_537 rfl (lv_at hl 0 rfl) ?_
  refine lv_iconst (v := 1) hx hb dL_law_538 (by decide) ?_
  refine lv_iadd hx hb dL_law_539 ?_
  refine lv_topi (fun jv1 ejv1 => ?_)
  refine va_sld hx hb hX hbl hbA hS (sl_in (c := 1) ejv1 (by decide) (by decide) hi hL) dL_law_540 ?_
  refine lv_topi (fun av2 eav2 => ?_)
  refine lv_aload_n hx hb dL_law_541 rfl (lv_at hl 3 rfl) ?_
  refine lv_iload_n hx hb dL_law_542 rfl (lv_at hl 0 rfl) ?_
  refine lv_iconst (v := 2) hx hb dL_law_543 (by decide) ?_
  refine lv_iadd hx hb dL_law_544 ?_
  refine lv_topi (fun jv3 ejv3 => ?_)
  refine va_sld hx hb hX hbl hbA hS (sl_in (c := 2) ejv3 (by decide) (by decide) hi hL) dL_law_545 ?_
  refine lv_topi (fun av4 eav4 => ?_)
  refine lv_aload_n hx hb dL_law_546 rfl (lv_at hl 3 rfl) ?_
  refine lv_iload_n hx hb dL_law_547 rfl (lv_at hl 0 rfl) ?_
  refine lv_iconst (v := 3) hx hb dL_law_548 (by decide) ?_
  refine lv_iadd hx hb dL_law_549 ?_
  refine lv_topi (fun jv5 ejv5 => ?_)
  refine va_sld hx hb hX hbl hbA hS (sl_in (c := 3) ejv5 (by decide) (by decide) hi hL) dL_law_550 ?_
  refine lv_topi (fun av6 eav6 => ?_)
  refine cx_sX9_debt (ob := x) (a1 := av2) (a2 := av4) (a3 := av6) (rest := []) C1  hB hP hD hS hl.1 (Nat.le_of_ble_eq_true rfl) ⟨by omega, by omega⟩ dL_law_551 (fun an7 w8  H locs hq hB hP hD hS => ?_)
  have hP := P_perm (List.perm_append_comm_assoc w8 wm tl) hP
  have hD := D_perm (List.perm_append_comm_assoc w8 wm tl) hD
  refine lv_pop hx hb dL_law_554 rfl ?_
  refine lv_aload_n hx hb dL_law_555 rfl (lv_at hl 1 rfl) ?_
  refine lv_aload_n hx hb dL_law_556 rfl (lv_at hl 3 rfl) ?_
  refine lv_iload_n hx hb dL_law_557 rfl (lv_at hl 0 rfl) ?_
  refine lv_iconst (v := 1) hx hb dL_law_558 (by decide) ?_
  refine lv_iadd hx hb dL_law_559 ?_
  refine lv_topi (fun jv9 ejv9 => ?_)
  obtain rfl : jv1 = jv9 := ejv1.trans ejv9.symm
  refine va_sld hx hb hX hbl hbA hS (sl_in (c := 1) ejv1 (by decide) (by decide) hi hL) dL_law_560 ?_
  refine lv_topi (fun av10 eav10 => ?_)
  obtain rfl : av2 = av10 := eav2.trans eav10.symm
  refine lv_aload_n hx hb dL_law_561 rfl (lv_at hl 3 rfl) ?_
  refine lv_iload_n hx hb dL_law_562 rfl (lv_at hl 0 rfl) ?_
  refine lv_iconst (v := 2) hx hb dL_law_563 (by decide) ?_
  refine lv_iadd hx hb dL_law_564 ?_
  refine lv_topi (fun jv11 ejv11 => ?_)
  obtain rfl : jv3 = jv11 := ejv3.trans ejv11.symm
  refine va_sld hx hb hX hbl hbA hS (sl_in (c := 2) ejv3 (by decide) (by decide) hi hL) dL_law_565 ?_
  refine lv_topi (fun av12 eav12 => ?_)
  obtain rfl : av4 = av12 := eav4.trans eav12.symm
  refine lv_aload_n hx hb dL_law_566 rfl (lv_at hl 3 rfl) ?_
  refine lv_iload_n hx hb dL_law_567 rfl (lv_at hl 0 rfl) ?_
  refine lv_iconst (v := 3) hx hb dL_law_568 (by decide) ?_
  refine lv_iadd hx hb dL_law_569 ?_
  refine lv_topi (fun jv13 ejv13 => ?_)
  obtain rfl : jv5 = jv13 := ejv5.trans ejv13.symm
  refine va_sld hx hb hX hbl hbA hS (sl_in (c := 3) ejv5 (by decide) (by decide) hi hL) dL_law_570 ?_
  refine lv_topi (fun av14 eav14 => ?_)
  obtain rfl : av6 = av14 := eav6.trans eav14.symm
  have hM0 := hM
  refine cx_sX10_debt (ob := q) (a1 := av2) (a2 := av4) (a3 := av6) (rest := []) C1  hM hP hD hS hl.1 (Nat.le_of_ble_eq_true rfl) ⟨by omega, by omega⟩ dL_law_571 (fun an15 w16  H locs hq2 hM hP hD hS => ?_)
  have hP := P_perm (List.perm_append_comm_assoc w16 w8 tl) hP
  have hD := D_perm (List.perm_append_comm_assoc w16 w8 tl) hD
  refine lv_pop hx hb dL_law_574 rfl ?_
  refine lv_goto (tgt := 1350) hx hb dL_law_575 (by decide) ?_
  exact K _ _ _ _ ⟨w8, w16, tl, ts, fl0, wi0, sz0, fl1, wi1, sz1, fl2, wi2, sz2, fl3, wi3, sz3, tp, rf, rp, nb0, nb1, nb2, nb3, g, xd, f, ta, fm, fw, fh, tq, fk, fp, ww, wv, nm, g0, g1, g2, xd0, xd1, xd2, hB, hM, hI, ⟨r0, r1, r2, r3, r4, i0, i1, i2, ttp, ttf, ttq, ttg, tte0, tte1, tte2, ttn0, ttn1, ttn2, ttn3, ttx, ttx0, ttx1, ttx2⟩, hP, hD, hS, hl, by omega, by omega⟩
