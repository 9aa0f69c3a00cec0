/-! MY OWN WORDS: the array classes, what is carried of the state, calls and returns and loops with the whole world -/
abbrev tyS (y : Nat → ClassId) : List (ClassId × FieldType) := [(y 0, .byte), (y 1, .int), (y 2, .long), (y 3, .boolean), (y 4, .object "CardBowl$Slot"), (y 5, .object "CardBowl$State")]
def nsL : List (String × Nat × MethodName) := [(RX9, 15, yX3_init), (RX9, 22, yX6_init), (RX9, 39, yX4_init), (RX9, 46, yX8_init), (RX9, 53, yX1_init), (RX9, 62, yX5_init), (RX3, 11, yX7_init), (RX3, 20, yX0_init), (RX6, 11, yX7_init), (RX6, 20, yX0_init), (RX6, 27, yX1_init), (RX6, 34, yX2_init)]
def nst (U : State) : Prop := (∀ q ∈ nsL, va_Nw (.methodLinkNest q.1 q.2.1 q.2.2 "CardBowl") U) ∧ va_AO "CardBowl$Slot" U ∧ va_AO "CardBowl$State" U
def kk (G : va_G) (y : Nat → ClassId) (U : State) : Prop := va_K G vwCl (tyS y) U ∧ nst U
theorem kk.warm {G : va_G} {y : Nat → ClassId} {s U : State} (h : kk G y s) (hW : s.WarmedH U.vm) : kk G y U := ⟨va_K.moved hW.alike h.1, fun q hq => va_Nw.warmM hW (h.2.1 q hq), h.2.2.1.moved hW.alike, h.2.2.2.moved hW.alike⟩
theorem kk.called {G : va_G} {y : Nat → ClassId} {U : State} (g : JFrame) (mk : MethodId) (a : Array Value) (h : kk G y U) : kk G y (U.calling g mk a) := ⟨va_K.moved (u := U) (U := U.calling g mk a) (Vm.Alike.refl U.vm) h.1, fun q hq => va_Nw.same rfl rfl (h.2.1 q hq), va_AO.moved (u := U) (U := U.calling g mk a) (Vm.Alike.refl U.vm) h.2.2.1, va_AO.moved (u := U) (U := U.calling g mk a) (Vm.Alike.refl U.vm) h.2.2.2⟩
abbrev kp (G : va_G) (y : Nat → ClassId) (sz : Nat) (ws : va_W) (U : State) : Prop := U.heap.size = sz ∧ va_P G vwCl ws U.heap ∧ kk G y U ∧ va_D (fun _ => True) ws
abbrev kq (G : va_G) (A : Nat → Prop) (w : va_W) (t : State) : Prop := va_P G vwCl w t.heap ∧ va_D A w
theorem kp_blind {G : va_G} {y : Nat → ClassId} {sz : Nat} {ws : va_W} {av : List Value} : FrameBlind (va_Pc av (kp G y sz ws)) := fun a U g mk q => by
  obtain ⟨q0, q1, qP, qK, qD⟩ := q
  exact ⟨q0, q1, qP, qK.called g mk a, qD⟩
theorem ty_uniq {G : va_G} {cl : List vw_C} {tys : List (ClassId × FieldType)} {U : State} (hK : va_K G cl tys U) {i j : Nat} {cA cB : ClassId} {ty : FieldType} (hi : tys[i]? = some (cA, ty)) (hj : tys[j]? = some (cB, ty)) : cA = cB := by
  have h1 := (hK.2 i _ hi).2
  have h2 := (hK.2 j _ hj).2
  cases ty with
  | object C =>
    obtain ⟨_, _, _, _, _, h1⟩ := h1
    obtain ⟨_, _, _, _, _, h2⟩ := h2
    exact Option.some.inj (h1.symm.trans h2)
  | _ => exact Option.some.inj (Eq.trans (Eq.symm h1) h2)
theorem P_map {D : va_G} {cl : List vw_C} {ws wc : va_W} {H : Heap} (hP : va_P D cl ws H) (is : List Nat) (hC : is.map (fun i => ws[i]?) = wc.map some) : va_P D cl wc H := by
  intro k q hk
  have h1 : (is.map (fun i => ws[i]?))[k]? = some (some q) := by rw [hC, List.getElem?_map, hk]; rfl
  rw [List.getElem?_map] at h1
  cases hi : is[k]? with
  | none => rw [hi] at h1; cases h1
  | some i =>
    rw [hi] at h1
    exact hP i q (Option.some.inj h1)
section BCC
variable {p : Program} {l : Launch} {e : Env} {R : Room} {s : State} {m : MethodId} {args : Array Value} {below : List Frame} {meth : Method} {c : Code} {H : Heap} {locs : List Loc} {cells slots : Nat} {Q : State → Prop} {pc : Nat} {ls : Array Slot} {A : Nat → Prop} {H0 : Heap} {G : va_G} {y : Nat → ClassId} {ws : va_W} {cc : ByteArray} {nL : Nat} {Ts : List Cond} {own : String} {index n mc ms maxL : Nat} {ym : MethodName} {bytes : ByteArray} {ret : Option FieldType} {wsm : List Cond} {rm : Room} {b ci : Nat} {As rest : List Value} {fs : List Value} {q : vw_C}
theorem cVi {post : Int32 → va_W → Prop} (F : CallFix p m c cc nL s args Ts own) (hA : ∀ q, H0.size ≤ q → A q) (hK : kk G y s) (hP : va_P G vwCl ws H) (hD : va_D A ws) (hS : va_S A H0 H locs) (isC isR : List Nat) (WC REST : va_W) (hC : isC.map (fun i => ws[i]?) = WC.map some) (hR : isR.map (fun i => ws[i]?) = REST.map some) (hnC : va_nd isC = true) (hnR : va_nd isR = true) (hdis : ∀ i ∈ isR, i ∉ isC)
    (hM : Met l ym wsm rm (va_Pc (.ref b :: As) (kp G y H.size WC)) (va_Qi post (kq G (va_A WC H.size)) (va_A WC H.size)) mc ms (va_A WC H.size))
    (cw : CallW R s args own q.1 index ym bytes maxL ret wsm rm mc ms n) (hc : vwCl[ci]? = some q) (he : WC[0]? = some (b, .inr (ci, fs))) (hn : As.length = n) (hsz : ls.size = nL) (hrw : (rest.map fun v => v.category).sum ≤ 8) (hdg : decode cc pc = .ok (.invokevirtual index, 3)) (hf : cells + mc ≤ R.cells ∧ slots + ms ≤ R.slots)
    (k : ∀ (r : Int32) (w : va_W) (H1 : Heap) (locs1 : List Loc), post r w → va_P G vwCl (REST ++ w) H1 → va_D A (REST ++ w) → va_S A H0 H1 locs1 → W p l e R s m args below meth c H1 locs1 (cells + mc) (slots + ms) Q (F0 m (pc + 3) ls (.int r :: rest))) :
    W p l e R s m args below meth c H locs cells slots Q (F0 m pc ls (As.reverse ++ .ref b :: rest)) := by
  have hPc := P_map hP isC hC
  have hDc := hD.sub isC hnC hC
  have hFc := va_free hD hS hA isC hC
  refine va_calli (va_runV (As := As) (rest := rest) F hM cw ⟨kp_blind, va_recv hK.1 hPc hc he, fun U hU hW => ⟨rfl, by rw [hU], by rw [hU]; exact hPc, hK.warm hW, hDc.weaken (fun _ _ _ _ => trivial)⟩⟩ rfl hn hsz rfl (lv_room hrw) hdg hf) hS (fun q _ h => hFc q h) hFc (fun r u t H1 locs1 ht hvm hw hB hz1 hk1 hS1 => ?_)
  obtain ⟨hP1, hD1⟩ := hB
  rw [ht] at hP1
  obtain ⟨hP2, hD2⟩ := va_join hP hD isC isR hC hR hnR hdis hk1 hFc hP1 hD1
  exact k r u H1 locs1 hw hP2 hD2 hS1
theorem cVv {post : va_W → Prop} (F : CallFix p m c cc nL s args Ts own) (hA : ∀ q, H0.size ≤ q → A q) (hK : kk G y s) (hP : va_P G vwCl ws H) (hD : va_D A ws) (hS : va_S A H0 H locs) (isC isR : List Nat) (WC REST : va_W) (hC : isC.map (fun i => ws[i]?) = WC.map some) (hR : isR.map (fun i => ws[i]?) = REST.map some) (hnC : va_nd isC = true) (hnR : va_nd isR = true) (hdis : ∀ i ∈ isR, i ∉ isC)
    (hM : Met l ym wsm rm (va_Pc (.ref b :: As) (kp G y H.size WC)) (va_Qv post (kq G (va_A WC H.size)) (va_A WC H.size)) mc ms (va_A WC H.size))
    (cw : CallW R s args own q.1 index ym bytes maxL ret wsm rm mc ms n) (hc : vwCl[ci]? = some q) (he : WC[0]? = some (b, .inr (ci, fs))) (hn : As.length = n) (hsz : ls.size = nL) (hrw : (rest.map fun v => v.category).sum ≤ 8) (hdg : decode cc pc = .ok (.invokevirtual index, 3)) (hf : cells + mc ≤ R.cells ∧ slots + ms ≤ R.slots)
    (k : ∀ (w : va_W) (H1 : Heap) (locs1 : List Loc), post w → va_P G vwCl (REST ++ w) H1 → va_D A (REST ++ w) → va_S A H0 H1 locs1 → W p l e R s m args below meth c H1 locs1 (cells + mc) (slots + ms) Q (F0 m (pc + 3) ls rest)) :
    W p l e R s m args below meth c H locs cells slots Q (F0 m pc ls (As.reverse ++ .ref b :: rest)) := by
  have hPc := P_map hP isC hC
  have hDc := hD.sub isC hnC hC
  have hFc := va_free hD hS hA isC hC
  refine va_callv (va_runV (As := As) (rest := rest) F hM cw ⟨kp_blind, va_recv hK.1 hPc hc he, fun U hU hW => ⟨rfl, by rw [hU], by rw [hU]; exact hPc, hK.warm hW, hDc.weaken (fun _ _ _ _ => trivial)⟩⟩ rfl hn hsz rfl (lv_room hrw) hdg hf) hS (fun q _ h => hFc q h) hFc (fun u t H1 locs1 ht hvm hw hB hz1 hk1 hS1 => ?_)
  obtain ⟨hP1, hD1⟩ := hB
  rw [ht] at hP1
  obtain ⟨hP2, hD2⟩ := va_join hP hD isC isR hC hR hnR hdis hk1 hFc hP1 hD1
  exact k u H1 locs1 hw hP2 hD2 hS1
theorem cSi {post : Int32 → va_W → Prop} (F : CallFix p m c cc nL s args Ts own) (hA : ∀ q, H0.size ≤ q → A q) (hK : kk G y s) (hP : va_P G vwCl ws H) (hD : va_D A ws) (hS : va_S A H0 H locs) (isC isR : List Nat) (WC REST : va_W) (hC : isC.map (fun i => ws[i]?) = WC.map some) (hR : isR.map (fun i => ws[i]?) = REST.map some) (hnC : va_nd isC = true) (hnR : va_nd isR = true) (hdis : ∀ i ∈ isR, i ∉ isC)
    (hM : Met l ym wsm rm (va_Pc As (kp G y H.size WC)) (va_Qi post (kq G (va_A WC H.size)) (va_A WC H.size)) mc ms (va_A WC H.size))
    (cw : CallB R s args own index ym bytes maxL ret wsm rm mc ms n ∧ (Cond.static ym).before args s = true) (hn : As.length = n) (hsz : ls.size = nL) (hrw : (rest.map fun v => v.category).sum ≤ 8) (hdg : decode cc pc = .ok (.invokestatic index, 3)) (hf : cells + mc ≤ R.cells ∧ slots + ms ≤ R.slots)
    (k : ∀ (r : Int32) (w : va_W) (H1 : Heap) (locs1 : List Loc), post r w → va_P G vwCl (REST ++ w) H1 → va_D A (REST ++ w) → va_S A H0 H1 locs1 → W p l e R s m args below meth c H1 locs1 (cells + mc) (slots + ms) Q (F0 m (pc + 3) ls (.int r :: rest))) :
    W p l e R s m args below meth c H locs cells slots Q (F0 m pc ls (As.reverse ++ rest)) := by
  have hPc := P_map hP isC hC
  have hDc := hD.sub isC hnC hC
  have hFc := va_free hD hS hA isC hC
  refine va_calli (va_runS (As := As) (rest := rest) F hM cw ⟨kp_blind, fun U hU hW => ⟨rfl, by rw [hU], by rw [hU]; exact hPc, hK.warm hW, hDc.weaken (fun _ _ _ _ => trivial)⟩⟩ rfl hn hsz rfl (lv_room hrw) hdg hf) hS (fun q _ h => hFc q h) hFc (fun r u t H1 locs1 ht hvm hw hB hz1 hk1 hS1 => ?_)
  obtain ⟨hP1, hD1⟩ := hB
  rw [ht] at hP1
  obtain ⟨hP2, hD2⟩ := va_join hP hD isC isR hC hR hnR hdis hk1 hFc hP1 hD1
  exact k r u H1 locs1 hw hP2 hD2 hS1
theorem cSv {post : va_W → Prop} (F : CallFix p m c cc nL s args Ts own) (hA : ∀ q, H0.size ≤ q → A q) (hK : kk G y s) (hP : va_P G vwCl ws H) (hD : va_D A ws) (hS : va_S A H0 H locs) (isC isR : List Nat) (WC REST : va_W) (hC : isC.map (fun i => ws[i]?) = WC.map some) (hR : isR.map (fun i => ws[i]?) = REST.map some) (hnC : va_nd isC = true) (hnR : va_nd isR = true) (hdis : ∀ i ∈ isR, i ∉ isC)
    (hM : Met l ym wsm rm (va_Pc As (kp G y H.size WC)) (va_Qv post (kq G (va_A WC H.size)) (va_A WC H.size)) mc ms (va_A WC H.size))
    (cw : CallB R s args own index ym bytes maxL ret wsm rm mc ms n ∧ (Cond.static ym).before args s = true) (hn : As.length = n) (hsz : ls.size = nL) (hrw : (rest.map fun v => v.category).sum ≤ 8) (hdg : decode cc pc = .ok (.invokestatic index, 3)) (hf : cells + mc ≤ R.cells ∧ slots + ms ≤ R.slots)
    (k : ∀ (w : va_W) (H1 : Heap) (locs1 : List Loc), post w → va_P G vwCl (REST ++ w) H1 → va_D A (REST ++ w) → va_S A H0 H1 locs1 → W p l e R s m args below meth c H1 locs1 (cells + mc) (slots + ms) Q (F0 m (pc + 3) ls rest)) :
    W p l e R s m args below meth c H locs cells slots Q (F0 m pc ls (As.reverse ++ rest)) := by
  have hPc := P_map hP isC hC
  have hDc := hD.sub isC hnC hC
  have hFc := va_free hD hS hA isC hC
  refine va_callv (va_runS (As := As) (rest := rest) F hM cw ⟨kp_blind, fun U hU hW => ⟨rfl, by rw [hU], by rw [hU]; exact hPc, hK.warm hW, hDc.weaken (fun _ _ _ _ => trivial)⟩⟩ rfl hn hsz rfl (lv_room hrw) hdg hf) hS (fun q _ h => hFc q h) hFc (fun u t H1 locs1 ht hvm hw hB hz1 hk1 hS1 => ?_)
  obtain ⟨hP1, hD1⟩ := hB
  rw [ht] at hP1
  obtain ⟨hP2, hD2⟩ := va_join hP hD isC isR hC hR hnR hdis hk1 hFc hP1 hD1
  exact k u H1 locs1 hw hP2 hD2 hS1
/-- a constructor, called by a nest mate -/
theorem cNv {post : va_W → Prop} {host : String} (F : CallFix p m c cc nL s args Ts own) (hA : ∀ q, H0.size ≤ q → A q) (hK : kk G y s) (hP : va_P G vwCl ws H) (hD : va_D A ws) (hS : va_S A H0 H locs) (isC isR : List Nat) (WC REST : va_W) (hC : isC.map (fun i => ws[i]?) = WC.map some) (hR : isR.map (fun i => ws[i]?) = REST.map some) (hnC : va_nd isC = true) (hnR : va_nd isR = true) (hdis : ∀ i ∈ isR, i ∉ isC)
    (hM : Met l ym wsm rm (va_Pc (.ref b :: As) (kp G y H.size WC)) (va_Qv post (kq G (va_A WC H.size)) (va_A WC H.size)) mc ms (va_A WC H.size))
    (cw : va_CN R s args own index ym host bytes maxL none wsm rm mc ms n ∧ ym.name = "<init>" ∧ (Cond.instanceMethod ym).before args s = true) (hn : As.length = n) (hsz : ls.size = nL) (hrw : (rest.map fun v => v.category).sum ≤ 8) (hdg : decode cc pc = .ok (.invokespecial index, 3)) (hf : cells + mc ≤ R.cells ∧ slots + ms ≤ R.slots)
    (k : ∀ (w : va_W) (H1 : Heap) (locs1 : List Loc), post w → va_P G vwCl (REST ++ w) H1 → va_D A (REST ++ w) → va_S A H0 H1 locs1 → W p l e R s m args below meth c H1 locs1 (cells + mc) (slots + ms) Q (F0 m (pc + 3) ls rest)) :
    W p l e R s m args below meth c H locs cells slots Q (F0 m pc ls (As.reverse ++ .ref b :: rest)) := by
  have hPc := P_map hP isC hC
  have hDc := hD.sub isC hnC hC
  have hFc := va_free hD hS hA isC hC
  refine va_callv (va_runIN (As := As) (rest := rest) F hM cw ⟨kp_blind, fun U hU hW => ⟨rfl, by rw [hU], by rw [hU]; exact hPc, hK.warm hW, hDc.weaken (fun _ _ _ _ => trivial)⟩⟩ rfl hn hsz rfl (lv_room hrw) hdg hf) hS (fun q _ h => hFc q h) hFc (fun u t H1 locs1 ht hvm hw hB hz1 hk1 hS1 => ?_)
  obtain ⟨hP1, hD1⟩ := hB
  rw [ht] at hP1
  obtain ⟨hP2, hD2⟩ := va_join hP hD isC isR hC hR hnR hdis hk1 hFc hP1 hD1
  exact k u H1 locs1 hw hP2 hD2 hS1
/-- a constructor, called in the ordinary way -/
theorem cIv {post : va_W → Prop} (F : CallFix p m c cc nL s args Ts own) (hA : ∀ q, H0.size ≤ q → A q) (hK : kk G y s) (hP : va_P G vwCl ws H) (hD : va_D A ws) (hS : va_S A H0 H locs) (isC isR : List Nat) (WC REST : va_W) (hC : isC.map (fun i => ws[i]?) = WC.map some) (hR : isR.map (fun i => ws[i]?) = REST.map some) (hnC : va_nd isC = true) (hnR : va_nd isR = true) (hdis : ∀ i ∈ isR, i ∉ isC)
    (hM : Met l ym wsm rm (va_Pc (.ref b :: As) (kp G y H.size WC)) (va_Qv post (kq G (va_A WC H.size)) (va_A WC H.size)) mc ms (va_A WC H.size))
    (cw : CallB R s args own index ym bytes maxL none wsm rm mc ms n ∧ ym.name = "<init>" ∧ (Cond.instanceMethod ym).before args s = true) (hn : As.length = n) (hsz : ls.size = nL) (hrw : (rest.map fun v => v.category).sum ≤ 8) (hdg : decode cc pc = .ok (.invokespecial index, 3)) (hf : cells + mc ≤ R.cells ∧ slots + ms ≤ R.slots)
    (k : ∀ (w : va_W) (H1 : Heap) (locs1 : List Loc), post w → va_P G vwCl (REST ++ w) H1 → va_D A (REST ++ w) → va_S A H0 H1 locs1 → W p l e R s m args below meth c H1 locs1 (cells + mc) (slots + ms) Q (F0 m (pc + 3) ls rest)) :
    W p l e R s m args below meth c H locs cells slots Q (F0 m pc ls (As.reverse ++ .ref b :: rest)) := by
  have hPc := P_map hP isC hC
  have hDc := hD.sub isC hnC hC
  have hFc := va_free hD hS hA isC hC
  refine va_callv (va_runI (As := As) (rest := rest) F hM cw ⟨kp_blind, fun U hU hW => ⟨rfl, by rw [hU], by rw [hU]; exact hPc, hK.warm hW, hDc.weaken (fun _ _ _ _ => trivial)⟩⟩ rfl hn hsz rfl (lv_room hrw) hdg hf) hS (fun q _ h => hFc q h) hFc (fun u t H1 locs1 ht hvm hw hB hz1 hk1 hS1 => ?_)
  obtain ⟨hP1, hD1⟩ := hB
  rw [ht] at hP1
  obtain ⟨hP2, hD2⟩ := va_join hP hD isC isR hC hR hnR hdis hk1 hFc hP1 hD1
  exact k u H1 locs1 hw hP2 hD2 hS1
theorem nw_a (hexec : p.tables.exec = Jvm.exec) (hb : c.code = cc) {atype : ArrayType} (harr : (Cond.arrayClass (newarray.typeOf atype)).before args s = true) {ty : FieldType} (hty : newarray.typeOf atype = ty) (ti : Nat) {cY : ClassId} (hcY : (tyS y)[ti]? = some (cY, ty)) (hK : kk G y s) (hP : va_P G vwCl ws H) (hD : va_D A ws) (hS : va_S A H0 H locs) (hA : ∀ q, H0.size ≤ q → A q)
    {n : Int32} {N' : Nat} {a0 : vp_A} (ha : ∀ cA : ClassId, vp_cell cA a0 = arrV cA N' (fun _ => defaultValue ty)) (hn : ¬ n < 0) (hN : n.toNatClampNeg = N') (hbytes : N' * componentBytes ty ≤ 536870912) (hcells : cells + 1 ≤ R.cells) (hslots : slots + N' ≤ R.slots) (hdg : decode cc pc = .ok (.newarray atype, 2))
    (k : ∀ (q : Nat) (H1 : Heap), va_P G vwCl (ws ++ [(q, .inl (cY, a0))]) H1 → va_D A (ws ++ [(q, .inl (cY, a0))]) → va_S A H0 H1 locs →
      W p l e R s m args below meth c H1 locs (cells + 1) (slots + N') Q (F0 m (pc + 2) ls (.ref q :: rest))) : W p l e R s m args below meth c H locs cells slots Q (F0 m pc ls (.int n :: rest)) := by
  refine va_newa hexec hb harr hty hK.1 hP hD hS hA ha hn hN hbytes hcells hslots hdg fun q cA H1 hK1 hP1 hD1 hS1 => ?_
  have hti : ti < (tyS y).length := (List.getElem?_eq_some_iff.mp hcY).1
  have e1 : cA = cY := ty_uniq hK1 (i := (tyS y).length) (j := ti) (by rw [List.getElem?_append_right (Nat.le_refl _), Nat.sub_self]; rfl) (by rw [List.getElem?_append_left hti]; exact hcY)
  subst e1
  exact k q H1 hP1 hD1 hS1
theorem nw_q (hexec : p.tables.exec = Jvm.exec) (hb : c.code = cc) {C : String} (hown : s.vm.findClass own = some m.cls) (hclink : (Cond.classLink own index C).before args s = true) (hover : va_AO C s) (ti : Nat) {cY : ClassId} (hcY : (tyS y)[ti]? = some (cY, .object C)) (hK : kk G y s) (hP : va_P G vwCl ws H) (hD : va_D A ws) (hS : va_S A H0 H locs) (hA : ∀ q, H0.size ≤ q → A q)
    {n : Int32} {N' : Nat} (hn : ¬ n < 0) (hN : n.toNatClampNeg = N') (hbytes : N' * 4 ≤ 536870912) (hcells : cells + 1 ≤ R.cells) (hslots : slots + N' ≤ R.slots) (hdg : decode cc pc = .ok (.anewarray index, 3))
    (k : ∀ (q : Nat) (H1 : Heap), va_P G vwCl (ws ++ [(q, .inl (cY, N', .inr (.inr (.inr (.inr (fun _ => none))))))]) H1 → va_D A (ws ++ [(q, .inl (cY, N', .inr (.inr (.inr (.inr (fun _ => none))))))]) → va_S A H0 H1 locs →
      W p l e R s m args below meth c H1 locs (cells + 1) (slots + N') Q (F0 m (pc + 3) ls (.ref q :: rest))) : W p l e R s m args below meth c H locs cells slots Q (F0 m pc ls (.int n :: rest)) := by
  refine va_newq hexec hb hown hclink hover hK.1 hP hD hS hA hn hN hbytes hcells hslots hdg fun q cA H1 hK1 hP1 hD1 hS1 => ?_
  have hti : ti < (tyS y).length := (List.getElem?_eq_some_iff.mp hcY).1
  have e1 : cA = cY := ty_uniq hK1 (i := (tyS y).length) (j := ti) (by rw [List.getElem?_append_right (Nat.le_refl _), Nat.sub_self]; rfl) (by rw [List.getElem?_append_left hti]; exact hcY)
  subst e1
  exact k q H1 hP1 hD1 hS1
/-- a loop: I n .. says that n rounds are left -/
theorem loopW {σ : Type} (I : Nat → σ → Heap → List Loc → Array Slot → Prop) (hz : ∀ x H locs ls, I 0 x H locs ls → W p l e R s m args below meth c H locs cells slots Q (F0 m pc ls rest)) (hs : ∀ n, (∀ x H locs ls, I n x H locs ls → W p l e R s m args below meth c H locs cells slots Q (F0 m pc ls rest)) → ∀ x H locs ls, I (n + 1) x H locs ls → W p l e R s m args below meth c H locs cells slots Q (F0 m pc ls rest)) (n : Nat) (x : σ) (h : I n x H locs ls) : W p l e R s m args below meth c H locs cells slots Q (F0 m pc ls rest) := by
  induction n generalizing x H locs ls with
  | zero => exact hz x H locs ls h
  | succ n ih => exact hs n (fun x H locs ls h => ih x h) x H locs ls h
end BCC
theorem sl_cases (x : Int32) : x = 0 ∨ x = 1 ∨ x = 2 ∨ x = 3 ∨ (x.toInt < 0 ∨ 3 < x.toInt) := by
  by_cases h : x.toInt < 0 ∨ 3 < x.toInt
  · exact Or.inr (Or.inr (Or.inr (Or.inr h)))
  · have h2 : x.toInt = 0 ∨ x.toInt = 1 ∨ x.toInt = 2 ∨ x.toInt = 3 := by omega
    rcases h2 with h2 | h2 | h2 | h2
    · exact Or.inl (Int32.toInt_inj.mp h2)
    · exact Or.inr (Or.inl (Int32.toInt_inj.mp h2))
    · exact Or.inr (Or.inr (Or.inl (Int32.toInt_inj.mp h2)))
    · exact Or.inr (Or.inr (Or.inr (Or.inl (Int32.toInt_inj.mp h2))))
theorem im_cases (x : Int32) : x = 0 ∨ x = 1 ∨ x = 2 ∨ (x.toInt < 0 ∨ 2 < x.toInt) := by
  by_cases h : x.toInt < 0 ∨ 2 < x.toInt
  · exact Or.inr (Or.inr (Or.inr h))
  · have h2 : x.toInt = 0 ∨ x.toInt = 1 ∨ x.toInt = 2 := by omega
    rcases h2 with h2 | h2 | h2
    · exact Or.inl (Int32.toInt_inj.mp h2)
    · exact Or.inr (Or.inl (Int32.toInt_inj.mp h2))
    · exact Or.inr (Or.inr (Or.inl (Int32.toInt_inj.mp h2)))
theorem il_lt {x y : Int32} {a b : Int} (h : x < y) (hx : x.toInt = a) (hy : y.toInt = b) : a < b := by rw [← hx, ← hy]; exact Int32.lt_iff_toInt_lt.mp h
theorem il_nlt {x y : Int32} {a b : Int} (h : ¬ x < y) (hx : x.toInt = a) (hy : y.toInt = b) : a ≥ b := by rw [← hx, ← hy]; exact Int.not_lt.mp (fun q => h (Int32.lt_iff_toInt_lt.mpr q))
theorem il_le {x y : Int32} {a b : Int} (h : x ≤ y) (hx : x.toInt = a) (hy : y.toInt = b) : a ≤ b := by rw [← hx, ← hy]; exact Int32.le_iff_toInt_le.mp h
theorem il_nle {x y : Int32} {a b : Int} (h : ¬ x ≤ y) (hx : x.toInt = a) (hy : y.toInt = b) : a > b := by rw [← hx, ← hy]; exact Int.not_le.mp (fun q => h (Int32.le_iff_toInt_le.mpr q))
theorem il_eq {x y : Int32} {a b : Int} (h : x = y) (hx : x.toInt = a) (hy : y.toInt = b) : a = b := by rw [← hx, ← hy, h]
theorem il_neq {x y : Int32} {a b : Int} (h : ¬ x = y) (hx : x.toInt = a) (hy : y.toInt = b) : a ≠ b := by rw [← hx, ← hy]; exact fun q => h (Int32.toInt_inj.mp q)
theorem ir_lt {x y : Int32} {a b : Int} (hx : x.toInt = a) (hy : y.toInt = b) (h : a < b) : x < y := Int32.lt_iff_toInt_lt.mpr (by rw [hx, hy]; exact h)
theorem ir_nlt {x y : Int32} {a b : Int} (hx : x.toInt = a) (hy : y.toInt = b) (h : b ≤ a) : ¬ x < y := fun q => by
  have := Int32.lt_iff_toInt_lt.mp q
  rw [hx, hy] at this
  omega
theorem ir_le {x y : Int32} {a b : Int} (hx : x.toInt = a) (hy : y.toInt = b) (h : a ≤ b) : x ≤ y := Int32.le_iff_toInt_le.mpr (by rw [hx, hy]; exact h)
theorem ir_nle {x y : Int32} {a b : Int} (hx : x.toInt = a) (hy : y.toInt = b) (h : b < a) : ¬ x ≤ y := fun q => by
  have := Int32.le_iff_toInt_le.mp q
  rw [hx, hy] at this
  omega
theorem ir_neq {x y : Int32} {a b : Int} (hx : x.toInt = a) (hy : y.toInt = b) (h : a ≠ b) : ¬ x = y := fun q => by
  subst q
  exact h (hx.symm.trans hy)
theorem jl_lt {x y : Int64} (h : lg_cmp x y < 0) : x.toInt < y.toInt := Int64.lt_iff_toInt_lt.mp ((lg_cmp_lt x y).mp h)
theorem jl_nlt {x y : Int64} (h : ¬ lg_cmp x y < 0) : y.toInt ≤ x.toInt := Int.not_lt.mp (fun q => h ((lg_cmp_lt x y).mpr (Int64.lt_iff_toInt_lt.mpr q)))
theorem jl_gt {x y : Int64} (h : 0 < lg_cmp x y) : y.toInt < x.toInt := Int64.lt_iff_toInt_lt.mp ((lg_cmp_gt x y).mp h)
theorem jl_ngt {x y : Int64} (h : ¬ 0 < lg_cmp x y) : x.toInt ≤ y.toInt := Int.not_lt.mp (fun q => h ((lg_cmp_gt x y).mpr (Int64.lt_iff_toInt_lt.mpr q)))
theorem in_1 {x : Int32} {lo hi : Int64} {a b : Int} (h : lo.toInt ≤ x.toInt64.toInt ∧ x.toInt64.toInt ≤ hi.toInt) (ha : lo.toInt = a) (hb : hi.toInt = b) : a ≤ x.toInt ∧ x.toInt ≤ b := by
  rw [Int32.toInt_toInt64, ha, hb] at h
  exact h
theorem in_0 {x : Int32} {lo hi : Int64} {a b : Int} (h : x.toInt64.toInt < lo.toInt ∨ hi.toInt < x.toInt64.toInt) (ha : lo.toInt = a) (hb : hi.toInt = b) : x.toInt < a ∨ b < x.toInt := by
  rw [Int32.toInt_toInt64, ha, hb] at h
  exact h
theorem up_v0 {f : Nat → Int32} {k : Nat} (hf : f 0 = 0) : upd f k 0 0 = 0 := by
  unfold upd
  split
  · rfl
  · exact hf
theorem up_el {f g : Nat → Int32} {k : Nat} {v : Int32} (e : v = g k) (hf : f 0 = 0) (hg : g 0 = 0) : upd f k v 0 = 0 := by
  unfold upd
  split
  · next h => subst h; exact e.trans hg
  · exact hf
theorem up_ne {f : Nat → Int32} {k : Nat} {v : Int32} (h : k ≠ 0) (hf : f 0 = 0) : upd f k v 0 = 0 := by
  unfold upd
  rw [if_neg (fun q => h q.symm)]
  exact hf
theorem cn_cases (x : Int32) : x = 0 ∨ x = 1 ∨ x = 2 ∨ x = 3 ∨ x = 4 ∨ x = 5 ∨ x = 6 ∨ x = 7 ∨ x = 8 ∨ x = 9 ∨ x = 10 ∨ (x.toInt < 0 ∨ 10 < x.toInt) := by
  by_cases h : x.toInt < 0 ∨ 10 < x.toInt
  · simp only [h, or_true]
  · have h2 : x.toInt = 0 ∨ x.toInt = 1 ∨ x.toInt = 2 ∨ x.toInt = 3 ∨ x.toInt = 4 ∨ x.toInt = 5 ∨ x.toInt = 6 ∨ x.toInt = 7 ∨ x.toInt = 8 ∨ x.toInt = 9 ∨ x.toInt = 10 := by omega
    rcases h2 with h2 | h2 | h2 | h2 | h2 | h2 | h2 | h2 | h2 | h2 | h2
    · exact Or.inl (Int32.toInt_inj.mp h2)
    · exact Or.inr (Or.inl (Int32.toInt_inj.mp h2))
    · exact Or.inr (Or.inr (Or.inl (Int32.toInt_inj.mp h2)))
    · exact Or.inr (Or.inr (Or.inr (Or.inl (Int32.toInt_inj.mp h2))))
    · exact Or.inr (Or.inr (Or.inr (Or.inr (Or.inl (Int32.toInt_inj.mp h2)))))
    · exact Or.inr (Or.inr (Or.inr (Or.inr (Or.inr (Or.inl (Int32.toInt_inj.mp h2))))))
    · exact Or.inr (Or.inr (Or.inr (Or.inr (Or.inr (Or.inr (Or.inl (Int32.toInt_inj.mp h2)))))))
    · exact Or.inr (Or.inr (Or.inr (Or.inr (Or.inr (Or.inr (Or.inr (Or.inl (Int32.toInt_inj.mp h2))))))))
    · exact Or.inr (Or.inr (Or.inr (Or.inr (Or.inr (Or.inr (Or.inr (Or.inr (Or.inl (Int32.toInt_inj.mp h2)))))))))
    · exact Or.inr (Or.inr (Or.inr (Or.inr (Or.inr (Or.inr (Or.inr (Or.inr (Or.inr (Or.inl (Int32.toInt_inj.mp h2))))))))))
    · exact Or.inr (Or.inr (Or.inr (Or.inr (Or.inr (Or.inr (Or.inr (Or.inr (Or.inr (Or.inr (Or.inl (Int32.toInt_inj.mp h2)))))))))))
/-- what is answered of a fresh object -/
def sp_end (x : Int32) : Int32 := if x.toInt = 0 then x else -1
def sp_fault (x : Int32) : Int32 := if x.toInt = 0 then 0 else -1
def sp_days (x : Int32) : Int32 := if 0 ≤ x.toInt ∧ x.toInt ≤ 60 then x else -2
def sp_slot (x : Int32) : Int32 := if 0 ≤ x.toInt ∧ x.toInt ≤ 3 then -6 else -2
def sp_image (x : Int32) : Int32 := if 0 ≤ x.toInt ∧ x.toInt ≤ 2 then -6 else -2
def sp_keep (x : Int32) : Int32 := if 0 ≤ x.toInt ∧ x.toInt ≤ 2 then 0 else -2
def sp_count (x : Int32) : Int32 := if x.toInt = 8 then 3 else if 0 ≤ x.toInt ∧ x.toInt ≤ 10 then 0 else -1
def sp_row (x y z : Int32) : Int32 := if (0 ≤ x.toInt ∧ x.toInt ≤ 3) ∧ (0 ≤ y.toInt ∧ y.toInt ≤ 3) ∧ z.toInt ≤ 60 then (if z.toInt < 0 then -3 else 0) else -2
def sp_paste (x y : Int32) : Int32 := if (0 ≤ x.toInt ∧ x.toInt ≤ 3) ∧ (0 ≤ y.toInt ∧ y.toInt ≤ 3) then -6 else -2
/-! intervals of whole numbers -/
theorem btop (x : Int32) : -2147483648 ≤ x.toInt ∧ x.toInt ≤ 2147483647 := ⟨Int32.minValue_le_toInt x, Int32.toInt_le x⟩
theorem bkc {x : Int32} {c : Int} (h : x.toInt = c) : c ≤ x.toInt ∧ x.toInt ≤ c := by omega
theorem bw {x : Int32} {l h : Int} (L H : Int) (b : l ≤ x.toInt ∧ x.toInt ≤ h) (s : L ≤ l ∧ h ≤ H) : L ≤ x.toInt ∧ x.toInt ≤ H := by omega
theorem bm_id {z : Int} (h1 : -2147483648 ≤ z) (h2 : z < 2147483648) : z.bmod (2 ^ 32) = z := by
  rw [Int.bmod_eq_of_le (by omega) (by omega)]
theorem ba_add {v a b : Int32} {l1 h1 l2 h2 : Int} (e : v = a + b) (ha : l1 ≤ a.toInt ∧ a.toInt ≤ h1) (hb : l2 ≤ b.toInt ∧ b.toInt ≤ h2) (s : -2147483648 ≤ l1 + l2 ∧ h1 + h2 ≤ 2147483647) : v.toInt = a.toInt + b.toInt := by
  rw [e, Int32.toInt_add, bm_id (by omega) (by omega)]
theorem ba_sub {v a b : Int32} {l1 h1 l2 h2 : Int} (e : v = a - b) (ha : l1 ≤ a.toInt ∧ a.toInt ≤ h1) (hb : l2 ≤ b.toInt ∧ b.toInt ≤ h2) (s : -2147483648 ≤ l1 - h2 ∧ h1 - l2 ≤ 2147483647) : v.toInt = a.toInt - b.toInt := by
  rw [e, Int32.toInt_sub, bm_id (by omega) (by omega)]
theorem ba_mul {v a b : Int32} {l h : Int} (k : Int) (e : v = a * b) (ha : l ≤ a.toInt ∧ a.toInt ≤ h) (hb : b.toInt = k) (hk : 0 ≤ k) (s : -2147483648 ≤ l * k ∧ h * k ≤ 2147483647) : v.toInt = a.toInt * k ∧ (l * k ≤ v.toInt ∧ v.toInt ≤ h * k) := by
  have m1 : l * k ≤ a.toInt * k := Int.mul_le_mul_of_nonneg_right ha.1 hk
  have m2 : a.toInt * k ≤ h * k := Int.mul_le_mul_of_nonneg_right ha.2 hk
  have h0 : v.toInt = a.toInt * k := by rw [e, Int32.toInt_mul, hb, bm_id (by omega) (by omega)]
  exact ⟨h0, by omega, by omega⟩
theorem bq_add {v : Int32} {x y l1 h1 l2 h2 : Int} (q : v.toInt = x + y) (ha : l1 ≤ x ∧ x ≤ h1) (hb : l2 ≤ y ∧ y ≤ h2) (L H : Int) (s : L ≤ l1 + l2 ∧ h1 + h2 ≤ H) : L ≤ v.toInt ∧ v.toInt ≤ H := by omega
theorem bq_sub {v : Int32} {x y l1 h1 l2 h2 : Int} (q : v.toInt = x - y) (ha : l1 ≤ x ∧ x ≤ h1) (hb : l2 ≤ y ∧ y ≤ h2) (L H : Int) (s : L ≤ l1 - h2 ∧ h1 - l2 ≤ H) : L ≤ v.toInt ∧ v.toInt ≤ H := by omega
theorem tn_of {x : Int32} (h : 0 ≤ x.toInt) : (x.toBitVec.toNat : Int) = x.toInt := by
  have h1 : x.toInt = x.toBitVec.toInt := rfl
  have h2 := BitVec.toInt_eq_toNat_cond x.toBitVec
  have h3 := x.toBitVec.isLt
  rw [h1] at h ⊢
  split at h2 <;> omega
theorem tn_to {x : Int32} {n : Nat} (h : x.toBitVec.toNat = n) (hn : n < 2147483648) : x.toInt = (n : Int) := by
  have h1 : x.toInt = x.toBitVec.toInt := rfl
  have h2 := BitVec.toInt_eq_toNat_cond x.toBitVec
  rw [h1]
  split at h2 <;> omega
theorem ba_andl {v a b : Int32} {l h : Int} (e : v = a &&& b) (ha : l ≤ a.toInt ∧ a.toInt ≤ h) (s : 0 ≤ l) : 0 ≤ v.toInt ∧ v.toInt ≤ h := by
  have h1 := tn_of (x := a) (by omega)
  have h2 : v.toBitVec.toNat = a.toBitVec.toNat &&& b.toBitVec.toNat := by rw [e]; rfl
  have h3 : v.toBitVec.toNat ≤ a.toBitVec.toNat := by rw [h2]; exact Nat.and_le_left
  have h5 := a.toBitVec.isLt
  have h6 := (btop a).2
  have h4 := tn_to (x := v) rfl (by omega)
  omega
theorem ba_andr {v a b : Int32} {l h : Int} (e : v = a &&& b) (hb : l ≤ b.toInt ∧ b.toInt ≤ h) (s : 0 ≤ l) : 0 ≤ v.toInt ∧ v.toInt ≤ h := ba_andl (a := b) (b := a) (by rw [e, Int32.and_comm]) hb s
theorem ba_or {v a b : Int32} {l1 h1 l2 h2 : Int} (k : Nat) (e : v = a ||| b) (ha : l1 ≤ a.toInt ∧ a.toInt ≤ h1) (hb : l2 ≤ b.toInt ∧ b.toInt ≤ h2) (s : 0 ≤ l1 ∧ 0 ≤ l2 ∧ h1 < 2 ^ k ∧ h2 < 2 ^ k ∧ k ≤ 31) : 0 ≤ v.toInt ∧ v.toInt ≤ 2 ^ k - 1 := by
  have q1 := tn_of (x := a) (by omega)
  have q2 := tn_of (x := b) (by omega)
  have p : ((2 ^ k : Nat) : Int) = 2 ^ k := by rw [Int.natCast_pow]; rfl
  have p2 : 2 ^ k ≤ 2 ^ 31 := Nat.pow_le_pow_right (by decide) s.2.2.2.2
  have h2' : v.toBitVec.toNat = a.toBitVec.toNat ||| b.toBitVec.toNat := by rw [e]; rfl
  have h3 : v.toBitVec.toNat < 2 ^ k := by rw [h2']; exact Nat.or_lt_two_pow (by omega) (by omega)
  have h4 := tn_to (x := v) rfl (by omega)
  omega
theorem ba_xor {v a b : Int32} {l1 h1 l2 h2 : Int} (k : Nat) (e : v = a ^^^ b) (ha : l1 ≤ a.toInt ∧ a.toInt ≤ h1) (hb : l2 ≤ b.toInt ∧ b.toInt ≤ h2) (s : 0 ≤ l1 ∧ 0 ≤ l2 ∧ h1 < 2 ^ k ∧ h2 < 2 ^ k ∧ k ≤ 31) : 0 ≤ v.toInt ∧ v.toInt ≤ 2 ^ k - 1 := by
  have q1 := tn_of (x := a) (by omega)
  have q2 := tn_of (x := b) (by omega)
  have p : ((2 ^ k : Nat) : Int) = 2 ^ k := by rw [Int.natCast_pow]; rfl
  have p2 : 2 ^ k ≤ 2 ^ 31 := Nat.pow_le_pow_right (by decide) s.2.2.2.2
  have h2' : v.toBitVec.toNat = a.toBitVec.toNat ^^^ b.toBitVec.toNat := by rw [e]; rfl
  have h3 : v.toBitVec.toNat < 2 ^ k := by rw [h2']; exact Nat.xor_lt_two_pow (by omega) (by omega)
  have h4 := tn_to (x := v) rfl (by omega)
  omega
theorem ix_nI {x : Int32} {l h : Int} (b : l ≤ x.toInt ∧ x.toInt ≤ h) (s : 0 ≤ l) : ∃ n : Nat, x = nI n ∧ (n : Int) = x.toInt ∧ n < 2147483648 := by
  have h6 := (btop x).2
  refine ⟨x.toInt.toNat, ?_, by omega, by omega⟩
  apply Int32.toInt_inj.mp
  rw [nI_toInt (by omega)]
  omega
theorem ba_shr {v a b : Int32} {l h : Int} (e : v = a >>> (b &&& 31)) (ha : l ≤ a.toInt ∧ a.toInt ≤ h) (s : 0 ≤ l) : 0 ≤ v.toInt ∧ v.toInt ≤ h := by
  obtain ⟨n, h1, h2, h3⟩ := ix_nI ha s
  rw [h1, pk_shrN (by omega) (b &&& 31) _ rfl] at e
  have h4 : n / 2 ^ ((b &&& 31).toBitVec.smod 32).toNat ≤ n := Nat.div_le_self _ _
  generalize n / 2 ^ ((b &&& 31).toBitVec.smod 32).toNat = q at h4 e
  rw [e, nI_toInt (by omega)]
  omega
theorem sh_one : ∀ k, k < 31 → ((1 : Int32) <<< (nI k &&& 31)).toBitVec.toNat = 2 ^ k := by decide +kernel
theorem ba_shl {v b : Int32} {l h : Int} (j k : Nat) (e : v = (1 : Int32) <<< (b &&& 31)) (hb : l ≤ b.toInt ∧ b.toInt ≤ h) (s : (j : Int) ≤ l ∧ h ≤ k ∧ k ≤ 30) : 2 ^ j ≤ v.toInt ∧ v.toInt ≤ 2 ^ k := by
  obtain ⟨n, h1, h2, h3⟩ := ix_nI hb (by omega)
  have p : ∀ k : Nat, ((2 ^ k : Nat) : Int) = 2 ^ k := fun k => by rw [Int.natCast_pow]; rfl
  have p1 : 2 ^ j ≤ 2 ^ n := Nat.pow_le_pow_right (by decide) (by omega)
  have p2 : 2 ^ n ≤ 2 ^ k := Nat.pow_le_pow_right (by decide) (by omega)
  have p3 : 2 ^ k ≤ 2 ^ 30 := Nat.pow_le_pow_right (by decide) s.2.2
  have h4 : v.toBitVec.toNat = 2 ^ n := by
    rw [e, h1, sh_one n (by omega)]
  have h5 := tn_to h4 (by omega)
  have q1 := p j
  have q2 := p k
  omega
theorem ba_rem {v a b : Int32} {l h : Int} (d : Nat) (e : v = a - a / b * b) (ha : l ≤ a.toInt ∧ a.toInt ≤ h) (s : 0 ≤ l) (hb : b = nI d) (hd : 0 < d ∧ d < 2147483648) : 0 ≤ v.toInt ∧ v.toInt ≤ (d : Int) - 1 := by
  obtain ⟨n, h1, h2, h3⟩ := ix_nI ha s
  rw [h1, hb, pk_rem (by omega) hd.1 (by omega)] at e
  have h4 : n % d < d := Nat.mod_lt _ hd.1
  rw [e, nI_toInt (by omega)]
  omega
theorem ba_div {v a b : Int32} {l h : Int} (d : Nat) (e : v = a / b) (ha : l ≤ a.toInt ∧ a.toInt ≤ h) (s : 0 ≤ l) (hb : b = nI d) (hd : 0 < d ∧ d < 2147483648) (H : Int) (hH : h / d ≤ H) : 0 ≤ v.toInt ∧ v.toInt ≤ H := by
  obtain ⟨n, h1, h2, h3⟩ := ix_nI ha s
  rw [h1, hb, pk_div (by omega) hd.1 (by omega)] at e
  have h5 : n / d ≤ n := Nat.div_le_self _ _
  rw [e, nI_toInt (by omega)]
  have h6 : (n : Int) / (d : Int) ≤ h / d := Int.ediv_le_ediv (by omega) (by omega)
  have h7 : ((n / d : Nat) : Int) = (n : Int) / (d : Int) := Int.natCast_ediv n d
  have h8 : (0 : Int) ≤ (n : Int) / (d : Int) := Int.ediv_nonneg (by omega) (by omega)
  generalize (n : Int) / (d : Int) = q at h6 h7 h8
  omega
theorem ba_i2b {v a : Int32} (e : v = a.toInt8.toInt32) : -128 ≤ v.toInt ∧ v.toInt ≤ 127 := by
  rw [e, lg_i2b_toInt]
  have h1 := Int.le_bmod (x := a.toInt) (m := 2 ^ 8) (by decide)
  have h2 := Int.bmod_lt (x := a.toInt) (m := 2 ^ 8) (by decide)
  omega
theorem rd_b {v : Int32} {f : Nat → Int32} {k : Nat} {l h : Int} (e : v = f k) (b : ∀ i, l ≤ (f i).toInt ∧ (f i).toInt ≤ h) : l ≤ v.toInt ∧ v.toInt ≤ h := by rw [e]; exact b k
theorem up_b {f : Nat → Int32} {k : Nat} {x : Int32} {l h : Int} (b : ∀ i, l ≤ (f i).toInt ∧ (f i).toInt ≤ h) (bx : l ≤ x.toInt ∧ x.toInt ≤ h) : ∀ i, l ≤ (upd f k x i).toInt ∧ (upd f k x i).toInt ≤ h := by
  intro i
  unfold upd
  split
  · exact bx
  · exact b i
theorem cp_b {f g : Nat → Int32} {sp dp n : Nat} {l h : Int} (bf : ∀ i, l ≤ (f i).toInt ∧ (f i).toInt ≤ h) (bg : ∀ i, l ≤ (g i).toInt ∧ (g i).toInt ≤ h) : ∀ i, l ≤ (va_cpy f g sp dp n i).toInt ∧ (va_cpy f g sp dp n i).toInt ≤ h := by
  intro i
  unfold va_cpy
  split
  · exact bf _
  · exact bg i
theorem z_b {l h : Int} (s : l ≤ 0 ∧ 0 ≤ h) : ∀ i : Nat, l ≤ ((fun _ => 0 : Nat → Int32) i).toInt ∧ ((fun _ => 0 : Nat → Int32) i).toInt ≤ h := fun _ => s
theorem vi {x : Int32} {l h : Int} {n : Nat} (b : l ≤ x.toInt ∧ x.toInt ≤ h) (s : 0 ≤ l ∧ h < n) : vp_in x n := by
  obtain ⟨k, h1, h2, h3⟩ := ix_nI b s.1
  rw [h1]
  intro q
  rcases q with q | q
  · exact nI_pos h3 q
  · rw [nI_clamp h3] at q
    omega
theorem dc_lt {x y : Int32} {l1 h1 l2 h2 : Int} (a : l1 ≤ x.toInt ∧ x.toInt ≤ h1) (b : l2 ≤ y.toInt ∧ y.toInt ≤ h2) (s : h1 < l2) : x < y := Int32.lt_iff_toInt_lt.mpr (by omega)
theorem dc_nlt {x y : Int32} {l1 h1 l2 h2 : Int} (a : l1 ≤ x.toInt ∧ x.toInt ≤ h1) (b : l2 ≤ y.toInt ∧ y.toInt ≤ h2) (s : h2 ≤ l1) : ¬ x < y := fun q => by
  have := Int32.lt_iff_toInt_lt.mp q
  omega
theorem dc_le {x y : Int32} {l1 h1 l2 h2 : Int} (a : l1 ≤ x.toInt ∧ x.toInt ≤ h1) (b : l2 ≤ y.toInt ∧ y.toInt ≤ h2) (s : h1 ≤ l2) : x ≤ y := Int32.le_iff_toInt_le.mpr (by omega)
theorem dc_nle {x y : Int32} {l1 h1 l2 h2 : Int} (a : l1 ≤ x.toInt ∧ x.toInt ≤ h1) (b : l2 ≤ y.toInt ∧ y.toInt ≤ h2) (s : h2 < l1) : ¬ x ≤ y := fun q => by
  have := Int32.le_iff_toInt_le.mp q
  omega
theorem dc_neq {x y : Int32} {l1 h1 l2 h2 : Int} (a : l1 ≤ x.toInt ∧ x.toInt ≤ h1) (b : l2 ≤ y.toInt ∧ y.toInt ≤ h2) (s : h1 < l2 ∨ h2 < l1) : ¬ x = y := fun q => by
  subst q
  omega
theorem dc_eq {x y : Int32} {c : Int} (a : c ≤ x.toInt ∧ x.toInt ≤ c) (b : c ≤ y.toInt ∧ y.toInt ≤ c) : x = y := Int32.toInt_inj.mp (by omega)
theorem nb_lt {x y : Int32} {l1 h1 l2 h2 : Int} (X Y : Int) (c : x < y) (a : l1 ≤ x.toInt ∧ x.toInt ≤ h1) (b : l2 ≤ y.toInt ∧ y.toInt ≤ h2) (s : (h1 ≤ X ∨ h2 - 1 ≤ X) ∧ (Y ≤ l2 ∨ Y ≤ l1 + 1)) : (l1 ≤ x.toInt ∧ x.toInt ≤ X) ∧ (Y ≤ y.toInt ∧ y.toInt ≤ h2) ∧ x.toInt < y.toInt := by
  have := Int32.lt_iff_toInt_lt.mp c
  omega
theorem nb_nle {x y : Int32} {l1 h1 l2 h2 : Int} (X Y : Int) (c : ¬ y ≤ x) (a : l1 ≤ x.toInt ∧ x.toInt ≤ h1) (b : l2 ≤ y.toInt ∧ y.toInt ≤ h2) (s : (h1 ≤ X ∨ h2 - 1 ≤ X) ∧ (Y ≤ l2 ∨ Y ≤ l1 + 1)) : (l1 ≤ x.toInt ∧ x.toInt ≤ X) ∧ (Y ≤ y.toInt ∧ y.toInt ≤ h2) ∧ x.toInt < y.toInt := nb_lt X Y (Int32.not_le.mp c) a b s
theorem nb_le {x y : Int32} {l1 h1 l2 h2 : Int} (X Y : Int) (c : x ≤ y) (a : l1 ≤ x.toInt ∧ x.toInt ≤ h1) (b : l2 ≤ y.toInt ∧ y.toInt ≤ h2) (s : (h1 ≤ X ∨ h2 ≤ X) ∧ (Y ≤ l2 ∨ Y ≤ l1)) : (l1 ≤ x.toInt ∧ x.toInt ≤ X) ∧ (Y ≤ y.toInt ∧ y.toInt ≤ h2) ∧ x.toInt ≤ y.toInt := by
  have := Int32.le_iff_toInt_le.mp c
  omega
theorem nb_nlt {x y : Int32} {l1 h1 l2 h2 : Int} (X Y : Int) (c : ¬ y < x) (a : l1 ≤ x.toInt ∧ x.toInt ≤ h1) (b : l2 ≤ y.toInt ∧ y.toInt ≤ h2) (s : (h1 ≤ X ∨ h2 ≤ X) ∧ (Y ≤ l2 ∨ Y ≤ l1)) : (l1 ≤ x.toInt ∧ x.toInt ≤ X) ∧ (Y ≤ y.toInt ∧ y.toInt ≤ h2) ∧ x.toInt ≤ y.toInt := nb_le X Y (Int32.not_lt.mp c) a b s
theorem nb_eq {x y : Int32} {l1 h1 l2 h2 : Int} (X Y : Int) (c : x = y) (a : l1 ≤ x.toInt ∧ x.toInt ≤ h1) (b : l2 ≤ y.toInt ∧ y.toInt ≤ h2) (s : (X ≤ l1 ∨ X ≤ l2) ∧ (h1 ≤ Y ∨ h2 ≤ Y)) : (X ≤ x.toInt ∧ x.toInt ≤ Y) ∧ (X ≤ y.toInt ∧ y.toInt ≤ Y) ∧ x.toInt = y.toInt := by
  subst c
  omega
theorem nb_ne {x y : Int32} {l1 h1 k : Int} (X Y : Int) (c : ¬ x = y) (a : l1 ≤ x.toInt ∧ x.toInt ≤ h1) (hk : y.toInt = k) (s : (X ≤ l1 ∨ (X = k + 1 ∧ l1 = k)) ∧ (h1 ≤ Y ∨ (Y = k - 1 ∧ h1 = k))) : (X ≤ x.toInt ∧ x.toInt ≤ Y) ∧ x.toInt ≠ k := by
  have h : x.toInt ≠ k := fun q => c (Int32.toInt_inj.mp (q.trans hk.symm))
  omega
theorem ml_inc {i v : Int32} {hi c : Int} {n : Nat} (hn : (hi - i.toInt).toNat = n) (q : v.toInt = i.toInt + c) (s : 0 < c) (b : v.toInt ≤ hi) : (hi - v.toInt).toNat < n := by omega
theorem ml_dec {i v : Int32} {lo c : Int} {n : Nat} (hn : (i.toInt - lo).toNat = n) (q : v.toInt = i.toInt + c) (s : c < 0) (b : lo ≤ v.toInt) : (v.toInt - lo).toNat < n := by omega
theorem nz_b {v : Int32} (b : 0 ≤ v.toInt ∧ v.toInt ≤ 1) : narrow .boolean (.int v) = .int v := by
  have h : v.toInt = 0 ∨ v.toInt = 1 := by omega
  rcases h with h | h
  · have : v = 0 := Int32.toInt_inj.mp h
    subst this; rfl
  · have : v = 1 := Int32.toInt_inj.mp h
    subst this; rfl
theorem fz_b {v : Int32} (b : 0 ≤ v.toInt ∧ v.toInt ≤ 1) : fits .boolean (.int v) = true := by
  have h : v.toInt = 0 ∨ v.toInt = 1 := by omega
  rcases h with h | h
  · have : v = 0 := Int32.toInt_inj.mp h
    subst this; rfl
  · have : v = 1 := Int32.toInt_inj.mp h
    subst this; rfl
section BCD
variable {p : Program} {l : Launch} {e : Env} {R : Room} {s : State} {m : MethodId} {args : Array Value} {below : List Frame} {meth : Method} {c : Code} {H : Heap} {locs : List Loc} {cells slots : Nat} {Q : State → Prop} {pc : Nat} {g : JFrame}
theorem cutW (pc2 : Nat) (I : Heap → List Loc → Array Slot → List Value → Prop) (hJ : ∀ H locs ls st, I H locs ls st → W p l e R s m args below meth c H locs cells slots Q (F0 m pc2 ls st)) (k : (∀ H locs ls st, I H locs ls st → W p l e R s m args below meth c H locs cells slots Q (F0 m pc2 ls st)) → W p l e R s m args below meth c H locs cells slots Q g) : W p l e R s m args below meth c H locs cells slots Q g := k hJ
theorem loopX (I : Nat → Heap → List Loc → Array Slot → List Value → Prop) (hs : ∀ n, (∀ k, k < n → ∀ H locs ls st, I k H locs ls st → W p l e R s m args below meth c H locs cells slots Q (F0 m pc ls st)) → ∀ H locs ls st, I n H locs ls st → W p l e R s m args below meth c H locs cells slots Q (F0 m pc ls st)) {n : Nat} {ls : Array Slot} {st : List Value} (h : I n H locs ls st) : W p l e R s m args below meth c H locs cells slots Q (F0 m pc ls st) := by
  induction n using Nat.strongRecOn generalizing H locs ls st with
  | ind n ih => exact hs n (fun k hk H locs ls st h => ih k hk h) H locs ls st h
end BCD
theorem ltop (x : Int64) : -9223372036854775808 ≤ x.toInt ∧ x.toInt ≤ 9223372036854775807 := ⟨Int64.minValue_le_toInt x, Int64.toInt_le x⟩
theorem jl_ge {x y : Int64} (h : 0 ≤ lg_cmp x y) : y.toInt ≤ x.toInt := Int64.le_iff_toInt_le.mp ((lg_cmp_ge x y).mp h)
theorem jl_nge {x y : Int64} (h : ¬ 0 ≤ lg_cmp x y) : x.toInt < y.toInt := Int.not_le.mp (fun q => h ((lg_cmp_ge x y).mpr (Int64.le_iff_toInt_le.mpr q)))
theorem jl_le {x y : Int64} (h : lg_cmp x y ≤ 0) : x.toInt ≤ y.toInt := Int64.le_iff_toInt_le.mp ((lg_cmp_le x y).mp h)
theorem jl_nle {x y : Int64} (h : ¬ lg_cmp x y ≤ 0) : y.toInt < x.toInt := Int.not_le.mp (fun q => h ((lg_cmp_le x y).mpr (Int64.le_iff_toInt_le.mpr q)))
theorem nl_lt {x y : Int64} {l h L H k : Int} (n : x.toInt < y.toInt) (b : l ≤ x.toInt ∧ x.toInt ≤ h) (hk : y.toInt = k) (s : L ≤ l ∧ (h ≤ H ∨ k - 1 ≤ H)) : L ≤ x.toInt ∧ x.toInt ≤ H := by omega
theorem nl_le {x y : Int64} {l h L H k : Int} (n : x.toInt ≤ y.toInt) (b : l ≤ x.toInt ∧ x.toInt ≤ h) (hk : y.toInt = k) (s : L ≤ l ∧ (h ≤ H ∨ k ≤ H)) : L ≤ x.toInt ∧ x.toInt ≤ H := by omega
theorem nl_gt {x y : Int64} {l h L H k : Int} (n : y.toInt < x.toInt) (b : l ≤ x.toInt ∧ x.toInt ≤ h) (hk : y.toInt = k) (s : (L ≤ l ∨ L ≤ k + 1) ∧ h ≤ H) : L ≤ x.toInt ∧ x.toInt ≤ H := by omega
theorem nl_ge {x y : Int64} {l h L H k : Int} (n : y.toInt ≤ x.toInt) (b : l ≤ x.toInt ∧ x.toInt ≤ h) (hk : y.toInt = k) (s : (L ≤ l ∨ L ≤ k) ∧ h ≤ H) : L ≤ x.toInt ∧ x.toInt ≤ H := by omega
theorem b_i2l {x : Int32} {l h : Int} (b : l ≤ x.toInt64.toInt ∧ x.toInt64.toInt ≤ h) : l ≤ x.toInt ∧ x.toInt ≤ h := by
  rw [Int32.toInt_toInt64] at b
  exact b
theorem ba_l2i {v : Int32} {x : Int64} {l h : Int} (e : v = x.toInt32) (b : l ≤ x.toInt ∧ x.toInt ≤ h) (s : -2147483648 ≤ l ∧ h ≤ 2147483647) : l ≤ v.toInt ∧ v.toInt ≤ h := by
  rw [e, Int64.toInt_toInt32, bm_id (by omega) (by omega)]
  exact b
theorem b_in {x : Int32} {l h l2 h2 : Int} (a : l ≤ x.toInt ∧ x.toInt ≤ h) (b : l2 ≤ x.toInt ∧ x.toInt ≤ h2) : max l l2 ≤ x.toInt ∧ x.toInt ≤ min h h2 := by omega
theorem bm_min {v x y : Int32} {l1 h1 l2 h2 : Int} (e : v = if y < x then y else x) (a : l1 ≤ x.toInt ∧ x.toInt ≤ h1) (b : l2 ≤ y.toInt ∧ y.toInt ≤ h2) (L H : Int) (s : (L ≤ l1 ∧ L ≤ l2) ∧ (h1 ≤ H ∨ h2 ≤ H)) : L ≤ v.toInt ∧ v.toInt ≤ H := by
  split at e
  · next c => have := Int32.lt_iff_toInt_lt.mp c; rw [e]; omega
  · next c => have := Int.not_lt.mp (fun q => c (Int32.lt_iff_toInt_lt.mpr q)); rw [e]; omega
theorem bm_max {v x y : Int32} {l1 h1 l2 h2 : Int} (e : v = if x < y then y else x) (a : l1 ≤ x.toInt ∧ x.toInt ≤ h1) (b : l2 ≤ y.toInt ∧ y.toInt ≤ h2) (L H : Int) (s : (L ≤ l1 ∨ L ≤ l2) ∧ (h1 ≤ H ∧ h2 ≤ H)) : L ≤ v.toInt ∧ v.toInt ≤ H := by
  split at e
  · next c => have := Int32.lt_iff_toInt_lt.mp c; rw [e]; omega
  · next c => have := Int.not_lt.mp (fun q => c (Int32.lt_iff_toInt_lt.mpr q)); rw [e]; omega
theorem cy_n {n : Int32} {l h : Int} (b : l ≤ n.toInt ∧ n.toInt ≤ h) (s : 0 ≤ l) : ¬ n < 0 := fun q => by
  have := Int32.lt_iff_toInt_lt.mp q
  have h0 : (0 : Int32).toInt = 0 := by decide
  omega
theorem cy_l {n : Int32} {l h : Int} {N : Nat} (b : l ≤ n.toInt ∧ n.toInt ≤ h) (s : 0 ≤ l ∧ h ≤ N) : (0 : Int32).toNatClampNeg + n.toNatClampNeg ≤ N := by
  obtain ⟨k, h1, h2, h3⟩ := ix_nI b s.1
  have h0 : (0 : Int32).toNatClampNeg = 0 := by decide
  rw [h1, nI_clamp h3, h0]
  omega
theorem up_z {f : Nat → Int32} {k : Nat} {x : Int32} (b : ∀ i, (0 : Int) ≤ (f i).toInt ∧ (f i).toInt ≤ 1) (bx : 0 ≤ x.toInt ∧ x.toInt ≤ 1) : ∀ i, (0 : Int) ≤ (upd f k (vp_nar .boolean x) i).toInt ∧ (upd f k (vp_nar .boolean x) i).toInt ≤ 1 := by
  have e : vp_nar .boolean x = x := by
    unfold vp_nar
    rw [nz_b bx]
  rw [e]
  exact up_b b bx
theorem tsw (lo : Int) (n : Nat) (x : Int32) : (∃ j : Nat, j ≤ n ∧ x = Int32.ofInt (lo + j)) ∨ (x.toInt < lo ∨ lo + n < x.toInt) := by
  by_cases h : x.toInt < lo ∨ lo + n < x.toInt
  · exact Or.inr h
  · refine Or.inl ⟨(x.toInt - lo).toNat, by omega, ?_⟩
    rw [show lo + ((x.toInt - lo).toNat : Int) = x.toInt by omega]
    exact (Int32.ofInt_toInt x).symm
theorem ba_ushr {v a b : Int32} {l h : Int} (k : Nat) (e : v = (a.toUInt32 >>> (b.toUInt32 &&& Int32.toUInt32 31)).toInt32) (ha : l ≤ a.toInt ∧ a.toInt ≤ h) (s : 0 ≤ l) (hb : ((b.toUInt32 &&& Int32.toUInt32 31).toBitVec % 32).toNat = k) (L H : Int) (q : L ≤ l / 2 ^ k ∧ h / 2 ^ k ≤ H) : L ≤ v.toInt ∧ v.toInt ≤ H := by
  obtain ⟨n, h1, h2, h3⟩ := ix_nI ha s
  rw [h1, pk_ushrN (by omega) b k hb] at e
  have h5 : n / 2 ^ k ≤ n := Nat.div_le_self _ _
  rw [e, nI_toInt (by omega)]
  have p : ((2 ^ k : Nat) : Int) = 2 ^ k := by rw [Int.natCast_pow]; rfl
  have p0 : (0 : Int) ≤ 2 ^ k := by rw [← p]; exact Int.natCast_nonneg _
  have h6 : (n : Int) / (2 ^ k) ≤ h / 2 ^ k := by
    rw [← p]
    exact Int.ediv_le_ediv (by have := Nat.two_pow_pos k; omega) (by omega)
  have h9 : l / 2 ^ k ≤ (n : Int) / (2 ^ k) := by
    rw [← p]
    exact Int.ediv_le_ediv (by have := Nat.two_pow_pos k; omega) (by omega)
  have h7 : ((n / 2 ^ k : Nat) : Int) = (n : Int) / (2 ^ k) := by rw [Int.natCast_ediv, p]
  omega
set_option maxRecDepth 20000 in
theorem ntz_tab : ∀ n, n < 1024 → 0 < n → ((nI n ^^^ -1) &&& (nI n - 1)).toInt ≤ 511 := by decide +kernel
theorem ntz_b {v a x y : Int32} (e : v = x &&& y) (ex : x = a ^^^ -1) (ey : y = a - 1) (ha : 1 ≤ a.toInt ∧ a.toInt ≤ 1023) (b : 0 ≤ v.toInt ∧ v.toInt ≤ 1022) : 0 ≤ v.toInt ∧ v.toInt ≤ 511 := by
  obtain ⟨n, h1, h2, h3⟩ := ix_nI ha (by decide)
  have := ntz_tab n (by omega) (by omega)
  rw [← h1, ← ex, ← ey, ← e] at this
  omega
section BCcVi
variable {p : Program} {l : Launch} {e : Env} {R : Room} {s : State} {m : MethodId} {args : Array Value} {below : List Frame} {meth : Method} {c : Code} {H : Heap} {locs : List Loc} {cells slots : Nat} {Q : State → Prop} {pc : Nat} {ls : Array Slot} {A : Nat → Prop} {H0 : Heap} {G : va_G} {y : Nat → ClassId} {ws : va_W} {cc : ByteArray} {nL : Nat} {Ts : List Cond} {own : String} {index n mc ms maxL : Nat} {ym : MethodName} {bytes : ByteArray} {ret : Option FieldType} {wsm : List Cond} {rm : Room} {b ci : Nat} {As rest : List Value} {fs : List Value} {q : vw_C}
theorem cVl {post : Int64 → va_W → Prop} (F : CallFix p m c cc nL s args Ts own) (hA : ∀ q, H0.size ≤ q → A q) (hK : kk G y s) (hP : va_P G vwCl ws H) (hD : va_D A ws) (hS : va_S A H0 H locs) (isC isR : List Nat) (WC REST : va_W) (hC : isC.map (fun i => ws[i]?) = WC.map some) (hR : isR.map (fun i => ws[i]?) = REST.map some) (hnC : va_nd isC = true) (hnR : va_nd isR = true) (hdis : ∀ i ∈ isR, i ∉ isC)
    (hM : Met l ym wsm rm (va_Pc (.ref b :: As) (kp G y H.size WC)) (va_Ql post (kq G (va_A WC H.size)) (va_A WC H.size)) mc ms (va_A WC H.size))
    (cw : CallW R s args own q.1 index ym bytes maxL ret wsm rm mc ms n) (hc : vwCl[ci]? = some q) (he : WC[0]? = some (b, .inr (ci, fs))) (hn : As.length = n) (hsz : ls.size = nL) (hrw : (rest.map fun v => v.category).sum ≤ 8) (hdg : decode cc pc = .ok (.invokevirtual index, 3)) (hf : cells + mc ≤ R.cells ∧ slots + ms ≤ R.slots)
    (k : ∀ (r : Int64) (w : va_W) (H1 : Heap) (locs1 : List Loc), post r w → va_P G vwCl (REST ++ w) H1 → va_D A (REST ++ w) → va_S A H0 H1 locs1 → W p l e R s m args below meth c H1 locs1 (cells + mc) (slots + ms) Q (F0 m (pc + 3) ls (.long r :: rest))) :
    W p l e R s m args below meth c H locs cells slots Q (F0 m pc ls (As.reverse ++ .ref b :: rest)) := by
  have hPc := P_map hP isC hC
  have hDc := hD.sub isC hnC hC
  have hFc := va_free hD hS hA isC hC
  refine va_calll (va_runV (As := As) (rest := rest) F hM cw ⟨kp_blind, va_recv hK.1 hPc hc he, fun U hU hW => ⟨rfl, by rw [hU], by rw [hU]; exact hPc, hK.warm hW, hDc.weaken (fun _ _ _ _ => trivial)⟩⟩ rfl hn hsz rfl (lv_room hrw) hdg hf) hS (fun q _ h => hFc q h) hFc (fun r u t H1 locs1 ht hvm hw hB hz1 hk1 hS1 => ?_)
  obtain ⟨hP1, hD1⟩ := hB
  rw [ht] at hP1
  obtain ⟨hP2, hD2⟩ := va_join hP hD isC isR hC hR hnR hdis hk1 hFc hP1 hD1
  exact k r u H1 locs1 hw hP2 hD2 hS1
end BCcVi
section BCcSi
variable {p : Program} {l : Launch} {e : Env} {R : Room} {s : State} {m : MethodId} {args : Array Value} {below : List Frame} {meth : Method} {c : Code} {H : Heap} {locs : List Loc} {cells slots : Nat} {Q : State → Prop} {pc : Nat} {ls : Array Slot} {A : Nat → Prop} {H0 : Heap} {G : va_G} {y : Nat → ClassId} {ws : va_W} {cc : ByteArray} {nL : Nat} {Ts : List Cond} {own : String} {index n mc ms maxL : Nat} {ym : MethodName} {bytes : ByteArray} {ret : Option FieldType} {wsm : List Cond} {rm : Room} {b ci : Nat} {As rest : List Value} {fs : List Value} {q : vw_C}
theorem cSl {post : Int64 → va_W → Prop} (F : CallFix p m c cc nL s args Ts own) (hA : ∀ q, H0.size ≤ q → A q) (hK : kk G y s) (hP : va_P G vwCl ws H) (hD : va_D A ws) (hS : va_S A H0 H locs) (isC isR : List Nat) (WC REST : va_W) (hC : isC.map (fun i => ws[i]?) = WC.map some) (hR : isR.map (fun i => ws[i]?) = REST.map some) (hnC : va_nd isC = true) (hnR : va_nd isR = true) (hdis : ∀ i ∈ isR, i ∉ isC)
    (hM : Met l ym wsm rm (va_Pc As (kp G y H.size WC)) (va_Ql post (kq G (va_A WC H.size)) (va_A WC H.size)) mc ms (va_A WC H.size))
    (cw : CallB R s args own index ym bytes maxL ret wsm rm mc ms n ∧ (Cond.static ym).before args s = true) (hn : As.length = n) (hsz : ls.size = nL) (hrw : (rest.map fun v => v.category).sum ≤ 8) (hdg : decode cc pc = .ok (.invokestatic index, 3)) (hf : cells + mc ≤ R.cells ∧ slots + ms ≤ R.slots)
    (k : ∀ (r : Int64) (w : va_W) (H1 : Heap) (locs1 : List Loc), post r w → va_P G vwCl (REST ++ w) H1 → va_D A (REST ++ w) → va_S A H0 H1 locs1 → W p l e R s m args below meth c H1 locs1 (cells + mc) (slots + ms) Q (F0 m (pc + 3) ls (.long r :: rest))) :
    W p l e R s m args below meth c H locs cells slots Q (F0 m pc ls (As.reverse ++ rest)) := by
  have hPc := P_map hP isC hC
  have hDc := hD.sub isC hnC hC
  have hFc := va_free hD hS hA isC hC
  refine va_calll (va_runS (As := As) (rest := rest) F hM cw ⟨kp_blind, fun U hU hW => ⟨rfl, by rw [hU], by rw [hU]; exact hPc, hK.warm hW, hDc.weaken (fun _ _ _ _ => trivial)⟩⟩ rfl hn hsz rfl (lv_room hrw) hdg hf) hS (fun q _ h => hFc q h) hFc (fun r u t H1 locs1 ht hvm hw hB hz1 hk1 hS1 => ?_)
  obtain ⟨hP1, hD1⟩ := hB
  rw [ht] at hP1
  obtain ⟨hP2, hD2⟩ := va_join hP hD isC isR hC hR hnR hdis hk1 hFc hP1 hD1
  exact k r u H1 locs1 hw hP2 hD2 hS1
end BCcSi
theorem ml_and {i v a b : Int32} {n : Nat} (hn : i.toInt.toNat = n) (e : v = a &&& b) (q : a.toInt = i.toInt - (1 : Int32).toInt) (hi : 1 ≤ i.toInt) : v.toInt.toNat < n := by
  have h1 : (1 : Int32).toInt = 1 := by decide
  have h2 := ba_andl (l := 0) (h := a.toInt) e ⟨by omega, by omega⟩ (by decide)
  omega
def us_ (x y : Int32) : Int32 := (x.toUInt32 >>> (y.toUInt32 &&& Int32.toUInt32 31)).toInt32
def bc1 (i : Int32) : Int32 := i - (us_ i 1 &&& 1431655765)
def bc2 (i : Int32) : Int32 := (i &&& 858993459) + (us_ i 2 &&& 858993459)
def bc3 (i : Int32) : Int32 := (i + us_ i 4) &&& 252645135
def bc4 (i : Int32) : Int32 := i + us_ i 8
def bc5 (i : Int32) : Int32 := i + us_ i 16
def bcf (i : Int32) : Int32 := bc5 (bc4 (bc3 (bc2 (bc1 i)))) &&& 63
theorem bc_tab0 : ∀ a, a < 128 → ∀ b, b < 64 → (bcf (nI (64 * a + b))).toInt ≤ 13 := by decide +kernel
theorem bc_tab (n : Nat) (h : n < 8192) : (bcf (nI n)).toInt ≤ 13 := by
  have := bc_tab0 (n / 64) (by omega) (n % 64) (by omega)
  rw [show 64 * (n / 64) + n % 64 = n by omega] at this
  exact this
theorem bc_b {v a : Int32} (e : v = bcf a) (ha : 0 ≤ a.toInt ∧ a.toInt ≤ 8191) : 0 ≤ v.toInt ∧ v.toInt ≤ 13 := by
  obtain ⟨n, h1, h2, h3⟩ := ix_nI ha (by decide)
  have h4 := bc_tab n (by omega)
  rw [← h1, ← e] at h4
  have h5 : 0 ≤ v.toInt ∧ v.toInt ≤ 63 := ba_andr e (bkc (c := 63) (by decide)) (by decide)
  omega
theorem s_4 {x : Int32} (b : 0 ≤ x.toInt ∧ x.toInt ≤ 3) : x = 0 ∨ x = 1 ∨ x = 2 ∨ x = 3 := by
  have h : x.toInt = 0 ∨ x.toInt = 1 ∨ x.toInt = 2 ∨ x.toInt = 3 := by omega
  rcases h with h | h | h | h
  · exact Or.inl (Int32.toInt_inj.mp h)
  · exact Or.inr (Or.inl (Int32.toInt_inj.mp h))
  · exact Or.inr (Or.inr (Or.inl (Int32.toInt_inj.mp h)))
  · exact Or.inr (Or.inr (Or.inr (Int32.toInt_inj.mp h)))
theorem cy_g {a n : Int32} {l1 h1 l2 h2 : Int} {N : Nat} (b1 : l1 ≤ a.toInt ∧ a.toInt ≤ h1) (b2 : l2 ≤ n.toInt ∧ n.toInt ≤ h2) (s1 : 0 ≤ l1) (s2 : 0 ≤ l2) (h : a.toInt + n.toInt ≤ N) : a.toNatClampNeg + n.toNatClampNeg ≤ N := by
  obtain ⟨k, e1, e2, e3⟩ := ix_nI b1 s1
  obtain ⟨j, f1, f2, f3⟩ := ix_nI b2 s2
  rw [e1, f1, nI_clamp e3, nI_clamp f3]
  omega
theorem bq_inv {v x : Int32} {k l h l2 h2 L H : Int} (q : v.toInt = x.toInt + k) (b : l ≤ v.toInt ∧ v.toInt ≤ h) (a : l2 ≤ x.toInt ∧ x.toInt ≤ h2) (s : (L ≤ l - k ∨ L ≤ l2) ∧ (h - k ≤ H ∨ h2 ≤ H)) : L ≤ x.toInt ∧ x.toInt ≤ H := by omega
theorem ln_q {v : Int32} {n : Nat} (e : v = nI n) (h : n ≤ 60 ∧ 2 ≤ n) : v.toInt = (n : Int) := by rw [e, nI_toInt (by omega)]
theorem ln_b {v : Int32} {n : Nat} (q : v.toInt = (n : Int)) (h : n ≤ 60 ∧ 2 ≤ n) : (2 : Int) ≤ v.toInt ∧ v.toInt ≤ 60 := by omega
theorem i2c_id {x b : Int32} (e : x = b &&& 255) : (x.toUInt32 % 65536).toInt32 = x := by rw [e]; exact sc_c2 _
theorem nc_b {v : Int32} (b : 0 ≤ v.toInt ∧ v.toInt ≤ 255) : narrow .char (.int v) = .int v := by
  obtain ⟨n, h1, h2, h3⟩ := ix_nI b (by decide)
  rw [h1]
  exact (pk_charN (by omega)).1
theorem vi_n {x : Int32} {n : Nat} (h0 : 0 ≤ x.toInt) (h1 : x.toInt < (n : Int)) : vp_in x n := vi (l := x.toInt) (h := x.toInt) ⟨Int.le_refl _, Int.le_refl _⟩ ⟨h0, h1⟩
theorem bq_in1 {v x : Int32} {y l h l2 h2 l3 h3 L H : Int} (q : v.toInt = x.toInt + y) (b : l ≤ v.toInt ∧ v.toInt ≤ h) (a : l2 ≤ x.toInt ∧ x.toInt ≤ h2) (c : l3 ≤ y ∧ y ≤ h3) (s : (L ≤ l - h3 ∨ L ≤ l2) ∧ (h - l3 ≤ H ∨ h2 ≤ H)) : L ≤ x.toInt ∧ x.toInt ≤ H := by omega
theorem bq_in2 {v x : Int32} {y l h l2 h2 l3 h3 L H : Int} (q : v.toInt = y + x.toInt) (b : l ≤ v.toInt ∧ v.toInt ≤ h) (a : l2 ≤ x.toInt ∧ x.toInt ≤ h2) (c : l3 ≤ y ∧ y ≤ h3) (s : (L ≤ l - h3 ∨ L ≤ l2) ∧ (h - l3 ≤ H ∨ h2 ≤ H)) : L ≤ x.toInt ∧ x.toInt ≤ H := by omega
