/-! the String constants: an environment that no call changes -/
def sL : List (String × Nat × String × Nat) := [("CardBowl$Reader", 58, "house know new introduce sent card call dinner", 0), ("CardBowl$Reader", 145, "owes", 1), ("CardBowl$Reader", 152, "sent card call dinner", 2), ("CardBowl$Reader", 154, "within", 3), ("CardBowl$Reader", 164, "if", 4), ("CardBowl$Reader", 172, "mine theirs debts day known", 5), ("CardBowl$Reader", 177, "plus minus times more less same and", 6), ("CardBowl$Reader", 95, "at", 7), ("CardBowl$Reader", 107, "rank", 8), ("CardBowl$Reader", 111, "home", 9), ("CardBowl$Reader", 116, "sun mon tue wed thu fri sat", 10), ("CardBowl$Reader", 127, "came", 11), ("CardBowl$Reader", 135, "bride", 12), ("CardBowlModel", 197, "sent", 13), ("CardBowlModel", 199, "card", 14), ("CardBowlModel", 201, "call", 15), ("CardBowlModel", 203, "dinner", 16), ("CardBowlModel", 266, "house", 17), ("CardBowlModel", 268, "know", 18), ("CardBowlModel", 270, "new", 19), ("CardBowlModel", 272, "introduce", 20), ("CardBowlModel", 255, "owes", 21), ("CardBowlModel", 257, "within", 22), ("CardBowlModel", 259, "if", 23), ("CardBowlModel", 224, "mine", 24), ("CardBowlModel", 226, "theirs", 25), ("CardBowlModel", 228, "debts", 26), ("CardBowlModel", 230, "day", 27), ("CardBowlModel", 232, "known", 28), ("CardBowlModel", 237, "plus", 29), ("CardBowlModel", 239, "minus", 30), ("CardBowlModel", 241, "times", 31), ("CardBowlModel", 246, "more", 32), ("CardBowlModel", 248, "less", 33), ("CardBowlModel", 250, "same", 34), ("CardBowlModel", 264, "and", 35), ("CardBowlModel", 205, "at", 36), ("CardBowlModel", 210, "rank", 37), ("CardBowlModel", 212, "home", 38), ("CardBowlModel", 183, "sun", 39), ("CardBowlModel", 185, "mon", 40), ("CardBowlModel", 187, "tue", 41), ("CardBowlModel", 189, "wed", 42), ("CardBowlModel", 191, "thu", 43), ("CardBowlModel", 193, "fri", 44), ("CardBowlModel", 195, "sat", 45), ("CardBowlModel", 220, "came", 46), ("CardBowlModel", 222, "bride", 47)]
def nS : Nat := 48
def lenS : List Nat := [46, 4, 21, 6, 2, 27, 35, 2, 4, 4, 27, 4, 5, 4, 4, 4, 6, 5, 4, 3, 9, 4, 6, 2, 4, 6, 5, 3, 5, 4, 5, 5, 4, 4, 4, 3, 2, 4, 4, 3, 3, 3, 3, 3, 3, 3, 4, 5]
def bytS : List (List Int32) := [[104, 111, 117, 115, 101, 32, 107, 110, 111, 119, 32, 110, 101, 119, 32, 105, 110, 116, 114, 111, 100, 117, 99, 101, 32, 115, 101, 110, 116, 32, 99, 97, 114, 100, 32, 99, 97, 108, 108, 32, 100, 105, 110, 110, 101, 114], [111, 119, 101, 115], [115, 101, 110, 116, 32, 99, 97, 114, 100, 32, 99, 97, 108, 108, 32, 100, 105, 110, 110, 101, 114], [119, 105, 116, 104, 105, 110], [105, 102], [109, 105, 110, 101, 32, 116, 104, 101, 105, 114, 115, 32, 100, 101, 98, 116, 115, 32, 100, 97, 121, 32, 107, 110, 111, 119, 110], [112, 108, 117, 115, 32, 109, 105, 110, 117, 115, 32, 116, 105, 109, 101, 115, 32, 109, 111, 114, 101, 32, 108, 101, 115, 115, 32, 115, 97, 109, 101, 32, 97, 110, 100], [97, 116], [114, 97, 110, 107], [104, 111, 109, 101], [115, 117, 110, 32, 109, 111, 110, 32, 116, 117, 101, 32, 119, 101, 100, 32, 116, 104, 117, 32, 102, 114, 105, 32, 115, 97, 116], [99, 97, 109, 101], [98, 114, 105, 100, 101], [115, 101, 110, 116], [99, 97, 114, 100], [99, 97, 108, 108], [100, 105, 110, 110, 101, 114], [104, 111, 117, 115, 101], [107, 110, 111, 119], [110, 101, 119], [105, 110, 116, 114, 111, 100, 117, 99, 101], [111, 119, 101, 115], [119, 105, 116, 104, 105, 110], [105, 102], [109, 105, 110, 101], [116, 104, 101, 105, 114, 115], [100, 101, 98, 116, 115], [100, 97, 121], [107, 110, 111, 119, 110], [112, 108, 117, 115], [109, 105, 110, 117, 115], [116, 105, 109, 101, 115], [109, 111, 114, 101], [108, 101, 115, 115], [115, 97, 109, 101], [97, 110, 100], [97, 116], [114, 97, 110, 107], [104, 111, 109, 101], [115, 117, 110], [109, 111, 110], [116, 117, 101], [119, 101, 100], [116, 104, 117], [102, 114, 105], [115, 97, 116], [99, 97, 109, 101], [98, 114, 105, 100, 101]]
theorem lenS_b : ∀ i, i < nS → lenS.getD i 0 ≤ 60 ∧ 2 ≤ lenS.getD i 0 := by decide +kernel
def sE1 (n : Nat) (b : List Int32) (k v : Nat) (A : Nat → Prop) (U : State) (H : Heap) : Prop := va_O "java/lang/String" k A U H ∧ va_OF "java/lang/String" "coder" "B" (.int 0) k A U H ∧ va_OF "java/lang/String" "value" "[B" (.ref v) k A U H ∧ va_T .byte v n (fun j => .int (b.getD j 0)) A U H
def sE (aK aV : Nat → Nat) (A : Nat → Prop) (U : State) (H : Heap) : Prop := (∀ i, i < nS → sE1 (lenS.getD i 0) (bytS.getD i []) (aK i) (aV i) A U H) ∧ (∀ q ∈ sL, vk_R q.1 q.2.1 q.2.2.1 (aK q.2.2.2) U) ∧ va_Z "java/lang/String" "COMPACT_STRINGS" "Z" (.int 1) A U H ∧ ∃ bf : Value, (bf = .null ∨ ∃ q, bf = .ref q) ∧ va_Z "jdk/internal/util/Preconditions" "SIOOBE_FORMATTER" "Ljava/util/function/BiFunction;" bf A U H
theorem sE.call {aK aV : Nat → Nat} {A B : Nat → Prop} {s U : State} {H : Heap} {locs : List Loc} (h : sE aK aV A s s.heap) (hS : va_S A s.heap H locs) (hF : ∀ q, B q → A q) (hU : U.heap = H) (hW : s.WarmedH U.vm) : sE aK aV B U U.heap := by
  rw [hU]
  refine ⟨fun i hi => ?_, fun q hq => vk_R.warm hW (h.2.1 q hq), ((h.2.2.1.kept hS.2.1).narrow hF).moved hW.alike, ?_⟩
  rotate_left
  · obtain ⟨bf, hb, hz⟩ := h.2.2.2
    exact ⟨bf, hb, ((hz.kept hS.2.1).narrow hF).moved hW.alike⟩
  obtain ⟨h1, h2, h3, h4⟩ := h.1 i hi
  exact ⟨((h1.kept hS.2.1).narrow hF).moved hW.alike, ((h2.kept hS.2.1).narrow hF).moved hW.alike, ((h3.kept hS.2.1).narrow hF).moved hW.alike, ((h4.kept hS.2.1).narrow hF).moved hW.alike⟩
theorem sE.called {aK aV : Nat → Nat} {A : Nat → Prop} {U : State} (g : JFrame) (mk : MethodId) (a : Array Value) (h : sE aK aV A U U.heap) : sE aK aV A (U.calling g mk a) (U.calling g mk a).heap := by
  have r : U.vm.Alike (U.calling g mk a).vm := Vm.Alike.refl U.vm
  refine ⟨fun i hi => ?_, fun q hq => vk_R.same (u := U) rfl (h.2.1 q hq), va_Z.moved r h.2.2.1, ?_⟩
  rotate_left
  · obtain ⟨bf, hb, hz⟩ := h.2.2.2
    exact ⟨bf, hb, va_Z.moved r hz⟩
  obtain ⟨h1, h2, h3, h4⟩ := h.1 i hi
  exact ⟨va_O.moved r h1, va_OF.moved r h2, va_OF.moved r h3, va_T.moved r h4⟩
abbrev kps (G : va_G) (y : Nat → ClassId) (aK aV : Nat → Nat) (sz : Nat) (ws : va_W) (U : State) : Prop := kp G y sz ws U ∧ sE aK aV (va_A ws sz) U U.heap
theorem kps_blind {G : va_G} {y : Nat → ClassId} {aK aV : Nat → Nat} {sz : Nat} {ws : va_W} {av : List Value} : FrameBlind (va_Pc av (kps G y aK aV sz ws)) := fun a U g mk q => by
  obtain ⟨q0, q1, q2⟩ := q
  exact ⟨q0, (kp_blind (av := av) a U g mk ⟨q0, q1⟩).2, q2.called g mk a⟩
theorem byt_all : ∀ l ∈ bytS, ∀ b ∈ l, b &&& 255 = b := by decide +kernel
theorem byt_and (i k : Nat) : (bytS.getD i []).getD k 0 &&& 255 = (bytS.getD i []).getD k 0 := by
  have h0 : (0 : Int32) &&& 255 = 0 := by decide
  by_cases h1 : i < bytS.length
  · have e1 : bytS.getD i [] = bytS[i] := by simp [List.getD, h1]
    rw [e1]
    by_cases h2 : k < (bytS[i]).length
    · have e2 : (bytS[i]).getD k 0 = (bytS[i])[k] := by simp [List.getD, h2]
      rw [e2]
      exact byt_all _ (List.getElem_mem h1) _ (List.getElem_mem h2)
    · have e2 : (bytS[i]).getD k 0 = 0 := by simp [List.getD, h2]
      rw [e2, h0]
  · have e1 : bytS.getD i [] = [] := by simp [List.getD, h1]
    rw [e1]
    exact h0
theorem ch_eq {u v a : Int32} {i : Nat} {l h : Int} (eu : u = v &&& 255) (ev : v = (bytS.getD i []).getD a.toNatClampNeg 0) (ha : l ≤ a.toInt ∧ a.toInt ≤ h) (s : 0 ≤ l := by decide) : u = (bytS.getD i []).getD a.toInt.toNat 0 := by
  obtain ⟨n, e1, e2, e3⟩ := ix_nI ha s
  have e4 : a.toNatClampNeg = a.toInt.toNat := by rw [← e2, e1, nI_clamp e3]; rfl
  rw [eu, ev, byt_and, e4]
section BCS
variable {p : Program} {l : Launch} {e : Env} {R : Room} {s : State} {m : MethodId} {args : Array Value} {below : List Frame} {meth : Method} {c : Code} {H : Heap} {locs : List Loc} {cells slots : Nat} {Q : State → Prop} {pc : Nat} {ls : Array Slot} {A : Nat → Prop} {H0 : Heap} {G : va_G} {y : Nat → ClassId} {ws : va_W} {cc : ByteArray} {nL : Nat} {Ts : List Cond} {own : String} {index n mc ms maxL : Nat} {ym : MethodName} {bytes : ByteArray} {ret : Option FieldType} {wsm : List Cond} {rm : Room} {b ci : Nat} {As rest : List Value} {fs : List Value} {q : vw_C}
variable {aK aV : Nat → Nat}
theorem cViS {post : Int32 → va_W → Prop} (F : CallFix p m c cc nL s args Ts own) (hA : ∀ q, s.heap.size ≤ q → A q) (hK : kk G y s) (hP : va_P G vwCl ws H) (hD : va_D A ws) (hS : va_S A s.heap H locs) (hE : sE aK aV A s s.heap) (isC isR : List Nat) (WC REST : va_W) (hC : isC.map (fun i => ws[i]?) = WC.map some) (hR : isR.map (fun i => ws[i]?) = REST.map some) (hnC : va_nd isC = true) (hnR : va_nd isR = true) (hdis : ∀ i ∈ isR, i ∉ isC)
    (hM : Met l ym wsm rm (va_Pc (.ref b :: As) (kps G y aK aV H.size WC)) (va_Qi post (kq G (va_A WC H.size)) (va_A WC H.size)) mc ms (va_A WC H.size))
    (cw : CallW R s args own q.1 index ym bytes maxL ret wsm rm mc ms n) (hc : vwCl[ci]? = some q) (he : WC[0]? = some (b, .inr (ci, fs))) (hn : As.length = n) (hsz : ls.size = nL) (hrw : (rest.map fun v => v.category).sum ≤ 8) (hdg : decode cc pc = .ok (.invokevirtual index, 3)) (hf : cells + mc ≤ R.cells ∧ slots + ms ≤ R.slots)
    (k : ∀ (r : Int32) (w : va_W) (H1 : Heap) (locs1 : List Loc), post r w → va_P G vwCl (REST ++ w) H1 → va_D A (REST ++ w) → va_S A s.heap H1 locs1 → W p l e R s m args below meth c H1 locs1 (cells + mc) (slots + ms) Q (F0 m (pc + 3) ls (.int r :: rest))) :
    W p l e R s m args below meth c H locs cells slots Q (F0 m pc ls (As.reverse ++ .ref b :: rest)) := by
  have hPc := P_map hP isC hC
  have hDc := hD.sub isC hnC hC
  have hFc := va_free hD hS hA isC hC
  refine va_calli (va_runV (As := As) (rest := rest) F hM cw ⟨kps_blind, va_recv hK.1 hPc hc he, fun U hU hW => ⟨rfl, ⟨by rw [hU], by rw [hU]; exact hPc, hK.warm hW, hDc.weaken (fun _ _ _ _ => trivial)⟩, hE.call hS hFc hU hW⟩⟩ rfl hn hsz rfl (lv_room hrw) hdg hf) hS (fun q _ h => hFc q h) hFc (fun r u t H1 locs1 ht hvm hw hB hz1 hk1 hS1 => ?_)
  obtain ⟨hP1, hD1⟩ := hB
  rw [ht] at hP1
  obtain ⟨hP2, hD2⟩ := va_join hP hD isC isR hC hR hnR hdis hk1 hFc hP1 hD1
  exact k r u H1 locs1 hw hP2 hD2 hS1
theorem cVvS {post : va_W → Prop} (F : CallFix p m c cc nL s args Ts own) (hA : ∀ q, s.heap.size ≤ q → A q) (hK : kk G y s) (hP : va_P G vwCl ws H) (hD : va_D A ws) (hS : va_S A s.heap H locs) (hE : sE aK aV A s s.heap) (isC isR : List Nat) (WC REST : va_W) (hC : isC.map (fun i => ws[i]?) = WC.map some) (hR : isR.map (fun i => ws[i]?) = REST.map some) (hnC : va_nd isC = true) (hnR : va_nd isR = true) (hdis : ∀ i ∈ isR, i ∉ isC)
    (hM : Met l ym wsm rm (va_Pc (.ref b :: As) (kps G y aK aV H.size WC)) (va_Qv post (kq G (va_A WC H.size)) (va_A WC H.size)) mc ms (va_A WC H.size))
    (cw : CallW R s args own q.1 index ym bytes maxL ret wsm rm mc ms n) (hc : vwCl[ci]? = some q) (he : WC[0]? = some (b, .inr (ci, fs))) (hn : As.length = n) (hsz : ls.size = nL) (hrw : (rest.map fun v => v.category).sum ≤ 8) (hdg : decode cc pc = .ok (.invokevirtual index, 3)) (hf : cells + mc ≤ R.cells ∧ slots + ms ≤ R.slots)
    (k : ∀ (w : va_W) (H1 : Heap) (locs1 : List Loc), post w → va_P G vwCl (REST ++ w) H1 → va_D A (REST ++ w) → va_S A s.heap H1 locs1 → W p l e R s m args below meth c H1 locs1 (cells + mc) (slots + ms) Q (F0 m (pc + 3) ls rest)) :
    W p l e R s m args below meth c H locs cells slots Q (F0 m pc ls (As.reverse ++ .ref b :: rest)) := by
  have hPc := P_map hP isC hC
  have hDc := hD.sub isC hnC hC
  have hFc := va_free hD hS hA isC hC
  refine va_callv (va_runV (As := As) (rest := rest) F hM cw ⟨kps_blind, va_recv hK.1 hPc hc he, fun U hU hW => ⟨rfl, ⟨by rw [hU], by rw [hU]; exact hPc, hK.warm hW, hDc.weaken (fun _ _ _ _ => trivial)⟩, hE.call hS hFc hU hW⟩⟩ rfl hn hsz rfl (lv_room hrw) hdg hf) hS (fun q _ h => hFc q h) hFc (fun u t H1 locs1 ht hvm hw hB hz1 hk1 hS1 => ?_)
  obtain ⟨hP1, hD1⟩ := hB
  rw [ht] at hP1
  obtain ⟨hP2, hD2⟩ := va_join hP hD isC isR hC hR hnR hdis hk1 hFc hP1 hD1
  exact k u H1 locs1 hw hP2 hD2 hS1
theorem cSiS {post : Int32 → va_W → Prop} (F : CallFix p m c cc nL s args Ts own) (hA : ∀ q, s.heap.size ≤ q → A q) (hK : kk G y s) (hP : va_P G vwCl ws H) (hD : va_D A ws) (hS : va_S A s.heap H locs) (hE : sE aK aV A s s.heap) (isC isR : List Nat) (WC REST : va_W) (hC : isC.map (fun i => ws[i]?) = WC.map some) (hR : isR.map (fun i => ws[i]?) = REST.map some) (hnC : va_nd isC = true) (hnR : va_nd isR = true) (hdis : ∀ i ∈ isR, i ∉ isC)
    (hM : Met l ym wsm rm (va_Pc As (kps G y aK aV H.size WC)) (va_Qi post (kq G (va_A WC H.size)) (va_A WC H.size)) mc ms (va_A WC H.size))
    (cw : CallB R s args own index ym bytes maxL ret wsm rm mc ms n ∧ (Cond.static ym).before args s = true) (hn : As.length = n) (hsz : ls.size = nL) (hrw : (rest.map fun v => v.category).sum ≤ 8) (hdg : decode cc pc = .ok (.invokestatic index, 3)) (hf : cells + mc ≤ R.cells ∧ slots + ms ≤ R.slots)
    (k : ∀ (r : Int32) (w : va_W) (H1 : Heap) (locs1 : List Loc), post r w → va_P G vwCl (REST ++ w) H1 → va_D A (REST ++ w) → va_S A s.heap H1 locs1 → W p l e R s m args below meth c H1 locs1 (cells + mc) (slots + ms) Q (F0 m (pc + 3) ls (.int r :: rest))) :
    W p l e R s m args below meth c H locs cells slots Q (F0 m pc ls (As.reverse ++ rest)) := by
  have hPc := P_map hP isC hC
  have hDc := hD.sub isC hnC hC
  have hFc := va_free hD hS hA isC hC
  refine va_calli (va_runS (As := As) (rest := rest) F hM cw ⟨kps_blind, fun U hU hW => ⟨rfl, ⟨by rw [hU], by rw [hU]; exact hPc, hK.warm hW, hDc.weaken (fun _ _ _ _ => trivial)⟩, hE.call hS hFc hU hW⟩⟩ rfl hn hsz rfl (lv_room hrw) hdg hf) hS (fun q _ h => hFc q h) hFc (fun r u t H1 locs1 ht hvm hw hB hz1 hk1 hS1 => ?_)
  obtain ⟨hP1, hD1⟩ := hB
  rw [ht] at hP1
  obtain ⟨hP2, hD2⟩ := va_join hP hD isC isR hC hR hnR hdis hk1 hFc hP1 hD1
  exact k r u H1 locs1 hw hP2 hD2 hS1
theorem cSvS {post : va_W → Prop} (F : CallFix p m c cc nL s args Ts own) (hA : ∀ q, s.heap.size ≤ q → A q) (hK : kk G y s) (hP : va_P G vwCl ws H) (hD : va_D A ws) (hS : va_S A s.heap H locs) (hE : sE aK aV A s s.heap) (isC isR : List Nat) (WC REST : va_W) (hC : isC.map (fun i => ws[i]?) = WC.map some) (hR : isR.map (fun i => ws[i]?) = REST.map some) (hnC : va_nd isC = true) (hnR : va_nd isR = true) (hdis : ∀ i ∈ isR, i ∉ isC)
    (hM : Met l ym wsm rm (va_Pc As (kps G y aK aV H.size WC)) (va_Qv post (kq G (va_A WC H.size)) (va_A WC H.size)) mc ms (va_A WC H.size))
    (cw : CallB R s args own index ym bytes maxL ret wsm rm mc ms n ∧ (Cond.static ym).before args s = true) (hn : As.length = n) (hsz : ls.size = nL) (hrw : (rest.map fun v => v.category).sum ≤ 8) (hdg : decode cc pc = .ok (.invokestatic index, 3)) (hf : cells + mc ≤ R.cells ∧ slots + ms ≤ R.slots)
    (k : ∀ (w : va_W) (H1 : Heap) (locs1 : List Loc), post w → va_P G vwCl (REST ++ w) H1 → va_D A (REST ++ w) → va_S A s.heap H1 locs1 → W p l e R s m args below meth c H1 locs1 (cells + mc) (slots + ms) Q (F0 m (pc + 3) ls rest)) :
    W p l e R s m args below meth c H locs cells slots Q (F0 m pc ls (As.reverse ++ rest)) := by
  have hPc := P_map hP isC hC
  have hDc := hD.sub isC hnC hC
  have hFc := va_free hD hS hA isC hC
  refine va_callv (va_runS (As := As) (rest := rest) F hM cw ⟨kps_blind, fun U hU hW => ⟨rfl, ⟨by rw [hU], by rw [hU]; exact hPc, hK.warm hW, hDc.weaken (fun _ _ _ _ => trivial)⟩, hE.call hS hFc hU hW⟩⟩ rfl hn hsz rfl (lv_room hrw) hdg hf) hS (fun q _ h => hFc q h) hFc (fun u t H1 locs1 ht hvm hw hB hz1 hk1 hS1 => ?_)
  obtain ⟨hP1, hD1⟩ := hB
  rw [ht] at hP1
  obtain ⟨hP2, hD2⟩ := va_join hP hD isC isR hC hR hnR hdis hk1 hFc hP1 hD1
  exact k u H1 locs1 hw hP2 hD2 hS1
theorem sE.recv {i : Nat} {b : Nat} (hE : sE aK aV A s s.heap) (hi : i < nS) (hb : b = aK i) (hS : va_S A s.heap H locs) : ∃ cell : Cell, H[b]? = some cell ∧ cell.vm.isStatics = false ∧ s.vm.findClass "java/lang/String" = some cell.cls := by
  subst hb
  obtain ⟨cell, h1, h2, h3, -⟩ := (hE.1 i hi).1.kept hS.2.1
  exact ⟨cell, h1, h2, h3⟩
theorem cQi {post : Int32 → va_W → Prop} (F : CallFix p m c cc nL s args Ts own) (hA : ∀ q, s.heap.size ≤ q → A q) (hK : kk G y s) (hP : va_P G vwCl ws H) (hD : va_D A ws) (hS : va_S A s.heap H locs) (hE : sE aK aV A s s.heap) (isC isR : List Nat) (WC REST : va_W) (hC : isC.map (fun i => ws[i]?) = WC.map some) (hR : isR.map (fun i => ws[i]?) = REST.map some) (hnC : va_nd isC = true) (hnR : va_nd isR = true) (hdis : ∀ i ∈ isR, i ∉ isC)
    (hM : Met l ym wsm rm (va_Pc (.ref b :: As) (kps G y aK aV H.size WC)) (va_Qi post (kq G (va_A WC H.size)) (va_A WC H.size)) mc ms (va_A WC H.size))
    (cw : CallW R s args own "java/lang/String" index ym bytes maxL ret wsm rm mc ms n) {i9 : Nat} (hi9 : i9 < nS) (hb9 : b = aK i9) (hn : As.length = n) (hsz : ls.size = nL) (hrw : (rest.map fun v => v.category).sum ≤ 8) (hdg : decode cc pc = .ok (.invokevirtual index, 3)) (hf : cells + mc ≤ R.cells ∧ slots + ms ≤ R.slots)
    (k : ∀ (r : Int32) (w : va_W) (H1 : Heap) (locs1 : List Loc), post r w → va_P G vwCl (REST ++ w) H1 → va_D A (REST ++ w) → va_S A s.heap H1 locs1 → W p l e R s m args below meth c H1 locs1 (cells + mc) (slots + ms) Q (F0 m (pc + 3) ls (.int r :: rest))) :
    W p l e R s m args below meth c H locs cells slots Q (F0 m pc ls (As.reverse ++ .ref b :: rest)) := by
  have hPc := P_map hP isC hC
  have hDc := hD.sub isC hnC hC
  have hFc := va_free hD hS hA isC hC
  refine va_calli (va_runV (As := As) (rest := rest) F hM cw ⟨kps_blind, sE.recv hE hi9 hb9 hS, fun U hU hW => ⟨rfl, ⟨by rw [hU], by rw [hU]; exact hPc, hK.warm hW, hDc.weaken (fun _ _ _ _ => trivial)⟩, hE.call hS hFc hU hW⟩⟩ rfl hn hsz rfl (lv_room hrw) hdg hf) hS (fun q _ h => hFc q h) hFc (fun r u t H1 locs1 ht hvm hw hB hz1 hk1 hS1 => ?_)
  obtain ⟨hP1, hD1⟩ := hB
  rw [ht] at hP1
  obtain ⟨hP2, hD2⟩ := va_join hP hD isC isR hC hR hnR hdis hk1 hFc hP1 hD1
  exact k r u H1 locs1 hw hP2 hD2 hS1
end BCS
