/-! calls with an unknown rest of the world -/
theorem map_app {X pl : va_W} {is : List Nat} {W : va_W} (h : is.map (fun i => X[i]?) = W.map some) : is.map (fun i => (X ++ pl)[i]?) = W.map some := by
  induction is generalizing W with
  | nil =>
    cases W with
    | nil => rfl
    | cons _ _ => cases h
  | cons a is ih =>
    cases W with
    | nil => cases h
    | cons b W =>
      obtain ⟨h1, h2⟩ := List.cons.inj h
      have h1 : X[a]? = some b := h1
      show (X ++ pl)[a]? :: is.map (fun i => (X ++ pl)[i]?) = some b :: W.map some
      rw [ih h2, List.getElem?_append_left (List.getElem?_eq_some_iff.mp h1).1, h1]
theorem P_mapQ {D : va_G} {cl : List vw_C} {X pl wc : va_W} {H : Heap} (hP : va_P D cl (X ++ pl) H) (is : List Nat) (hC : is.map (fun i => X[i]?) = wc.map some) : va_P D cl (wc ++ pl) H := fun k q hk => hP _ q (va_part is hC k q hk)
theorem P_mem {D : va_G} {cl : List vw_C} {ws : va_W} {H : Heap} : va_P D cl ws H ↔ ∀ q ∈ ws, va_at D cl q H := by
  constructor
  · intro h q hq
    obtain ⟨k, hk⟩ := List.getElem?_of_mem hq
    exact h k q hk
  · intro h k q hk
    exact h q (List.mem_of_getElem? hk)
theorem P_perm {D : va_G} {cl : List vw_C} {a b : va_W} {H : Heap} (h : a.Perm b) (hP : va_P D cl a H) : va_P D cl b H := P_mem.mpr (fun q hq => P_mem.mp hP q (h.mem_iff.mpr hq))
theorem D_nd {A : Nat → Prop} {ws : va_W} : va_D A ws ↔ (ws.map Prod.fst).Nodup ∧ ∀ q ∈ ws, A q.1 := by
  have key : (ws.map Prod.fst).Nodup ↔ ∀ (i j : Nat) (hi : i < ws.length) (hj : j < ws.length), i < j → ws[i].1 ≠ ws[j].1 := by
    rw [List.nodup_iff_pairwise_ne, List.pairwise_iff_getElem]
    constructor
    · intro h i j hi hj hij
      have := h i j (by rw [List.length_map]; exact hi) (by rw [List.length_map]; exact hj) hij
      rw [List.getElem_map, List.getElem_map] at this
      exact this
    · intro h i j hi hj hij
      rw [List.getElem_map, List.getElem_map]
      exact h i j (by rw [List.length_map] at hi; exact hi) (by rw [List.length_map] at hj; exact hj) hij
  constructor
  · intro h
    refine ⟨key.mpr (fun i j hi hj hij e => ?_), fun q hq => ?_⟩
    · have := h.1 i j _ _ (List.getElem?_eq_getElem hi) (List.getElem?_eq_getElem hj) e
      omega
    · obtain ⟨k, hk⟩ := List.getElem?_of_mem hq
      exact h.2 k q hk
  · intro h
    have hn := key.mp h.1
    refine ⟨fun i j p q hi hj e => ?_, fun k q hk => h.2 q (List.mem_of_getElem? hk)⟩
    obtain ⟨li, ei⟩ := List.getElem?_eq_some_iff.mp hi
    obtain ⟨lj, ej⟩ := List.getElem?_eq_some_iff.mp hj
    rcases Nat.lt_trichotomy i j with z | z | z
    · exact absurd (by rw [ei, ej]; exact e) (hn i j li lj z)
    · exact z
    · exact absurd (by rw [ei, ej]; exact e.symm) (hn j i lj li z)
theorem D_perm {A : Nat → Prop} {a b : va_W} (h : a.Perm b) (hD : va_D A a) : va_D A b := by
  have h1 := D_nd.mp hD
  exact D_nd.mpr ⟨(h.map Prod.fst).nodup_iff.mp h1.1, fun q hq => h1.2 q (h.mem_iff.mpr hq)⟩
section BCQ
variable {p : Program} {l : Launch} {e : Env} {R : Room} {s : State} {m : MethodId} {args : Array Value} {below : List Frame} {meth : Method} {c : Code} {H : Heap} {locs : List Loc} {cells slots : Nat} {Q : State → Prop} {pc : Nat} {ls : Array Slot} {A : Nat → Prop} {H0 : Heap} {G : va_G} {y : Nat → ClassId} {ws : va_W} {cc : ByteArray} {nL : Nat} {Ts : List Cond} {own : String} {index n mc ms maxL : Nat} {ym : MethodName} {bytes : ByteArray} {ret : Option FieldType} {wsm : List Cond} {rm : Room} {b ci : Nat} {As rest : List Value} {fs : List Value} {q : vw_C}
variable {X pl : va_W} {aK aV : Nat → Nat}
theorem cVq {post : Int32 → va_W → Prop} (F : CallFix p m c cc nL s args Ts own) (hA : ∀ q, H0.size ≤ q → A q) (hK : kk G y s) (hP : va_P G vwCl (X ++ pl) H) (hD : va_D A (X ++ pl)) (hS : va_S A H0 H locs) (isC isR : List Nat) (WC REST : va_W) (hC : isC.map (fun i => X[i]?) = WC.map some) (hR : isR.map (fun i => X[i]?) = REST.map some) (hnC : va_nd isC = true) (hnR : va_nd isR = true) (hdis : ∀ i ∈ isR, i ∉ isC)
    (hM : Met l ym wsm rm (va_Pc (.ref b :: As) (kp G y H.size WC)) (va_Qi post (kq G (va_A WC H.size)) (va_A WC H.size)) mc ms (va_A WC H.size))
    (cw : CallW R s args own q.1 index ym bytes maxL ret wsm rm mc ms n) (hc : vwCl[ci]? = some q) (he : WC[0]? = some (b, .inr (ci, fs))) (hn : As.length = n) (hsz : ls.size = nL) (hrw : (rest.map fun v => v.category).sum ≤ 8) (hdg : decode cc pc = .ok (.invokevirtual index, 3)) (hf : cells + mc ≤ R.cells ∧ slots + ms ≤ R.slots)
    (k : ∀ (r : Int32) (w : va_W) (H1 : Heap) (locs1 : List Loc), post r w → va_P G vwCl ((REST ++ w) ++ pl) H1 → va_D A ((REST ++ w) ++ pl) → va_S A H0 H1 locs1 → W p l e R s m args below meth c H1 locs1 (cells + mc) (slots + ms) Q (F0 m (pc + 3) ls (.int r :: rest))) :
    W p l e R s m args below meth c H locs cells slots Q (F0 m pc ls (As.reverse ++ .ref b :: rest)) := by
  have hC2 := map_app (pl := pl) hC
  have hPc := P_map hP isC hC2
  have hDc := hD.sub isC hnC hC2
  have hFc := va_free hD hS hA isC hC2
  refine va_calli (va_runV (As := As) (rest := rest) F hM cw ⟨kp_blind, va_recv hK.1 hPc hc he, fun U hU hW => ⟨rfl, by rw [hU], by rw [hU]; exact hPc, hK.warm hW, hDc.weaken (fun _ _ _ _ => trivial)⟩⟩ rfl hn hsz rfl (lv_room hrw) hdg hf) hS (fun q _ h => hFc q h) hFc (fun r u t H1 locs1 ht hvm hw hB hz1 hk1 hS1 => ?_)
  obtain ⟨hP1, hD1⟩ := hB
  rw [ht] at hP1
  obtain ⟨hP2, hD2⟩ := va_joinQ hP hD isC isR hC hR hnR hdis hk1 hFc hP1 hD1
  exact k r u H1 locs1 hw hP2 hD2 hS1
theorem cVqS {post : Int32 → va_W → Prop} (F : CallFix p m c cc nL s args Ts own) (hA : ∀ q, s.heap.size ≤ q → A q) (hK : kk G y s) (hP : va_P G vwCl (X ++ pl) H) (hD : va_D A (X ++ pl)) (hS : va_S A s.heap H locs) (hE : sE aK aV A s s.heap) (isC isR : List Nat) (WC REST : va_W) (hC : isC.map (fun i => X[i]?) = WC.map some) (hR : isR.map (fun i => X[i]?) = REST.map some) (hnC : va_nd isC = true) (hnR : va_nd isR = true) (hdis : ∀ i ∈ isR, i ∉ isC)
    (hM : Met l ym wsm rm (va_Pc (.ref b :: As) (kps G y aK aV H.size WC)) (va_Qi post (kq G (va_A WC H.size)) (va_A WC H.size)) mc ms (va_A WC H.size))
    (cw : CallW R s args own q.1 index ym bytes maxL ret wsm rm mc ms n) (hc : vwCl[ci]? = some q) (he : WC[0]? = some (b, .inr (ci, fs))) (hn : As.length = n) (hsz : ls.size = nL) (hrw : (rest.map fun v => v.category).sum ≤ 8) (hdg : decode cc pc = .ok (.invokevirtual index, 3)) (hf : cells + mc ≤ R.cells ∧ slots + ms ≤ R.slots)
    (k : ∀ (r : Int32) (w : va_W) (H1 : Heap) (locs1 : List Loc), post r w → va_P G vwCl ((REST ++ w) ++ pl) H1 → va_D A ((REST ++ w) ++ pl) → va_S A s.heap H1 locs1 → W p l e R s m args below meth c H1 locs1 (cells + mc) (slots + ms) Q (F0 m (pc + 3) ls (.int r :: rest))) :
    W p l e R s m args below meth c H locs cells slots Q (F0 m pc ls (As.reverse ++ .ref b :: rest)) := by
  have hC2 := map_app (pl := pl) hC
  have hPc := P_map hP isC hC2
  have hDc := hD.sub isC hnC hC2
  have hFc := va_free hD hS hA isC hC2
  refine va_calli (va_runV (As := As) (rest := rest) F hM cw ⟨kps_blind, va_recv hK.1 hPc hc he, fun U hU hW => ⟨rfl, ⟨by rw [hU], by rw [hU]; exact hPc, hK.warm hW, hDc.weaken (fun _ _ _ _ => trivial)⟩, hE.call hS hFc hU hW⟩⟩ rfl hn hsz rfl (lv_room hrw) hdg hf) hS (fun q _ h => hFc q h) hFc (fun r u t H1 locs1 ht hvm hw hB hz1 hk1 hS1 => ?_)
  obtain ⟨hP1, hD1⟩ := hB
  rw [ht] at hP1
  obtain ⟨hP2, hD2⟩ := va_joinQ hP hD isC isR hC hR hnR hdis hk1 hFc hP1 hD1
  exact k r u H1 locs1 hw hP2 hD2 hS1
/-! a call's cells picked out of a world by a mask -/
def msel : List Bool → va_W → va_W
  | true :: m, x :: X => x :: msel m X
  | false :: m, _ :: X => msel m X
  | _, _ => []
def mrst : List Bool → va_W → va_W
  | true :: m, _ :: X => mrst m X
  | false :: m, x :: X => x :: mrst m X
  | _, X => X
def mjn : List Bool → va_W → va_W → va_W
  | true :: m, w :: W, R => w :: mjn m W R
  | false :: m, W, r :: R => r :: mjn m W R
  | _, W, R => W ++ R
theorem msel_p (m : List Bool) : ∀ X : va_W, X.Perm (msel m X ++ mrst m X) := by
  induction m with
  | nil =>
    intro X
    cases X with
    | nil => exact List.Perm.refl _
    | cons x X => exact List.Perm.refl _
  | cons b m ih =>
    intro X
    cases X with
    | nil => cases b <;> exact List.Perm.refl _
    | cons x X =>
      cases b with
      | true => exact (ih X).cons x
      | false => exact ((ih X).cons x).trans List.perm_middle.symm
theorem mjn_p (m : List Bool) : ∀ W R : va_W, (mjn m W R).Perm (W ++ R) := by
  induction m with
  | nil =>
    intro W R
    cases W <;> cases R <;> exact List.Perm.refl _
  | cons b m ih =>
    intro W R
    cases b with
    | true =>
      cases W with
      | nil => cases R <;> exact List.Perm.refl _
      | cons w W => exact (ih W R).cons w
    | false =>
      cases R with
      | nil => cases W <;> exact List.Perm.refl _
      | cons r R => exact ((ih W R).cons r).trans List.perm_middle.symm
theorem rng_map (X : va_W) : (List.range X.length).map (fun i => X[i]?) = X.map some := by
  apply List.ext_getElem?
  intro k
  rw [List.getElem?_map, List.getElem?_map]
  by_cases h : k < X.length
  · rw [List.getElem?_range h]
    show some X[k]? = X[k]?.map some
    rw [List.getElem?_eq_getElem h]
    rfl
  · have h1 : (List.range X.length)[k]? = none := List.getElem?_eq_none (by rw [List.length_range]; omega)
    have h2 : X[k]? = none := List.getElem?_eq_none (by omega)
    rw [h1, h2]
    rfl
theorem nd_of : ∀ {l : List Nat}, l.Nodup → va_nd l = true
  | [], _ => rfl
  | a :: l, h => by
    rw [List.nodup_cons] at h
    show (decide (a ∉ l) && va_nd l) = true
    rw [nd_of h.2, decide_eq_true h.1]
    rfl
theorem mk_perm (m : List Bool) (X pl : va_W) : (X ++ pl).Perm (msel m X ++ (mrst m X ++ pl)) := by
  rw [← List.append_assoc]
  exact (msel_p m X).append_right pl
theorem mk_back (m : List Bool) (w R pl : va_W) : (([] ++ w) ++ (R ++ pl)).Perm (mjn m w R ++ pl) := by
  rw [List.nil_append, ← List.append_assoc]
  exact (mjn_p m w R).symm.append_right pl
theorem cVp {post : Int32 → va_W → Prop} (F : CallFix p m c cc nL s args Ts own) (hA : ∀ q, H0.size ≤ q → A q) (hK : kk G y s) (hP : va_P G vwCl (X ++ pl) H) (hD : va_D A (X ++ pl)) (hS : va_S A H0 H locs) (m9 : List Bool) (WC : va_W) (hC : msel m9 X = WC)
    (hM : Met l ym wsm rm (va_Pc (.ref b :: As) (kp G y H.size WC)) (va_Qi post (kq G (va_A WC H.size)) (va_A WC H.size)) mc ms (va_A WC H.size))
    (cw : CallW R s args own q.1 index ym bytes maxL ret wsm rm mc ms n) (hc : vwCl[ci]? = some q) (he : WC[0]? = some (b, .inr (ci, fs))) (hn : As.length = n) (hsz : ls.size = nL) (hrw : (rest.map fun v => v.category).sum ≤ 8) (hdg : decode cc pc = .ok (.invokevirtual index, 3)) (hf : cells + mc ≤ R.cells ∧ slots + ms ≤ R.slots)
    (k : ∀ (r : Int32) (w : va_W) (H1 : Heap) (locs1 : List Loc), post r w → va_P G vwCl (mjn m9 w (mrst m9 X) ++ pl) H1 → va_D A (mjn m9 w (mrst m9 X) ++ pl) → va_S A H0 H1 locs1 → W p l e R s m args below meth c H1 locs1 (cells + mc) (slots + ms) Q (F0 m (pc + 3) ls (.int r :: rest))) :
    W p l e R s m args below meth c H locs cells slots Q (F0 m pc ls (As.reverse ++ .ref b :: rest)) := by
  subst hC
  exact cVq (X := msel m9 X) (pl := mrst m9 X ++ pl) F hA hK (P_perm (mk_perm m9 X pl) hP) (D_perm (mk_perm m9 X pl) hD) hS (List.range (msel m9 X).length) [] (msel m9 X) [] (rng_map _) rfl (nd_of List.nodup_range) rfl (fun i h => absurd h List.not_mem_nil) hM cw hc he hn hsz hrw hdg hf (fun r w H1 locs1 hw hP3 hD3 hS3 => k r w H1 locs1 hw (P_perm (mk_back m9 w (mrst m9 X) pl) hP3) (D_perm (mk_back m9 w (mrst m9 X) pl) hD3) hS3)
theorem cVpS {post : Int32 → va_W → Prop} (F : CallFix p m c cc nL s args Ts own) (hA : ∀ q, s.heap.size ≤ q → A q) (hK : kk G y s) (hP : va_P G vwCl (X ++ pl) H) (hD : va_D A (X ++ pl)) (hS : va_S A s.heap H locs) (hE : sE aK aV A s s.heap) (m9 : List Bool) (WC : va_W) (hC : msel m9 X = WC)
    (hM : Met l ym wsm rm (va_Pc (.ref b :: As) (kps G y aK aV H.size WC)) (va_Qi post (kq G (va_A WC H.size)) (va_A WC H.size)) mc ms (va_A WC H.size))
    (cw : CallW R s args own q.1 index ym bytes maxL ret wsm rm mc ms n) (hc : vwCl[ci]? = some q) (he : WC[0]? = some (b, .inr (ci, fs))) (hn : As.length = n) (hsz : ls.size = nL) (hrw : (rest.map fun v => v.category).sum ≤ 8) (hdg : decode cc pc = .ok (.invokevirtual index, 3)) (hf : cells + mc ≤ R.cells ∧ slots + ms ≤ R.slots)
    (k : ∀ (r : Int32) (w : va_W) (H1 : Heap) (locs1 : List Loc), post r w → va_P G vwCl (mjn m9 w (mrst m9 X) ++ pl) H1 → va_D A (mjn m9 w (mrst m9 X) ++ pl) → va_S A s.heap H1 locs1 → W p l e R s m args below meth c H1 locs1 (cells + mc) (slots + ms) Q (F0 m (pc + 3) ls (.int r :: rest))) :
    W p l e R s m args below meth c H locs cells slots Q (F0 m pc ls (As.reverse ++ .ref b :: rest)) := by
  subst hC
  exact cVqS (X := msel m9 X) (pl := mrst m9 X ++ pl) F hA hK (P_perm (mk_perm m9 X pl) hP) (D_perm (mk_perm m9 X pl) hD) hS hE (List.range (msel m9 X).length) [] (msel m9 X) [] (rng_map _) rfl (nd_of List.nodup_range) rfl (fun i h => absurd h List.not_mem_nil) hM cw hc he hn hsz hrw hdg hf (fun r w H1 locs1 hw hP3 hD3 hS3 => k r w H1 locs1 hw (P_perm (mk_back m9 w (mrst m9 X) pl) hP3) (D_perm (mk_back m9 w (mrst m9 X) pl) hD3) hS3)
end BCQ
def lk {α : Type} (d : α) : List α → Nat → α
  | [], _ => d
  | a :: _, 0 => a
  | _ :: r, n + 1 => lk d r n
theorem P_td {D : va_G} {cl : List vw_C} {Y pl : va_W} {H : Heap} (n : Nat) (h : va_P D cl (Y ++ pl) H) : va_P D cl ((Y.take n ++ Y.drop n) ++ pl) H := by
  rw [List.take_append_drop]
  exact h
theorem D_td {A : Nat → Prop} {Y pl : va_W} (n : Nat) (h : va_D A (Y ++ pl)) : va_D A ((Y.take n ++ Y.drop n) ++ pl) := by
  rw [List.take_append_drop]
  exact h
set_option maxRecDepth 100000 in
def BC (y : Nat → ClassId) (ob : Nat) (ob_tapeSize : Int32) (ob_slots0_filled : Int32) (ob_slots0_width : Int32) (ob_slots0_size : Int32) (ob_slots1_filled : Int32) (ob_slots1_width : Int32) (ob_slots1_size : Int32) (ob_slots2_filled : Int32) (ob_slots2_width : Int32) (ob_slots2_size : Int32) (ob_slots3_filled : Int32) (ob_slots3_width : Int32) (ob_slots3_size : Int32) (fim : Nat → Option Nat) (w : va_W) : Prop := ∃ (ad : Nat → Nat) (iv : Nat → Int32) (rv : Nat → Nat → Int32) (lw : Nat → Nat → Int64) (tx : Nat → Value), (((0 : Int) ≤ ob_tapeSize.toInt ∧ ob_tapeSize.toInt ≤ 1400) ∧ ((0 : Int) ≤ (iv 7).toInt ∧ (iv 7).toInt ≤ 16) ∧ ((0 : Int) ≤ (iv 10).toInt ∧ (iv 10).toInt ≤ 24) ∧ ((0 : Int) ≤ (iv 11).toInt ∧ (iv 11).toInt ≤ 700) ∧ (∀ i, (0 : Int) ≤ ((rv 13) i).toInt ∧ ((rv 13) i).toInt ≤ 700) ∧ (∀ i, (0 : Int) ≤ ((rv 14) i).toInt ∧ ((rv 14) i).toInt ≤ 700) ∧ ((0 : Int) ≤ (iv 12).toInt ∧ (iv 12).toInt ≤ 1) ∧ ((0 : Int) ≤ (iv 0).toInt ∧ (iv 0).toInt ≤ 3) ∧ ((0 : Int) ≤ (iv 2).toInt ∧ (iv 2).toInt ≤ 1400) ∧ ((0 : Int) ≤ (iv 3).toInt ∧ (iv 3).toInt ≤ 1400) ∧ ((0 : Int) ≤ (iv 4).toInt ∧ (iv 4).toInt ≤ 1400) ∧ ((0 : Int) ≤ (iv 5).toInt ∧ (iv 5).toInt ≤ 4) ∧ ((0 : Int) ≤ (iv 6).toInt ∧ (iv 6).toInt ≤ 1000000) ∧ ((0 : Int) ≤ (iv 15).toInt ∧ (iv 15).toInt ≤ 16) ∧ ((0 : Int) ≤ (iv 18).toInt ∧ (iv 18).toInt ≤ 24) ∧ ((0 : Int) ≤ (iv 19).toInt ∧ (iv 19).toInt ≤ 700) ∧ (∀ i, (0 : Int) ≤ ((rv 29) i).toInt ∧ ((rv 29) i).toInt ≤ 700) ∧ (∀ i, (0 : Int) ≤ ((rv 30) i).toInt ∧ ((rv 30) i).toInt ≤ 700) ∧ ((0 : Int) ≤ (iv 20).toInt ∧ (iv 20).toInt ≤ 1) ∧ ((0 : Int) ≤ (iv 21).toInt ∧ (iv 21).toInt ≤ 600) ∧ (∀ i, (0 : Int) ≤ ((rv 34) i).toInt ∧ ((rv 34) i).toInt ≤ 15) ∧ ((0 : Int) ≤ (iv 22).toInt ∧ (iv 22).toInt ≤ 600) ∧ (∀ i, (0 : Int) ≤ ((rv 40) i).toInt ∧ ((rv 40) i).toInt ≤ 15) ∧ (∀ i, (0 : Int) ≤ ((rv 41) i).toInt ∧ ((rv 41) i).toInt ≤ 15) ∧ ((0 : Int) ≤ (iv 13).toInt ∧ (iv 13).toInt ≤ 399) ∧ ((0 : Int) ≤ ob_slots0_filled.toInt ∧ ob_slots0_filled.toInt ≤ 1) ∧ ((0 : Int) ≤ ob_slots0_size.toInt ∧ ob_slots0_size.toInt ≤ 60) ∧ ((0 : Int) ≤ ob_slots1_filled.toInt ∧ ob_slots1_filled.toInt ≤ 1) ∧ ((0 : Int) ≤ ob_slots1_size.toInt ∧ ob_slots1_size.toInt ≤ 60) ∧ ((0 : Int) ≤ ob_slots2_filled.toInt ∧ ob_slots2_filled.toInt ≤ 1) ∧ ((0 : Int) ≤ ob_slots2_size.toInt ∧ ob_slots2_size.toInt ≤ 60) ∧ ((0 : Int) ≤ ob_slots3_filled.toInt ∧ ob_slots3_filled.toInt ≤ 1) ∧ ((0 : Int) ≤ ob_slots3_size.toInt ∧ ob_slots3_size.toInt ≤ 60) ∧ ((0 : Int) ≤ (iv 23).toInt ∧ (iv 23).toInt ≤ 1) ∧ ((0 : Int) ≤ (iv 26).toInt ∧ (iv 26).toInt ≤ 10) ∧ ((0 : Int) ≤ (iv 29).toInt ∧ (iv 29).toInt ≤ 10) ∧ (∀ i, (0 : Int) ≤ ((rv 47) i).toInt ∧ ((rv 47) i).toInt ≤ 15) ∧ ((0 : Int) ≤ (iv 30).toInt ∧ (iv 30).toInt ≤ 1) ∧ ((-1 : Int) ≤ (iv 31).toInt ∧ (iv 31).toInt ≤ 16) ∧ ((0 : Int) ≤ (iv 34).toInt ∧ (iv 34).toInt ≤ 13) ∧ (∀ i, (0 : Int) ≤ ((rv 57) i).toInt ∧ ((rv 57) i).toInt ≤ 15) ∧ (∀ i, (0 : Int) ≤ ((rv 60) i).toInt ∧ ((rv 60) i).toInt ≤ 8191) ∧ (∀ i, (0 : Int) ≤ ((rv 61) i).toInt ∧ ((rv 61) i).toInt ≤ 13) ∧ ((0 : Int) ≤ (iv 35).toInt ∧ (iv 35).toInt ≤ 600) ∧ (∀ i, (0 : Int) ≤ ((rv 63) i).toInt ∧ ((rv 63) i).toInt ≤ 15) ∧ True) ∧ w = [(ob, .inr (9, [.ref (ad 0), .int ob_tapeSize, .ref (ad 1), .ref (ad 2), .ref (ad 3), .ref (ad 4), .ref (ad 5), .ref (ad 6), .ref (ad 7), .ref (ad 8)])), ((ad 0), .inl (y 0, 1400, .inl (rv 0))), ((ad 1), .inr (3, [.ref (ad 9), .ref (ad 10), .int (iv 0), .int (iv 1), (tx 0), .int (iv 2), .int (iv 3), .int (iv 4), .int (iv 5), .int (iv 6)])), ((ad 9), .inr (7, [.int (iv 7), .int (iv 8), .int (iv 9), .ref (ad 11), .ref (ad 12), .ref (ad 13), .ref (ad 14), .ref (ad 15), .ref (ad 16), .ref (ad 17), .ref (ad 18), .ref (ad 19)])), ((ad 11), .inl (y 1, 16, .inl (rv 1))), ((ad 12), .inl (y 1, 16, .inl (rv 2))), ((ad 13), .inl (y 1, 16, .inl (rv 3))), ((ad 14), .inl (y 1, 16, .inl (rv 4))), ((ad 15), .inl (y 1, 16, .inl (rv 5))), ((ad 16), .inl (y 1, 16, .inl (rv 6))), ((ad 17), .inl (y 1, 16, .inl (rv 7))), ((ad 18), .inl (y 1, 16, .inl (rv 8))), ((ad 19), .inl (y 1, 16, .inl (rv 9))), ((ad 10), .inr (0, [.int (iv 10), .int (iv 11), .ref (ad 20), .ref (ad 21), .ref (ad 22), .ref (ad 23), .ref (ad 24), .ref (ad 25), .ref (ad 26), .int (iv 12)])), ((ad 20), .inl (y 1, 24, .inl (rv 10))), ((ad 21), .inl (y 1, 24, .inl (rv 11))), ((ad 22), .inl (y 1, 24, .inl (rv 12))), ((ad 23), .inl (y 1, 24, .inl (rv 13))), ((ad 24), .inl (y 1, 24, .inl (rv 14))), ((ad 25), .inl (y 1, 700, .inl (rv 15))), ((ad 26), .inl (y 1, 5, .inl (rv 16))), ((ad 2), .inr (6, [.ref (ad 27), .ref (ad 28), .ref (ad 29), .ref (ad 30), .ref (ad 31), .int (iv 13), .int (iv 14), .ref (ad 32)])), ((ad 27), .inr (7, [.int (iv 15), .int (iv 16), .int (iv 17), .ref (ad 33), .ref (ad 34), .ref (ad 35), .ref (ad 36), .ref (ad 37), .ref (ad 38), .ref (ad 39), .ref (ad 40), .ref (ad 41)])), ((ad 33), .inl (y 1, 16, .inl (rv 17))), ((ad 34), .inl (y 1, 16, .inl (rv 18))), ((ad 35), .inl (y 1, 16, .inl (rv 19))), ((ad 36), .inl (y 1, 16, .inl (rv 20))), ((ad 37), .inl (y 1, 16, .inl (rv 21))), ((ad 38), .inl (y 1, 16, .inl (rv 22))), ((ad 39), .inl (y 1, 16, .inl (rv 23))), ((ad 40), .inl (y 1, 16, .inl (rv 24))), ((ad 41), .inl (y 1, 16, .inl (rv 25))), ((ad 28), .inr (0, [.int (iv 18), .int (iv 19), .ref (ad 42), .ref (ad 43), .ref (ad 44), .ref (ad 45), .ref (ad 46), .ref (ad 47), .ref (ad 48), .int (iv 20)])), ((ad 42), .inl (y 1, 24, .inl (rv 26))), ((ad 43), .inl (y 1, 24, .inl (rv 27))), ((ad 44), .inl (y 1, 24, .inl (rv 28))), ((ad 45), .inl (y 1, 24, .inl (rv 29))), ((ad 46), .inl (y 1, 24, .inl (rv 30))), ((ad 47), .inl (y 1, 700, .inl (rv 31))), ((ad 48), .inl (y 1, 5, .inl (rv 32))), ((ad 29), .inr (1, [.int (iv 21), .ref (ad 49), .ref (ad 50), .ref (ad 51), .ref (ad 52), .ref (ad 53), .ref (ad 54), .ref (ad 55)])), ((ad 49), .inl (y 1, 600, .inl (rv 33))), ((ad 50), .inl (y 1, 600, .inl (rv 34))), ((ad 51), .inl (y 1, 600, .inl (rv 35))), ((ad 52), .inl (y 1, 600, .inl (rv 36))), ((ad 53), .inl (y 1, 600, .inl (rv 37))), ((ad 54), .inl (y 1, 16, .inl (rv 38))), ((ad 55), .inl (y 1, 256, .inl (rv 39))), ((ad 30), .inr (2, [.int (iv 22), .ref (ad 56), .ref (ad 57), .ref (ad 58), .ref (ad 59)])), ((ad 56), .inl (y 1, 600, .inl (rv 40))), ((ad 57), .inl (y 1, 600, .inl (rv 41))), ((ad 58), .inl (y 1, 600, .inl (rv 42))), ((ad 59), .inl (y 1, 600, .inl (rv 43))), ((ad 31), .inl (y 1, 16, .inl (rv 44))), ((ad 32), .inl (y 1, 16, .inl (rv 45))), ((ad 4), .inl (y 4, 4, .inr (.inr (.inr (.inr (va_up (va_up (va_up (va_up (fun _ => none) 0 (some (ad 60))) 1 (some (ad 61))) 2 (some (ad 62))) 3 (some (ad 63)))))))), ((ad 60), .inr (5, [.int ob_slots0_filled, .int ob_slots0_width, .int ob_slots0_size, .ref (ad 64)])), ((ad 64), .inl (y 2, 60, .inr (.inl (lw 0)))), ((ad 61), .inr (5, [.int ob_slots1_filled, .int ob_slots1_width, .int ob_slots1_size, .ref (ad 65)])), ((ad 65), .inl (y 2, 60, .inr (.inl (lw 1)))), ((ad 62), .inr (5, [.int ob_slots2_filled, .int ob_slots2_width, .int ob_slots2_size, .ref (ad 66)])), ((ad 66), .inl (y 2, 60, .inr (.inl (lw 2)))), ((ad 63), .inr (5, [.int ob_slots3_filled, .int ob_slots3_width, .int ob_slots3_size, .ref (ad 67)])), ((ad 67), .inl (y 2, 60, .inr (.inl (lw 3)))), ((ad 5), .inr (4, [.int (iv 23), .int (iv 24), .int (iv 25), .int (iv 26), .ref (ad 68), .int (iv 27), .int (iv 28), .int (iv 29), .ref (ad 69), .ref (ad 70), .ref (ad 71), .ref (ad 72), .ref (ad 73), .ref (ad 74), .ref (ad 75), .ref (ad 76), .ref (ad 77)])), ((ad 68), .inl (y 1, 10, .inl (rv 46))), ((ad 69), .inl (y 1, 10, .inl (rv 47))), ((ad 70), .inl (y 1, 10, .inl (rv 48))), ((ad 71), .inl (y 1, 16, .inl (rv 49))), ((ad 72), .inl (y 1, 16, .inl (rv 50))), ((ad 73), .inl (y 1, 16, .inl (rv 51))), ((ad 74), .inl (y 1, 256, .inl (rv 52))), ((ad 75), .inl (y 1, 10240, .inl (rv 53))), ((ad 76), .inl (y 1, 1024, .inl (rv 54))), ((ad 77), .inl (y 1, 1024, .inl (rv 55))), ((ad 6), .inr (8, [.int (iv 30), .int (iv 31), .ref (ad 78), .int (iv 32), .int (iv 33), .int (iv 34), .ref (ad 79), .ref (ad 80), .ref (ad 81), .ref (ad 82), .ref (ad 83)])), ((ad 78), .inl (y 1, 16, .inl (rv 56))), ((ad 79), .inl (y 1, 13, .inl (rv 57))), ((ad 80), .inl (y 1, 13, .inl (rv 58))), ((ad 81), .inl (y 1, 13, .inl (rv 59))), ((ad 82), .inl (y 1, 8192, .inl (rv 60))), ((ad 83), .inl (y 1, 8192, .inl (rv 61))), ((ad 7), .inr (1, [.int (iv 35), .ref (ad 84), .ref (ad 85), .ref (ad 86), .ref (ad 87), .ref (ad 88), .ref (ad 89), .ref (ad 90)])), ((ad 84), .inl (y 1, 600, .inl (rv 62))), ((ad 85), .inl (y 1, 600, .inl (rv 63))), ((ad 86), .inl (y 1, 600, .inl (rv 64))), ((ad 87), .inl (y 1, 600, .inl (rv 65))), ((ad 88), .inl (y 1, 600, .inl (rv 66))), ((ad 89), .inl (y 1, 16, .inl (rv 67))), ((ad 90), .inl (y 1, 256, .inl (rv 68))), ((ad 8), .inl (y 1, 16, .inl (rv 69))), ((ad 3), .inl (y 5, 3, .inr (.inr (.inr (.inr fim)))))]
set_option maxRecDepth 100000 in
def SI (y : Nat → ClassId) (im : Nat) (w : va_W) : Prop := ∃ (ad2 : Nat → Nat) (iv2 : Nat → Int32) (rv2 : Nat → Nat → Int32) (lw2 : Nat → Nat → Int64) (tx2 : Nat → Value), (((0 : Int) ≤ (iv2 2).toInt ∧ (iv2 2).toInt ≤ 16) ∧ ((0 : Int) ≤ (iv2 5).toInt ∧ (iv2 5).toInt ≤ 24) ∧ ((0 : Int) ≤ (iv2 6).toInt ∧ (iv2 6).toInt ≤ 700) ∧ (∀ i, (0 : Int) ≤ ((rv2 12) i).toInt ∧ ((rv2 12) i).toInt ≤ 700) ∧ (∀ i, (0 : Int) ≤ ((rv2 13) i).toInt ∧ ((rv2 13) i).toInt ≤ 700) ∧ ((0 : Int) ≤ (iv2 7).toInt ∧ (iv2 7).toInt ≤ 1) ∧ ((0 : Int) ≤ (iv2 8).toInt ∧ (iv2 8).toInt ≤ 600) ∧ (∀ i, (0 : Int) ≤ ((rv2 17) i).toInt ∧ ((rv2 17) i).toInt ≤ 15) ∧ ((0 : Int) ≤ (iv2 9).toInt ∧ (iv2 9).toInt ≤ 600) ∧ (∀ i, (0 : Int) ≤ ((rv2 23) i).toInt ∧ ((rv2 23) i).toInt ≤ 15) ∧ (∀ i, (0 : Int) ≤ ((rv2 24) i).toInt ∧ ((rv2 24) i).toInt ≤ 15) ∧ ((0 : Int) ≤ (iv2 0).toInt ∧ (iv2 0).toInt ≤ 399) ∧ True) ∧ w = [(im, .inr (6, [.ref (ad2 0), .ref (ad2 1), .ref (ad2 2), .ref (ad2 3), .ref (ad2 4), .int (iv2 0), .int (iv2 1), .ref (ad2 5)])), ((ad2 0), .inr (7, [.int (iv2 2), .int (iv2 3), .int (iv2 4), .ref (ad2 6), .ref (ad2 7), .ref (ad2 8), .ref (ad2 9), .ref (ad2 10), .ref (ad2 11), .ref (ad2 12), .ref (ad2 13), .ref (ad2 14)])), ((ad2 6), .inl (y 1, 16, .inl (rv2 0))), ((ad2 7), .inl (y 1, 16, .inl (rv2 1))), ((ad2 8), .inl (y 1, 16, .inl (rv2 2))), ((ad2 9), .inl (y 1, 16, .inl (rv2 3))), ((ad2 10), .inl (y 1, 16, .inl (rv2 4))), ((ad2 11), .inl (y 1, 16, .inl (rv2 5))), ((ad2 12), .inl (y 1, 16, .inl (rv2 6))), ((ad2 13), .inl (y 1, 16, .inl (rv2 7))), ((ad2 14), .inl (y 1, 16, .inl (rv2 8))), ((ad2 1), .inr (0, [.int (iv2 5), .int (iv2 6), .ref (ad2 15), .ref (ad2 16), .ref (ad2 17), .ref (ad2 18), .ref (ad2 19), .ref (ad2 20), .ref (ad2 21), .int (iv2 7)])), ((ad2 15), .inl (y 1, 24, .inl (rv2 9))), ((ad2 16), .inl (y 1, 24, .inl (rv2 10))), ((ad2 17), .inl (y 1, 24, .inl (rv2 11))), ((ad2 18), .inl (y 1, 24, .inl (rv2 12))), ((ad2 19), .inl (y 1, 24, .inl (rv2 13))), ((ad2 20), .inl (y 1, 700, .inl (rv2 14))), ((ad2 21), .inl (y 1, 5, .inl (rv2 15))), ((ad2 2), .inr (1, [.int (iv2 8), .ref (ad2 22), .ref (ad2 23), .ref (ad2 24), .ref (ad2 25), .ref (ad2 26), .ref (ad2 27), .ref (ad2 28)])), ((ad2 22), .inl (y 1, 600, .inl (rv2 16))), ((ad2 23), .inl (y 1, 600, .inl (rv2 17))), ((ad2 24), .inl (y 1, 600, .inl (rv2 18))), ((ad2 25), .inl (y 1, 600, .inl (rv2 19))), ((ad2 26), .inl (y 1, 600, .inl (rv2 20))), ((ad2 27), .inl (y 1, 16, .inl (rv2 21))), ((ad2 28), .inl (y 1, 256, .inl (rv2 22))), ((ad2 3), .inr (2, [.int (iv2 9), .ref (ad2 29), .ref (ad2 30), .ref (ad2 31), .ref (ad2 32)])), ((ad2 29), .inl (y 1, 600, .inl (rv2 23))), ((ad2 30), .inl (y 1, 600, .inl (rv2 24))), ((ad2 31), .inl (y 1, 600, .inl (rv2 25))), ((ad2 32), .inl (y 1, 600, .inl (rv2 26))), ((ad2 4), .inl (y 1, 16, .inl (rv2 27))), ((ad2 5), .inl (y 1, 16, .inl (rv2 28)))]
set_option maxRecDepth 100000 in
def BM (y : Nat → ClassId) (ob : Nat) (ob_taped : Int32) (fob_many : Nat → Int32) (fob_width : Nat → Int32) (fob_hasImage : Nat → Int32) (w : va_W) : Prop := ∃ (ad : Nat → Nat) (iv : Nat → Int32) (rv : Nat → Nat → Int32) (lw : Nat → Nat → Int64) (tx : Nat → Value), ((RWw (rv 0)) ∧ (RIw (rv 1)) ∧ (∀ i, (0 : Int) ≤ (fob_hasImage i).toInt ∧ (fob_hasImage i).toInt ≤ 1) ∧ ((0 : Int) ≤ ob_taped.toInt ∧ ob_taped.toInt ≤ 1400) ∧ ((0 : Int) ≤ (iv 1).toInt ∧ (iv 1).toInt ≤ 1400) ∧ ((0 : Int) ≤ (iv 2).toInt ∧ (iv 2).toInt ≤ 1400) ∧ ((0 : Int) ≤ (iv 3).toInt ∧ (iv 3).toInt ≤ 1400) ∧ ((0 : Int) ≤ (iv 4).toInt ∧ (iv 4).toInt ≤ 4) ∧ ((0 : Int) ≤ (iv 5).toInt ∧ (iv 5).toInt ≤ 9999) ∧ ((0 : Int) ≤ (iv 6).toInt ∧ (iv 6).toInt ≤ 3) ∧ (∀ i, (0 : Int) ≤ ((rv 6) i).toInt ∧ ((rv 6) i).toInt ≤ 15) ∧ ((0 : Int) ≤ (iv 8).toInt ∧ (iv 8).toInt ≤ 10) ∧ (∀ i, (0 : Int) ≤ ((rv 8) i).toInt ∧ ((rv 8) i).toInt ≤ 1) ∧ (∀ i, (-1 : Int) ≤ ((rv 9) i).toInt ∧ ((rv 9) i).toInt ≤ 180) ∧ ((0 : Int) ≤ (iv 9).toInt ∧ (iv 9).toInt ≤ 1023) ∧ ((-1 : Int) ≤ (iv 10).toInt ∧ (iv 10).toInt ≤ 180) ∧ (∀ i, (0 : Int) ≤ ((rv 11) i).toInt ∧ ((rv 11) i).toInt ≤ 959) ∧ ((0 : Int) ≤ (iv 12).toInt ∧ (iv 12).toInt ≤ 10) ∧ (∀ i, (0 : Int) ≤ ((rv 13) i).toInt ∧ ((rv 13) i).toInt ≤ 1023) ∧ (∀ i, (0 : Int) ≤ ((rv 14) i).toInt ∧ ((rv 14) i).toInt ≤ 65535) ∧ (∀ i, (0 : Int) ≤ ((rv 17) i).toInt ∧ ((rv 17) i).toInt ≤ 1) ∧ ((0 : Int) ≤ (iv 13).toInt ∧ (iv 13).toInt ≤ 16) ∧ (∀ i, (0 : Int) ≤ ((rv 19) i).toInt ∧ ((rv 19) i).toInt ≤ 65535) ∧ (∀ i, (-1 : Int) ≤ (fob_many i).toInt ∧ (fob_many i).toInt ≤ 60) ∧ (∀ i, (0 : Int) ≤ (fob_width i).toInt ∧ (fob_width i).toInt ≤ 3) ∧ True) ∧ w = [(ob, .inr (10, [.int (iv 0), .ref (ad 0), .ref (ad 1), .ref (ad 2), .ref (ad 3), .int ob_taped, .ref (ad 4), .int (iv 1), .int (iv 2), .int (iv 3), .int (iv 4), .int (iv 5), .int (iv 6), .int (iv 7), .ref (ad 5), .ref (ad 6), .ref (ad 7), .int (iv 8), .ref (ad 8), .ref (ad 9), .ref (ad 10), .int (iv 9), .int (iv 10), .int (iv 11), .ref (ad 11), .ref (ad 12), .int (iv 12), .ref (ad 13), .ref (ad 14), .ref (ad 15), .ref (ad 16), .ref (ad 17), .ref (ad 18), .ref (ad 19), .int (iv 13), .ref (ad 20), .ref (ad 21), .ref (ad 22), .ref (ad 23), .ref (ad 24), .ref (ad 25)])), ((ad 0), .inl (y 1, 9080, .inl (rv 0))), ((ad 1), .inl (y 1, 27240, .inl (rv 1))), ((ad 2), .inl (y 3, 3, .inl fob_hasImage)), ((ad 3), .inl (y 0, 1400, .inl (rv 2))), ((ad 4), .inl (y 1, 5, .inl (rv 3))), ((ad 5), .inl (y 1, 9080, .inl (rv 4))), ((ad 6), .inl (y 1, 6, .inl (rv 5))), ((ad 7), .inl (y 1, 16, .inl (rv 6))), ((ad 8), .inl (y 1, 16, .inl (rv 7))), ((ad 9), .inl (y 3, 16, .inl (rv 8))), ((ad 10), .inl (y 1, 10240, .inl (rv 9))), ((ad 11), .inl (y 1, 10, .inl (rv 10))), ((ad 12), .inl (y 1, 10, .inl (rv 11))), ((ad 13), .inl (y 1, 1024, .inl (rv 12))), ((ad 14), .inl (y 1, 1024, .inl (rv 13))), ((ad 15), .inl (y 1, 65536, .inl (rv 14))), ((ad 16), .inl (y 1, 65536, .inl (rv 15))), ((ad 17), .inl (y 1, 65536, .inl (rv 16))), ((ad 18), .inl (y 3, 65536, .inl (rv 17))), ((ad 19), .inl (y 1, 16, .inl (rv 18))), ((ad 20), .inl (y 1, 16, .inl (rv 19))), ((ad 21), .inl (y 1, 9080, .inl (rv 20))), ((ad 22), .inl (y 1, 4, .inl fob_many)), ((ad 23), .inl (y 1, 4, .inl fob_width)), ((ad 24), .inl (y 2, 240, .inr (.inl (lw 0)))), ((ad 25), .inl (y 2, 60, .inr (.inl (lw 1))))]
def lawC (p : Program) (s : State) (m : MethodId) (meth : Method) (c : Code) (b L : Nat) (xs : Nat → Int32) (A : Nat → Prop) (G : va_G) (y : Nat → ClassId) (aK aV : Nat → Nat) : Prop := p.tables.exec = Jvm.exec ∧ c.code = cL_law ∧ meth.sig.returnType = ret ∧ c.maxLocals = 4 ∧ s.vm.findClass RL = some m.cls ∧ (∀ w ∈ wAll, w.before #[Value.ref b] s = true) ∧ va_X b L xs s s.heap ∧ b < s.heap.size ∧ ¬ A b ∧ (∀ q : Nat, s.heap.size ≤ q → A q) ∧ (∀ q : Nat, A q → s.heap.size ≤ q) ∧ meth.locks = false ∧ kk G y s ∧ sE aK aV A s s.heap ∧ L ≤ 3072
