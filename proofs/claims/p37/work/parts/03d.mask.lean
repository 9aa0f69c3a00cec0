def ce_X0 (a : Nat) (x0 : Int32) (x1 : Int32) (x2 : Nat) (x3 : Nat) (x4 : Nat) (x5 : Nat) (x6 : Nat) (x7 : Nat) (x8 : Nat) (x9 : Int32) : Nat × va_E := (a, .inr (0, [.int x0, .int x1, .ref x2, .ref x3, .ref x4, .ref x5, .ref x6, .ref x7, .ref x8, .int x9]))
def ce_X1 (a : Nat) (x0 : Int32) (x1 : Nat) (x2 : Nat) (x3 : Nat) (x4 : Nat) (x5 : Nat) (x6 : Nat) (x7 : Nat) : Nat × va_E := (a, .inr (1, [.int x0, .ref x1, .ref x2, .ref x3, .ref x4, .ref x5, .ref x6, .ref x7]))
def ce_X10 (a : Nat) (x0 : Int32) (x1 : Nat) (x2 : Nat) (x3 : Nat) (x4 : Nat) (x5 : Int32) (x6 : Nat) (x7 : Int32) (x8 : Int32) (x9 : Int32) (x10 : Int32) (x11 : Int32) (x12 : Int32) (x13 : Int32) (x14 : Nat) (x15 : Nat) (x16 : Nat) (x17 : Int32) (x18 : Nat) (x19 : Nat) (x20 : Nat) (x21 : Int32) (x22 : Int32) (x23 : Int32) (x24 : Nat) (x25 : Nat) (x26 : Int32) (x27 : Nat) (x28 : Nat) (x29 : Nat) (x30 : Nat) (x31 : Nat) (x32 : Nat) (x33 : Nat) (x34 : Int32) (x35 : Nat) (x36 : Nat) (x37 : Nat) (x38 : Nat) (x39 : Nat) (x40 : Nat) : Nat × va_E := (a, .inr (10, [.int x0, .ref x1, .ref x2, .ref x3, .ref x4, .int x5, .ref x6, .int x7, .int x8, .int x9, .int x10, .int x11, .int x12, .int x13, .ref x14, .ref x15, .ref x16, .int x17, .ref x18, .ref x19, .ref x20, .int x21, .int x22, .int x23, .ref x24, .ref x25, .int x26, .ref x27, .ref x28, .ref x29, .ref x30, .ref x31, .ref x32, .ref x33, .int x34, .ref x35, .ref x36, .ref x37, .ref x38, .ref x39, .ref x40]))
def ce_X2 (a : Nat) (x0 : Int32) (x1 : Nat) (x2 : Nat) (x3 : Nat) (x4 : Nat) : Nat × va_E := (a, .inr (2, [.int x0, .ref x1, .ref x2, .ref x3, .ref x4]))
def ce_X3 (a : Nat) (x0 : Nat) (x1 : Nat) (x2 : Int32) (x3 : Int32) (x4 : Nat) (x5 : Int32) (x6 : Int32) (x7 : Int32) (x8 : Int32) (x9 : Int32) : Nat × va_E := (a, .inr (3, [.ref x0, .ref x1, .int x2, .int x3, .ref x4, .int x5, .int x6, .int x7, .int x8, .int x9]))
def ce_X4 (a : Nat) (x0 : Int32) (x1 : Int32) (x2 : Int32) (x3 : Int32) (x4 : Nat) (x5 : Int32) (x6 : Int32) (x7 : Int32) (x8 : Nat) (x9 : Nat) (x10 : Nat) (x11 : Nat) (x12 : Nat) (x13 : Nat) (x14 : Nat) (x15 : Nat) (x16 : Nat) : Nat × va_E := (a, .inr (4, [.int x0, .int x1, .int x2, .int x3, .ref x4, .int x5, .int x6, .int x7, .ref x8, .ref x9, .ref x10, .ref x11, .ref x12, .ref x13, .ref x14, .ref x15, .ref x16]))
def ce_X5 (a : Nat) (x0 : Int32) (x1 : Int32) (x2 : Int32) (x3 : Nat) : Nat × va_E := (a, .inr (5, [.int x0, .int x1, .int x2, .ref x3]))
def ce_X6 (a : Nat) (x0 : Nat) (x1 : Nat) (x2 : Nat) (x3 : Nat) (x4 : Nat) (x5 : Int32) (x6 : Int32) (x7 : Nat) : Nat × va_E := (a, .inr (6, [.ref x0, .ref x1, .ref x2, .ref x3, .ref x4, .int x5, .int x6, .ref x7]))
def ce_X7 (a : Nat) (x0 : Int32) (x1 : Int32) (x2 : Int32) (x3 : Nat) (x4 : Nat) (x5 : Nat) (x6 : Nat) (x7 : Nat) (x8 : Nat) (x9 : Nat) (x10 : Nat) (x11 : Nat) : Nat × va_E := (a, .inr (7, [.int x0, .int x1, .int x2, .ref x3, .ref x4, .ref x5, .ref x6, .ref x7, .ref x8, .ref x9, .ref x10, .ref x11]))
def ce_X8 (a : Nat) (x0 : Int32) (x1 : Int32) (x2 : Nat) (x3 : Int32) (x4 : Int32) (x5 : Int32) (x6 : Nat) (x7 : Nat) (x8 : Nat) (x9 : Nat) (x10 : Nat) : Nat × va_E := (a, .inr (8, [.int x0, .int x1, .ref x2, .int x3, .int x4, .int x5, .ref x6, .ref x7, .ref x8, .ref x9, .ref x10]))
def ce_X9 (a : Nat) (x0 : Nat) (x1 : Int32) (x2 : Nat) (x3 : Nat) (x4 : Nat) (x5 : Nat) (x6 : Nat) (x7 : Nat) (x8 : Nat) (x9 : Nat) : Nat × va_E := (a, .inr (9, [.ref x0, .int x1, .ref x2, .ref x3, .ref x4, .ref x5, .ref x6, .ref x7, .ref x8, .ref x9]))
def ce_b1400 (y : Nat → ClassId) (a : Nat) (f : Nat → Int32) : Nat × va_E := (a, .inl (y 0, 1400, .inl f))
def ce_i10 (y : Nat → ClassId) (a : Nat) (f : Nat → Int32) : Nat × va_E := (a, .inl (y 1, 10, .inl f))
def ce_i1024 (y : Nat → ClassId) (a : Nat) (f : Nat → Int32) : Nat × va_E := (a, .inl (y 1, 1024, .inl f))
def ce_i10240 (y : Nat → ClassId) (a : Nat) (f : Nat → Int32) : Nat × va_E := (a, .inl (y 1, 10240, .inl f))
def ce_i13 (y : Nat → ClassId) (a : Nat) (f : Nat → Int32) : Nat × va_E := (a, .inl (y 1, 13, .inl f))
def ce_i16 (y : Nat → ClassId) (a : Nat) (f : Nat → Int32) : Nat × va_E := (a, .inl (y 1, 16, .inl f))
def ce_i24 (y : Nat → ClassId) (a : Nat) (f : Nat → Int32) : Nat × va_E := (a, .inl (y 1, 24, .inl f))
def ce_i256 (y : Nat → ClassId) (a : Nat) (f : Nat → Int32) : Nat × va_E := (a, .inl (y 1, 256, .inl f))
def ce_i27240 (y : Nat → ClassId) (a : Nat) (f : Nat → Int32) : Nat × va_E := (a, .inl (y 1, 27240, .inl f))
def ce_i4 (y : Nat → ClassId) (a : Nat) (f : Nat → Int32) : Nat × va_E := (a, .inl (y 1, 4, .inl f))
def ce_i5 (y : Nat → ClassId) (a : Nat) (f : Nat → Int32) : Nat × va_E := (a, .inl (y 1, 5, .inl f))
def ce_i6 (y : Nat → ClassId) (a : Nat) (f : Nat → Int32) : Nat × va_E := (a, .inl (y 1, 6, .inl f))
def ce_i600 (y : Nat → ClassId) (a : Nat) (f : Nat → Int32) : Nat × va_E := (a, .inl (y 1, 600, .inl f))
def ce_i65536 (y : Nat → ClassId) (a : Nat) (f : Nat → Int32) : Nat × va_E := (a, .inl (y 1, 65536, .inl f))
def ce_i700 (y : Nat → ClassId) (a : Nat) (f : Nat → Int32) : Nat × va_E := (a, .inl (y 1, 700, .inl f))
def ce_i8192 (y : Nat → ClassId) (a : Nat) (f : Nat → Int32) : Nat × va_E := (a, .inl (y 1, 8192, .inl f))
def ce_i9080 (y : Nat → ClassId) (a : Nat) (f : Nat → Int32) : Nat × va_E := (a, .inl (y 1, 9080, .inl f))
def ce_l240 (y : Nat → ClassId) (a : Nat) (f : Nat → Int64) : Nat × va_E := (a, .inl (y 2, 240, .inr (.inl f)))
def ce_l60 (y : Nat → ClassId) (a : Nat) (f : Nat → Int64) : Nat × va_E := (a, .inl (y 2, 60, .inr (.inl f)))
def ce_q4 (y : Nat → ClassId) (a : Nat) (f : Nat → Option Nat) : Nat × va_E := (a, .inl (y 4, 4, .inr (.inr (.inr (.inr f)))))
def ce_s3 (y : Nat → ClassId) (a : Nat) (f : Nat → Option Nat) : Nat × va_E := (a, .inl (y 5, 3, .inr (.inr (.inr (.inr f)))))
def ce_z16 (y : Nat → ClassId) (a : Nat) (f : Nat → Int32) : Nat × va_E := (a, .inl (y 3, 16, .inl f))
def ce_z3 (y : Nat → ClassId) (a : Nat) (f : Nat → Int32) : Nat × va_E := (a, .inl (y 3, 3, .inl f))
def ce_z65536 (y : Nat → ClassId) (a : Nat) (f : Nat → Int32) : Nat × va_E := (a, .inl (y 3, 65536, .inl f))
/-! calls with an unknown rest of the world -/
theorem map_app {X pl : va_W} {is : List Nat} {W : va_W} (h : is.map (fun i => X[i]?) = W.map some) : is.map (fun i => (X ++ pl)[i]?) = W.map some := by
  induction is generalizing W with
  | nil =>
    cases W with
    | nil => rfl
    | cons _ _ => cases h
  | cons a is ih =>
    cases W with
    | nil => cases h
    | cons b W =>
      obtain ⟨h1, h2⟩ := List.cons.inj h
      have h1 : X[a]? = some b := h1
      show (X ++ pl)[a]? :: is.map (fun i => (X ++ pl)[i]?) = some b :: W.map some
      rw [ih h2, List.getElem?_append_left (List.getElem?_eq_some_iff.mp h1).1, h1]
theorem P_mapQ {D : va_G} {cl : List vw_C} {X pl wc : va_W} {H : Heap} (hP : va_P D cl (X ++ pl) H) (is : List Nat) (hC : is.map (fun i => X[i]?) = wc.map some) : va_P D cl (wc ++ pl) H := fun k q hk => hP _ q (va_part is hC k q hk)
theorem P_mem {D : va_G} {cl : List vw_C} {ws : va_W} {H : Heap} : va_P D cl ws H ↔ ∀ q ∈ ws, va_at D cl q H := by
  constructor
  · intro h q hq
    obtain ⟨k, hk⟩ := List.getElem?_of_mem hq
    exact h k q hk
  · intro h k q hk
    exact h q (List.mem_of_getElem? hk)
theorem P_perm {D : va_G} {cl : List vw_C} {a b : va_W} {H : Heap} (h : a.Perm b) (hP : va_P D cl a H) : va_P D cl b H := P_mem.mpr (fun q hq => P_mem.mp hP q (h.mem_iff.mpr hq))
theorem D_nd {A : Nat → Prop} {ws : va_W} : va_D A ws ↔ (ws.map Prod.fst).Nodup ∧ ∀ q ∈ ws, A q.1 := by
  have key : (ws.map Prod.fst).Nodup ↔ ∀ (i j : Nat) (hi : i < ws.length) (hj : j < ws.length), i < j → ws[i].1 ≠ ws[j].1 := by
    rw [List.nodup_iff_pairwise_ne, List.pairwise_iff_getElem]
    constructor
    · intro h i j hi hj hij
      have := h i j (by rw [List.length_map]; exact hi) (by rw [List.length_map]; exact hj) hij
      rw [List.getElem_map, List.getElem_map] at this
      exact this
    · intro h i j hi hj hij
      rw [List.getElem_map, List.getElem_map]
      exact h i j (by rw [List.length_map] at hi; exact hi) (by rw [List.length_map] at hj; exact hj) hij
  constructor
  · intro h
    refine ⟨key.mpr (fun i j hi hj hij e => ?_), fun q hq => ?_⟩
    · have := h.1 i j _ _ (List.getElem?_eq_getElem hi) (List.getElem?_eq_getElem hj) e
      omega
    · obtain ⟨k, hk⟩ := List.getElem?_of_mem hq
      exact h.2 k q hk
  · intro h
    have hn := key.mp h.1
    refine ⟨fun i j p q hi hj e => ?_, fun k q hk => h.2 q (List.mem_of_getElem? hk)⟩
    obtain ⟨li, ei⟩ := List.getElem?_eq_some_iff.mp hi
    obtain ⟨lj, ej⟩ := List.getElem?_eq_some_iff.mp hj
    rcases Nat.lt_trichotomy i j with z | z | z
    · exact absurd (by rw [ei, ej]; exact e) (hn i j li lj z)
    · exact z
    · exact absurd (by rw [ei, ej]; exact e.symm) (hn j i lj li z)
theorem D_perm {A : Nat → Prop} {a b : va_W} (h : a.Perm b) (hD : va_D A a) : va_D A b := by
  have h1 := D_nd.mp hD
  exact D_nd.mpr ⟨(h.map Prod.fst).nodup_iff.mp h1.1, fun q hq => h1.2 q (h.mem_iff.mpr hq)⟩
/-! a call's cells picked out of a world by a mask -/
def msel : List Bool → va_W → va_W
  | true :: m, x :: X => x :: msel m X
  | false :: m, _ :: X => msel m X
  | _, _ => []
def mrst : List Bool → va_W → va_W
  | true :: m, _ :: X => mrst m X
  | false :: m, x :: X => x :: mrst m X
  | _, X => X
def mjn : List Bool → va_W → va_W → va_W
  | true :: m, w :: W, R => w :: mjn m W R
  | false :: m, W, r :: R => r :: mjn m W R
  | _, W, R => W ++ R
theorem msel_p (m : List Bool) : ∀ X : va_W, X.Perm (msel m X ++ mrst m X) := by
  induction m with
  | nil =>
    intro X
    cases X with
    | nil => exact List.Perm.refl _
    | cons x X => exact List.Perm.refl _
  | cons b m ih =>
    intro X
    cases X with
    | nil => cases b <;> exact List.Perm.refl _
    | cons x X =>
      cases b with
      | true => exact (ih X).cons x
      | false => exact ((ih X).cons x).trans List.perm_middle.symm
theorem mjn_p (m : List Bool) : ∀ W R : va_W, (mjn m W R).Perm (W ++ R) := by
  induction m with
  | nil =>
    intro W R
    cases W <;> cases R <;> exact List.Perm.refl _
  | cons b m ih =>
    intro W R
    cases b with
    | true =>
      cases W with
      | nil => cases R <;> exact List.Perm.refl _
      | cons w W => exact (ih W R).cons w
    | false =>
      cases R with
      | nil => cases W <;> exact List.Perm.refl _
      | cons r R => exact ((ih W R).cons r).trans List.perm_middle.symm
theorem rng_map (X : va_W) : (List.range X.length).map (fun i => X[i]?) = X.map some := by
  apply List.ext_getElem?
  intro k
  rw [List.getElem?_map, List.getElem?_map]
  by_cases h : k < X.length
  · rw [List.getElem?_range h]
    show some X[k]? = X[k]?.map some
    rw [List.getElem?_eq_getElem h]
    rfl
  · have h1 : (List.range X.length)[k]? = none := List.getElem?_eq_none (by rw [List.length_range]; omega)
    have h2 : X[k]? = none := List.getElem?_eq_none (by omega)
    rw [h1, h2]
    rfl
theorem nd_of : ∀ {l : List Nat}, l.Nodup → va_nd l = true
  | [], _ => rfl
  | a :: l, h => by
    rw [List.nodup_cons] at h
    show (decide (a ∉ l) && va_nd l) = true
    rw [nd_of h.2, decide_eq_true h.1]
    rfl
theorem mk_perm (m : List Bool) (X pl : va_W) : (X ++ pl).Perm (msel m X ++ (mrst m X ++ pl)) := by
  rw [← List.append_assoc]
  exact (msel_p m X).append_right pl
theorem mk_back (m : List Bool) (w R pl : va_W) : (([] ++ w) ++ (R ++ pl)).Perm (mjn m w R ++ pl) := by
  rw [List.nil_append, ← List.append_assoc]
  exact (mjn_p m w R).symm.append_right pl
theorem rng_mapR (A B : va_W) : (List.range' A.length B.length).map (fun i => (A ++ B)[i]?) = B.map some := by
  apply List.ext_getElem?
  intro k
  rw [List.getElem?_map, List.getElem?_map]
  by_cases h : k < B.length
  · have h1 : (List.range' A.length B.length)[k]? = some (A.length + 1 * k) := List.getElem?_range' h
    rw [h1]
    show some (A ++ B)[A.length + 1 * k]? = B[k]?.map some
    rw [Nat.one_mul, List.getElem?_append_right (Nat.le_add_right _ _), Nat.add_sub_cancel_left, List.getElem?_eq_getElem h]
    rfl
  · have h1 : (List.range' A.length B.length)[k]? = none := List.getElem?_eq_none (by rw [List.length_range']; omega)
    have h2 : B[k]? = none := List.getElem?_eq_none (by omega)
    rw [h1, h2]
    rfl
theorem dis_rng (a b : Nat) : ∀ i ∈ List.range' a b, i ∉ List.range a := by
  intro i h q
  have h1 := (List.mem_range'_1.mp h).1
  have h2 := List.mem_range.mp q
  omega
def vPD (G : va_G) (A : Nat → Prop) (H : Heap) (w : va_W) : Prop := va_P G vwCl w H ∧ va_D A w
theorem back_p (m : List Bool) (w R : va_W) : (R ++ w).Perm (mjn m w R) := List.perm_append_comm.trans (mjn_p m w R).symm
section BCM
variable {p : Program} {l : Launch} {e : Env} {R : Room} {s : State} {m : MethodId} {args : Array Value} {below : List Frame} {meth : Method} {c : Code} {H : Heap} {locs : List Loc} {cells slots : Nat} {Q : State → Prop} {pc : Nat} {ls : Array Slot} {A : Nat → Prop} {H0 : Heap} {G : va_G} {y : Nat → ClassId} {ws : va_W} {cc : ByteArray} {nL : Nat} {Ts : List Cond} {own : String} {index n mc ms maxL : Nat} {ym : MethodName} {bytes : ByteArray} {ret : Option FieldType} {wsm : List Cond} {rm : Room} {b ci : Nat} {As rest : List Value} {fs : List Value} {q : vw_C}
variable {aK aV : Nat → Nat}
theorem cVim {post : Int32 → va_W → Prop} (F : CallFix p m c cc nL s args Ts own) (hA : ∀ q, H0.size ≤ q → A q) (hK : kk G y s) (hP : va_P G vwCl ws H) (hD : va_D A ws) (hS : va_S A H0 H locs) (m9 : List Bool) {WC : va_W}
    (hM : Met l ym wsm rm (va_Pc (.ref b :: As) (kp G y H.size WC)) (va_Qi post (kq G (va_A WC H.size)) (va_A WC H.size)) mc ms (va_A WC H.size)) (hC : msel m9 ws = WC)
    (cw : CallW R s args own q.1 index ym bytes maxL ret wsm rm mc ms n) (hc : vwCl[ci]? = some q) (he : WC[0]? = some (b, .inr (ci, fs))) (hn : As.length = n) (hsz : ls.size = nL) (hrw : (rest.map fun v => v.category).sum ≤ 8) (hdg : decode cc pc = .ok (.invokevirtual index, 3)) (hf : cells + mc ≤ R.cells ∧ slots + ms ≤ R.slots)
    (k : ∀ (r : Int32) (w : va_W) (H1 : Heap) (locs1 : List Loc), post r w → va_P G vwCl (mjn m9 w (mrst m9 ws)) H1 → va_D A (mjn m9 w (mrst m9 ws)) → va_S A H0 H1 locs1 → W p l e R s m args below meth c H1 locs1 (cells + mc) (slots + ms) Q (F0 m (pc + 3) ls (.int r :: rest))) :
    W p l e R s m args below meth c H locs cells slots Q (F0 m pc ls (As.reverse ++ .ref b :: rest)) := by
  subst hC
  exact cVi F hA hK (P_perm (msel_p m9 ws) hP) (D_perm (msel_p m9 ws) hD) hS (List.range (msel m9 ws).length) (List.range' (msel m9 ws).length (mrst m9 ws).length) (msel m9 ws) (mrst m9 ws) (map_app (rng_map _)) (rng_mapR _ _) (nd_of List.nodup_range) (nd_of List.nodup_range') (dis_rng _ _) hM cw hc he hn hsz hrw hdg hf (fun r w H1 locs1 hw hP3 hD3 hS3 => k r w H1 locs1 hw (P_perm (back_p m9 w (mrst m9 ws)) hP3) (D_perm (back_p m9 w (mrst m9 ws)) hD3) hS3)
theorem cVvm {post : va_W → Prop} (F : CallFix p m c cc nL s args Ts own) (hA : ∀ q, H0.size ≤ q → A q) (hK : kk G y s) (hP : va_P G vwCl ws H) (hD : va_D A ws) (hS : va_S A H0 H locs) (m9 : List Bool) {WC : va_W}
    (hM : Met l ym wsm rm (va_Pc (.ref b :: As) (kp G y H.size WC)) (va_Qv post (kq G (va_A WC H.size)) (va_A WC H.size)) mc ms (va_A WC H.size)) (hC : msel m9 ws = WC)
    (cw : CallW R s args own q.1 index ym bytes maxL ret wsm rm mc ms n) (hc : vwCl[ci]? = some q) (he : WC[0]? = some (b, .inr (ci, fs))) (hn : As.length = n) (hsz : ls.size = nL) (hrw : (rest.map fun v => v.category).sum ≤ 8) (hdg : decode cc pc = .ok (.invokevirtual index, 3)) (hf : cells + mc ≤ R.cells ∧ slots + ms ≤ R.slots)
    (k : ∀ (w : va_W) (H1 : Heap) (locs1 : List Loc), post w → va_P G vwCl (mjn m9 w (mrst m9 ws)) H1 → va_D A (mjn m9 w (mrst m9 ws)) → va_S A H0 H1 locs1 → W p l e R s m args below meth c H1 locs1 (cells + mc) (slots + ms) Q (F0 m (pc + 3) ls rest)) :
    W p l e R s m args below meth c H locs cells slots Q (F0 m pc ls (As.reverse ++ .ref b :: rest)) := by
  subst hC
  exact cVv F hA hK (P_perm (msel_p m9 ws) hP) (D_perm (msel_p m9 ws) hD) hS (List.range (msel m9 ws).length) (List.range' (msel m9 ws).length (mrst m9 ws).length) (msel m9 ws) (mrst m9 ws) (map_app (rng_map _)) (rng_mapR _ _) (nd_of List.nodup_range) (nd_of List.nodup_range') (dis_rng _ _) hM cw hc he hn hsz hrw hdg hf (fun w H1 locs1 hw hP3 hD3 hS3 => k w H1 locs1 hw (P_perm (back_p m9 w (mrst m9 ws)) hP3) (D_perm (back_p m9 w (mrst m9 ws)) hD3) hS3)
theorem cSim {post : Int32 → va_W → Prop} (F : CallFix p m c cc nL s args Ts own) (hA : ∀ q, H0.size ≤ q → A q) (hK : kk G y s) (hP : va_P G vwCl ws H) (hD : va_D A ws) (hS : va_S A H0 H locs) (m9 : List Bool) {WC : va_W}
    (hM : Met l ym wsm rm (va_Pc As (kp G y H.size WC)) (va_Qi post (kq G (va_A WC H.size)) (va_A WC H.size)) mc ms (va_A WC H.size)) (hC : msel m9 ws = WC)
    (cw : CallB R s args own index ym bytes maxL ret wsm rm mc ms n ∧ (Cond.static ym).before args s = true) (hn : As.length = n) (hsz : ls.size = nL) (hrw : (rest.map fun v => v.category).sum ≤ 8) (hdg : decode cc pc = .ok (.invokestatic index, 3)) (hf : cells + mc ≤ R.cells ∧ slots + ms ≤ R.slots)
    (k : ∀ (r : Int32) (w : va_W) (H1 : Heap) (locs1 : List Loc), post r w → va_P G vwCl (mjn m9 w (mrst m9 ws)) H1 → va_D A (mjn m9 w (mrst m9 ws)) → va_S A H0 H1 locs1 → W p l e R s m args below meth c H1 locs1 (cells + mc) (slots + ms) Q (F0 m (pc + 3) ls (.int r :: rest))) :
    W p l e R s m args below meth c H locs cells slots Q (F0 m pc ls (As.reverse ++ rest)) := by
  subst hC
  exact cSi F hA hK (P_perm (msel_p m9 ws) hP) (D_perm (msel_p m9 ws) hD) hS (List.range (msel m9 ws).length) (List.range' (msel m9 ws).length (mrst m9 ws).length) (msel m9 ws) (mrst m9 ws) (map_app (rng_map _)) (rng_mapR _ _) (nd_of List.nodup_range) (nd_of List.nodup_range') (dis_rng _ _) hM cw hn hsz hrw hdg hf (fun r w H1 locs1 hw hP3 hD3 hS3 => k r w H1 locs1 hw (P_perm (back_p m9 w (mrst m9 ws)) hP3) (D_perm (back_p m9 w (mrst m9 ws)) hD3) hS3)
theorem cSvm {post : va_W → Prop} (F : CallFix p m c cc nL s args Ts own) (hA : ∀ q, H0.size ≤ q → A q) (hK : kk G y s) (hP : va_P G vwCl ws H) (hD : va_D A ws) (hS : va_S A H0 H locs) (m9 : List Bool) {WC : va_W}
    (hM : Met l ym wsm rm (va_Pc As (kp G y H.size WC)) (va_Qv post (kq G (va_A WC H.size)) (va_A WC H.size)) mc ms (va_A WC H.size)) (hC : msel m9 ws = WC)
    (cw : CallB R s args own index ym bytes maxL ret wsm rm mc ms n ∧ (Cond.static ym).before args s = true) (hn : As.length = n) (hsz : ls.size = nL) (hrw : (rest.map fun v => v.category).sum ≤ 8) (hdg : decode cc pc = .ok (.invokestatic index, 3)) (hf : cells + mc ≤ R.cells ∧ slots + ms ≤ R.slots)
    (k : ∀ (w : va_W) (H1 : Heap) (locs1 : List Loc), post w → va_P G vwCl (mjn m9 w (mrst m9 ws)) H1 → va_D A (mjn m9 w (mrst m9 ws)) → va_S A H0 H1 locs1 → W p l e R s m args below meth c H1 locs1 (cells + mc) (slots + ms) Q (F0 m (pc + 3) ls rest)) :
    W p l e R s m args below meth c H locs cells slots Q (F0 m pc ls (As.reverse ++ rest)) := by
  subst hC
  exact cSv F hA hK (P_perm (msel_p m9 ws) hP) (D_perm (msel_p m9 ws) hD) hS (List.range (msel m9 ws).length) (List.range' (msel m9 ws).length (mrst m9 ws).length) (msel m9 ws) (mrst m9 ws) (map_app (rng_map _)) (rng_mapR _ _) (nd_of List.nodup_range) (nd_of List.nodup_range') (dis_rng _ _) hM cw hn hsz hrw hdg hf (fun w H1 locs1 hw hP3 hD3 hS3 => k w H1 locs1 hw (P_perm (back_p m9 w (mrst m9 ws)) hP3) (D_perm (back_p m9 w (mrst m9 ws)) hD3) hS3)
theorem cVlm {post : Int64 → va_W → Prop} (F : CallFix p m c cc nL s args Ts own) (hA : ∀ q, H0.size ≤ q → A q) (hK : kk G y s) (hP : va_P G vwCl ws H) (hD : va_D A ws) (hS : va_S A H0 H locs) (m9 : List Bool) {WC : va_W}
    (hM : Met l ym wsm rm (va_Pc (.ref b :: As) (kp G y H.size WC)) (va_Ql post (kq G (va_A WC H.size)) (va_A WC H.size)) mc ms (va_A WC H.size)) (hC : msel m9 ws = WC)
    (cw : CallW R s args own q.1 index ym bytes maxL ret wsm rm mc ms n) (hc : vwCl[ci]? = some q) (he : WC[0]? = some (b, .inr (ci, fs))) (hn : As.length = n) (hsz : ls.size = nL) (hrw : (rest.map fun v => v.category).sum ≤ 8) (hdg : decode cc pc = .ok (.invokevirtual index, 3)) (hf : cells + mc ≤ R.cells ∧ slots + ms ≤ R.slots)
    (k : ∀ (r : Int64) (w : va_W) (H1 : Heap) (locs1 : List Loc), post r w → va_P G vwCl (mjn m9 w (mrst m9 ws)) H1 → va_D A (mjn m9 w (mrst m9 ws)) → va_S A H0 H1 locs1 → W p l e R s m args below meth c H1 locs1 (cells + mc) (slots + ms) Q (F0 m (pc + 3) ls (.long r :: rest))) :
    W p l e R s m args below meth c H locs cells slots Q (F0 m pc ls (As.reverse ++ .ref b :: rest)) := by
  subst hC
  exact cVl F hA hK (P_perm (msel_p m9 ws) hP) (D_perm (msel_p m9 ws) hD) hS (List.range (msel m9 ws).length) (List.range' (msel m9 ws).length (mrst m9 ws).length) (msel m9 ws) (mrst m9 ws) (map_app (rng_map _)) (rng_mapR _ _) (nd_of List.nodup_range) (nd_of List.nodup_range') (dis_rng _ _) hM cw hc he hn hsz hrw hdg hf (fun r w H1 locs1 hw hP3 hD3 hS3 => k r w H1 locs1 hw (P_perm (back_p m9 w (mrst m9 ws)) hP3) (D_perm (back_p m9 w (mrst m9 ws)) hD3) hS3)
theorem cSlm {post : Int64 → va_W → Prop} (F : CallFix p m c cc nL s args Ts own) (hA : ∀ q, H0.size ≤ q → A q) (hK : kk G y s) (hP : va_P G vwCl ws H) (hD : va_D A ws) (hS : va_S A H0 H locs) (m9 : List Bool) {WC : va_W}
    (hM : Met l ym wsm rm (va_Pc As (kp G y H.size WC)) (va_Ql post (kq G (va_A WC H.size)) (va_A WC H.size)) mc ms (va_A WC H.size)) (hC : msel m9 ws = WC)
    (cw : CallB R s args own index ym bytes maxL ret wsm rm mc ms n ∧ (Cond.static ym).before args s = true) (hn : As.length = n) (hsz : ls.size = nL) (hrw : (rest.map fun v => v.category).sum ≤ 8) (hdg : decode cc pc = .ok (.invokestatic index, 3)) (hf : cells + mc ≤ R.cells ∧ slots + ms ≤ R.slots)
    (k : ∀ (r : Int64) (w : va_W) (H1 : Heap) (locs1 : List Loc), post r w → va_P G vwCl (mjn m9 w (mrst m9 ws)) H1 → va_D A (mjn m9 w (mrst m9 ws)) → va_S A H0 H1 locs1 → W p l e R s m args below meth c H1 locs1 (cells + mc) (slots + ms) Q (F0 m (pc + 3) ls (.long r :: rest))) :
    W p l e R s m args below meth c H locs cells slots Q (F0 m pc ls (As.reverse ++ rest)) := by
  subst hC
  exact cSl F hA hK (P_perm (msel_p m9 ws) hP) (D_perm (msel_p m9 ws) hD) hS (List.range (msel m9 ws).length) (List.range' (msel m9 ws).length (mrst m9 ws).length) (msel m9 ws) (mrst m9 ws) (map_app (rng_map _)) (rng_mapR _ _) (nd_of List.nodup_range) (nd_of List.nodup_range') (dis_rng _ _) hM cw hn hsz hrw hdg hf (fun r w H1 locs1 hw hP3 hD3 hS3 => k r w H1 locs1 hw (P_perm (back_p m9 w (mrst m9 ws)) hP3) (D_perm (back_p m9 w (mrst m9 ws)) hD3) hS3)
theorem cViSm {post : Int32 → va_W → Prop} (F : CallFix p m c cc nL s args Ts own) (hA : ∀ q, s.heap.size ≤ q → A q) (hK : kk G y s) (hP : va_P G vwCl ws H) (hD : va_D A ws) (hS : va_S A s.heap H locs) (hE : sE aK aV A s s.heap) (m9 : List Bool) {WC : va_W}
    (hM : Met l ym wsm rm (va_Pc (.ref b :: As) (kps G y aK aV H.size WC)) (va_Qi post (kq G (va_A WC H.size)) (va_A WC H.size)) mc ms (va_A WC H.size)) (hC : msel m9 ws = WC)
    (cw : CallW R s args own q.1 index ym bytes maxL ret wsm rm mc ms n) (hc : vwCl[ci]? = some q) (he : WC[0]? = some (b, .inr (ci, fs))) (hn : As.length = n) (hsz : ls.size = nL) (hrw : (rest.map fun v => v.category).sum ≤ 8) (hdg : decode cc pc = .ok (.invokevirtual index, 3)) (hf : cells + mc ≤ R.cells ∧ slots + ms ≤ R.slots)
    (k : ∀ (r : Int32) (w : va_W) (H1 : Heap) (locs1 : List Loc), post r w → va_P G vwCl (mjn m9 w (mrst m9 ws)) H1 → va_D A (mjn m9 w (mrst m9 ws)) → va_S A s.heap H1 locs1 → W p l e R s m args below meth c H1 locs1 (cells + mc) (slots + ms) Q (F0 m (pc + 3) ls (.int r :: rest))) :
    W p l e R s m args below meth c H locs cells slots Q (F0 m pc ls (As.reverse ++ .ref b :: rest)) := by
  subst hC
  exact cViS F hA hK (P_perm (msel_p m9 ws) hP) (D_perm (msel_p m9 ws) hD) hS hE (List.range (msel m9 ws).length) (List.range' (msel m9 ws).length (mrst m9 ws).length) (msel m9 ws) (mrst m9 ws) (map_app (rng_map _)) (rng_mapR _ _) (nd_of List.nodup_range) (nd_of List.nodup_range') (dis_rng _ _) hM cw hc he hn hsz hrw hdg hf (fun r w H1 locs1 hw hP3 hD3 hS3 => k r w H1 locs1 hw (P_perm (back_p m9 w (mrst m9 ws)) hP3) (D_perm (back_p m9 w (mrst m9 ws)) hD3) hS3)
theorem cVvSm {post : va_W → Prop} (F : CallFix p m c cc nL s args Ts own) (hA : ∀ q, s.heap.size ≤ q → A q) (hK : kk G y s) (hP : va_P G vwCl ws H) (hD : va_D A ws) (hS : va_S A s.heap H locs) (hE : sE aK aV A s s.heap) (m9 : List Bool) {WC : va_W}
    (hM : Met l ym wsm rm (va_Pc (.ref b :: As) (kps G y aK aV H.size WC)) (va_Qv post (kq G (va_A WC H.size)) (va_A WC H.size)) mc ms (va_A WC H.size)) (hC : msel m9 ws = WC)
    (cw : CallW R s args own q.1 index ym bytes maxL ret wsm rm mc ms n) (hc : vwCl[ci]? = some q) (he : WC[0]? = some (b, .inr (ci, fs))) (hn : As.length = n) (hsz : ls.size = nL) (hrw : (rest.map fun v => v.category).sum ≤ 8) (hdg : decode cc pc = .ok (.invokevirtual index, 3)) (hf : cells + mc ≤ R.cells ∧ slots + ms ≤ R.slots)
    (k : ∀ (w : va_W) (H1 : Heap) (locs1 : List Loc), post w → va_P G vwCl (mjn m9 w (mrst m9 ws)) H1 → va_D A (mjn m9 w (mrst m9 ws)) → va_S A s.heap H1 locs1 → W p l e R s m args below meth c H1 locs1 (cells + mc) (slots + ms) Q (F0 m (pc + 3) ls rest)) :
    W p l e R s m args below meth c H locs cells slots Q (F0 m pc ls (As.reverse ++ .ref b :: rest)) := by
  subst hC
  exact cVvS F hA hK (P_perm (msel_p m9 ws) hP) (D_perm (msel_p m9 ws) hD) hS hE (List.range (msel m9 ws).length) (List.range' (msel m9 ws).length (mrst m9 ws).length) (msel m9 ws) (mrst m9 ws) (map_app (rng_map _)) (rng_mapR _ _) (nd_of List.nodup_range) (nd_of List.nodup_range') (dis_rng _ _) hM cw hc he hn hsz hrw hdg hf (fun w H1 locs1 hw hP3 hD3 hS3 => k w H1 locs1 hw (P_perm (back_p m9 w (mrst m9 ws)) hP3) (D_perm (back_p m9 w (mrst m9 ws)) hD3) hS3)
theorem cSiSm {post : Int32 → va_W → Prop} (F : CallFix p m c cc nL s args Ts own) (hA : ∀ q, s.heap.size ≤ q → A q) (hK : kk G y s) (hP : va_P G vwCl ws H) (hD : va_D A ws) (hS : va_S A s.heap H locs) (hE : sE aK aV A s s.heap) (m9 : List Bool) {WC : va_W}
    (hM : Met l ym wsm rm (va_Pc As (kps G y aK aV H.size WC)) (va_Qi post (kq G (va_A WC H.size)) (va_A WC H.size)) mc ms (va_A WC H.size)) (hC : msel m9 ws = WC)
    (cw : CallB R s args own index ym bytes maxL ret wsm rm mc ms n ∧ (Cond.static ym).before args s = true) (hn : As.length = n) (hsz : ls.size = nL) (hrw : (rest.map fun v => v.category).sum ≤ 8) (hdg : decode cc pc = .ok (.invokestatic index, 3)) (hf : cells + mc ≤ R.cells ∧ slots + ms ≤ R.slots)
    (k : ∀ (r : Int32) (w : va_W) (H1 : Heap) (locs1 : List Loc), post r w → va_P G vwCl (mjn m9 w (mrst m9 ws)) H1 → va_D A (mjn m9 w (mrst m9 ws)) → va_S A s.heap H1 locs1 → W p l e R s m args below meth c H1 locs1 (cells + mc) (slots + ms) Q (F0 m (pc + 3) ls (.int r :: rest))) :
    W p l e R s m args below meth c H locs cells slots Q (F0 m pc ls (As.reverse ++ rest)) := by
  subst hC
  exact cSiS F hA hK (P_perm (msel_p m9 ws) hP) (D_perm (msel_p m9 ws) hD) hS hE (List.range (msel m9 ws).length) (List.range' (msel m9 ws).length (mrst m9 ws).length) (msel m9 ws) (mrst m9 ws) (map_app (rng_map _)) (rng_mapR _ _) (nd_of List.nodup_range) (nd_of List.nodup_range') (dis_rng _ _) hM cw hn hsz hrw hdg hf (fun r w H1 locs1 hw hP3 hD3 hS3 => k r w H1 locs1 hw (P_perm (back_p m9 w (mrst m9 ws)) hP3) (D_perm (back_p m9 w (mrst m9 ws)) hD3) hS3)
theorem cSvSm {post : va_W → Prop} (F : CallFix p m c cc nL s args Ts own) (hA : ∀ q, s.heap.size ≤ q → A q) (hK : kk G y s) (hP : va_P G vwCl ws H) (hD : va_D A ws) (hS : va_S A s.heap H locs) (hE : sE aK aV A s s.heap) (m9 : List Bool) {WC : va_W}
    (hM : Met l ym wsm rm (va_Pc As (kps G y aK aV H.size WC)) (va_Qv post (kq G (va_A WC H.size)) (va_A WC H.size)) mc ms (va_A WC H.size)) (hC : msel m9 ws = WC)
    (cw : CallB R s args own index ym bytes maxL ret wsm rm mc ms n ∧ (Cond.static ym).before args s = true) (hn : As.length = n) (hsz : ls.size = nL) (hrw : (rest.map fun v => v.category).sum ≤ 8) (hdg : decode cc pc = .ok (.invokestatic index, 3)) (hf : cells + mc ≤ R.cells ∧ slots + ms ≤ R.slots)
    (k : ∀ (w : va_W) (H1 : Heap) (locs1 : List Loc), post w → va_P G vwCl (mjn m9 w (mrst m9 ws)) H1 → va_D A (mjn m9 w (mrst m9 ws)) → va_S A s.heap H1 locs1 → W p l e R s m args below meth c H1 locs1 (cells + mc) (slots + ms) Q (F0 m (pc + 3) ls rest)) :
    W p l e R s m args below meth c H locs cells slots Q (F0 m pc ls (As.reverse ++ rest)) := by
  subst hC
  exact cSvS F hA hK (P_perm (msel_p m9 ws) hP) (D_perm (msel_p m9 ws) hD) hS hE (List.range (msel m9 ws).length) (List.range' (msel m9 ws).length (mrst m9 ws).length) (msel m9 ws) (mrst m9 ws) (map_app (rng_map _)) (rng_mapR _ _) (nd_of List.nodup_range) (nd_of List.nodup_range') (dis_rng _ _) hM cw hn hsz hrw hdg hf (fun w H1 locs1 hw hP3 hD3 hS3 => k w H1 locs1 hw (P_perm (back_p m9 w (mrst m9 ws)) hP3) (D_perm (back_p m9 w (mrst m9 ws)) hD3) hS3)
theorem cQim {post : Int32 → va_W → Prop} (F : CallFix p m c cc nL s args Ts own) (hA : ∀ q, s.heap.size ≤ q → A q) (hK : kk G y s) (hP : va_P G vwCl ws H) (hD : va_D A ws) (hS : va_S A s.heap H locs) (hE : sE aK aV A s s.heap) (m9 : List Bool) {WC : va_W}
    (hM : Met l ym wsm rm (va_Pc (.ref b :: As) (kps G y aK aV H.size WC)) (va_Qi post (kq G (va_A WC H.size)) (va_A WC H.size)) mc ms (va_A WC H.size)) (hC : msel m9 ws = WC)
    (cw : CallW R s args own "java/lang/String" index ym bytes maxL ret wsm rm mc ms n) {i9 : Nat} (hi9 : i9 < nS) (hb9 : b = aK i9) (hn : As.length = n) (hsz : ls.size = nL) (hrw : (rest.map fun v => v.category).sum ≤ 8) (hdg : decode cc pc = .ok (.invokevirtual index, 3)) (hf : cells + mc ≤ R.cells ∧ slots + ms ≤ R.slots)
    (k : ∀ (r : Int32) (w : va_W) (H1 : Heap) (locs1 : List Loc), post r w → va_P G vwCl (mjn m9 w (mrst m9 ws)) H1 → va_D A (mjn m9 w (mrst m9 ws)) → va_S A s.heap H1 locs1 → W p l e R s m args below meth c H1 locs1 (cells + mc) (slots + ms) Q (F0 m (pc + 3) ls (.int r :: rest))) :
    W p l e R s m args below meth c H locs cells slots Q (F0 m pc ls (As.reverse ++ .ref b :: rest)) := by
  subst hC
  exact cQi F hA hK (P_perm (msel_p m9 ws) hP) (D_perm (msel_p m9 ws) hD) hS hE (List.range (msel m9 ws).length) (List.range' (msel m9 ws).length (mrst m9 ws).length) (msel m9 ws) (mrst m9 ws) (map_app (rng_map _)) (rng_mapR _ _) (nd_of List.nodup_range) (nd_of List.nodup_range') (dis_rng _ _) hM cw hi9 hb9 hn hsz hrw hdg hf (fun r w H1 locs1 hw hP3 hD3 hS3 => k r w H1 locs1 hw (P_perm (back_p m9 w (mrst m9 ws)) hP3) (D_perm (back_p m9 w (mrst m9 ws)) hD3) hS3)
end BCM
