/-! debts, code and what is paid, beside the state's data -/
abbrev DX := List D5 × List LN × Int32
def sxt (g : Nat → Int32) (X : DX) (dz : Int) (f0 f1 f2 f3 f4 op ks : Nat → Int32) (ln us : Int) (pa kd wi st sp ts : Nat → Int32) (pd : Int32) : Prop := dB dz f0 f1 f2 f3 f4 op ks X.1 ∧ cdC ln us pa kd wi st sp ts X.2.1 ∧ pd = X.2.2 ∧ (X.1.length : Int) ≤ (g 8).toInt
def mxt (X : DX) (w : Nat → Int32) : Prop := mB w X.1 ∧ cdM w X.2.1 ∧ w 9 = X.2.2
noncomputable def gdB (g : Nat → Int32) (X : DX) (a b p : Int) : List D5 := dlB X.2.1 X.1 a b p (g 6).toInt (g (12 + 9 * a.toNat)).toInt (g (12 + 9 * b.toNat)).toInt (gk g a b)
def gpN (X : DX) (a b p : Int) : Int := (X.1.length : Int) - ((X.1.filter (kpB a b p)).length : Int)
noncomputable def gdX (g : Nat → Int32) (X : DX) (a b p : Int) : DX := if p = 4 then X else (gdB g X a b p, X.2.1, X.2.2 + Int32.ofInt (gpN X a b p))
noncomputable def gsX (g : Nat → Int32) (X : DX) (a b p : Int) : DX := @ite DX (gok g a b p) (Classical.propDecidable _) (gdX g X a b p) X
noncomputable def gxn (nf : Nat → Int64) (z : Int) : Nat → Nat → (Nat → Int32) → DX → DX
  | 0, _, _, X => X
  | m + 1, i, g, X => if (i : Int) + 2 < z then gxn nf z m (i + 3) (gst g (nf i).toInt (nf (i + 1)).toInt (nf (i + 2)).toInt) (gsX g X (nf i).toInt (nf (i + 1)).toInt (nf (i + 2)).toInt) else X
section DXS
variable {g h : Nat → Int32} {X : DX} {a b p dz dz' ln us : Int} {pd pd' : Int32} {f0 f1 f2 f3 f4 op ks pa kd wi st sp ts g0 g1 g2 g3 g4 op' ks' : Nat → Int32}
theorem nd_l {C : List LN} {B : List D5} {a b on i : Int} : (ndD C B a b on i).length ≤ B.length + 1 := by
  unfold ndD
  split
  · omega
  · split
    · omega
    · by_cases q : hasB b a (by assumption : LN).2.1 B
      · rw [@if_pos _ (Classical.propDecidable _) q]; omega
      · rw [@if_neg _ (Classical.propDecidable _) q, List.length_append]
        exact Nat.le_refl _
theorem gdB_l : (gdB g X a b p).length ≤ X.1.length + 1 := by
  have h1 := nd_l (C := X.2.1) (B := X.1.filter (kpB a b p)) (a := a) (b := b) (on := (g 6).toInt) (i := dlI X.2.1 (X.1.filter (kpB a b p)) b p (g 6).toInt (g (12 + 9 * a.toNat)).toInt (g (12 + 9 * b.toNat)).toInt (gk g a b))
  have h2 := List.length_filter_le (kpB a b p) X.1
  exact Nat.le_trans h1 (by omega)
theorem gdX_n (h : p ≠ 4) : gdX g X a b p = (gdB g X a b p, X.2.1, X.2.2 + Int32.ofInt (gpN X a b p)) := if_neg h
theorem gdX_4 : gdX g X a b 4 = X := if_pos rfl
theorem gsX_y (h : gok g a b p) : gsX g X a b p = gdX g X a b p := @if_pos _ (Classical.propDecidable _) h _ _ _
theorem gsX_n (h : ¬ gok g a b p) : gsX g X a b p = X := @if_neg _ (Classical.propDecidable _) h _ _ _
theorem gdo_8 (ha : 0 ≤ a ∧ a < 16) (hb : 0 ≤ b ∧ b < 16) : gdo g a b p 8 = g 8 + 1 := by
  rw [gdo_d (Or.inl (by decide)) ha hb]
  unfold gde
  exact upd_h rfl
theorem sxt_g (H : sxt g X dz f0 f1 f2 f3 f4 op ks ln us pa kd wi st sp ts pd) (e : (g 8).toInt ≤ (h 8).toInt) : sxt h X dz f0 f1 f2 f3 f4 op ks ln us pa kd wi st sp ts pd := ⟨H.1, H.2.1, H.2.2.1, by have := H.2.2.2; omega⟩
theorem sxt_4 (H : sxt g X dz f0 f1 f2 f3 f4 op ks ln us pa kd wi st sp ts pd) (ha : 0 ≤ a ∧ a < 16) (hb : 0 ≤ b ∧ b < 16) (h8 : 0 ≤ (g 8).toInt ∧ (g 8).toInt ≤ 600) : sxt (gdo g a b p) X dz f0 f1 f2 f3 f4 op ks ln us pa kd wi st sp ts pd := by
  refine sxt_g H ?_
  rw [gdo_8 ha hb]
  have l1 : (1 : Int32).toInt = 1 := by decide
  have q := ba_add (v := g 8 + 1) (l1 := 0) (h1 := 600) (l2 := 1) (h2 := 1) rfl h8 ⟨by omega, by omega⟩ (by decide)
  omega
/-- a deed: what the class's rows are behind it -/
theorem sxt_d {r : Int32} (H : sxt g X dz f0 f1 f2 f3 f4 op ks ln us pa kd wi st sp ts pd) (hp : p ≠ 4) (ha : 0 ≤ a ∧ a < 16) (hb : 0 ≤ b ∧ b < 16) (h8 : 0 ≤ (g 8).toInt ∧ (g 8).toInt ≤ 599) (D : dB dz' g0 g1 g2 g3 g4 op' ks' (gdB g X a b p)) (er : r.toInt = gpN X a b p) (ep : pd' = pd + r) : sxt (gdo g a b p) (gdX g X a b p) dz' g0 g1 g2 g3 g4 op' ks' ln us pa kd wi st sp ts pd' := by
  rw [gdX_n hp]
  obtain ⟨h1, h2, h3, h4⟩ := H
  refine ⟨D, h2, ?_, ?_⟩
  · rw [ep, h3, ← er, Int32.ofInt_toInt]
  · rw [gdo_8 ha hb]
    have l1 : (1 : Int32).toInt = 1 := by decide
    have q := ba_add (v := g 8 + 1) (l1 := 0) (h1 := 599) (l2 := 1) (h2 := 1) rfl h8 ⟨by omega, by omega⟩ (by decide)
    have q2 := gdB_l (g := g) (X := X) (a := a) (b := b) (p := p)
    show ((gdB g X a b p).length : Int) ≤ _
    omega
/-- the debts that are made are told by the state's data -/
theorem gdB_e {hs fr it dy sz : Int32} {x y r9 w f t c bb o kn wh wm wt wd : Nat → Int32} (S : sdt g hs fr it dy sz x y r9 w f t c bb o kn wh wm wt wd) (ha : 0 ≤ a ∧ a < hs.toInt) (hb : 0 ≤ b ∧ b < hs.toInt) (hh : hs.toInt ≤ 16) {Z : List D5} (e : Z = dlB X.2.1 X.1 a b p dy.toInt (r9 a.toNat).toInt (r9 b.toNat).toInt (qk kn a b)) : Z = gdB g X a b p := by
  rw [e]
  unfold gdB
  have c1 := (S.2.1.1 a.toNat (by omega)).2.2.1
  have c2 := (S.2.1.1 b.toNat (by omega)).2.2.1
  rw [c1, c2, S.1.2.2.2.1, qk_sd S ⟨ha.1, by omega⟩]
end DXS
section DXT
variable {g h : Nat → Int32} {X : DX} {nf : Nat → Int64} {z a b p : Int} {m i : Nat} {R : DX}
theorem gdX_c (T : tgd g h) (ha : 0 ≤ a ∧ a < 16) (hb : 0 ≤ b ∧ b < 16) : gdX g X a b p = gdX h X a b p := by
  unfold gdX gdB
  rw [gk_c T ha, T 6 (by unfold sgd; omega), T (12 + 9 * a.toNat) (by unfold sgd; omega), T (12 + 9 * b.toNat) (by unfold sgd; omega)]
theorem gsX_c (T : tgd g h) (hh : (h 0).toInt ≤ 16) : gsX g X a b p = gsX h X a b p := by
  by_cases q : gok h a b p
  · have q1 := q.1
    rw [gsX_y q, gsX_y ((gok_c T hh).mpr q), gdX_c T ⟨q1.1, by omega⟩ ⟨q1.2.2.1, by omega⟩]
  · rw [gsX_n q, gsX_n (fun y => q ((gok_c T hh).mp y))]
theorem xn_step {i i' : Int} {X' : DX} {g2 : Nat → Int32} (hm : i + 3 * ((m + 1 : Nat) : Int) = 60) (h0 : 0 ≤ i) (hi : i + 2 < z) (e1 : gxn nf z (m + 1) i.toNat g X = R) (s1 : gst g (nf i.toNat).toInt (nf (i + 1).toNat).toInt (nf (i + 2).toNat).toInt = g2) (s2 : gsX g X (nf i.toNat).toInt (nf (i + 1).toNat).toInt (nf (i + 2).toNat).toInt = X') (hi' : i' = i + 3) : gxn nf z m i'.toNat g2 X' = R := by
  have c1 : ((i.toNat : Nat) : Int) + 2 < z := by omega
  have n1 : (i + 1).toNat = i.toNat + 1 := by omega
  have n2 : (i + 2).toNat = i.toNat + 2 := by omega
  have n3 : i'.toNat = i.toNat + 3 := by omega
  have f1 : gxn nf z (m + 1) i.toNat g X = gxn nf z m (i.toNat + 3) (gst g (nf i.toNat).toInt (nf (i.toNat + 1)).toInt (nf (i.toNat + 2)).toInt) (gsX g X (nf i.toNat).toInt (nf (i.toNat + 1)).toInt (nf (i.toNat + 2)).toInt) := if_pos c1
  rw [n1, n2] at s1 s2
  rw [f1, s1, s2] at e1
  rw [n3]
  exact e1
theorem xn_end {i : Int} (h0 : 0 ≤ i) (hi : z ≤ i + 2) (e1 : gxn nf z m i.toNat g X = R) : R = X := by
  have c1 : ¬ ((i.toNat : Nat) : Int) + 2 < z := by omega
  cases m with
  | zero => exact e1.symm
  | succ m =>
    have f1 : gxn nf z (m + 1) i.toNat g X = X := if_neg c1
    exact e1.symm.trans f1
theorem gxn_c {nb nm : Nat → Int64} {c : Nat} (N : NT nb nm c) (hz : z ≤ 60) : ∀ (m i : Nat) (g h : Nat → Int32) (X : DX), tgd g h → (h 0).toInt ≤ 16 → gxn nb z m i g X = gxn (fun q => nm (c + q)) z m i h X := by
  intro m
  induction m with
  | zero => exact fun i g h X _ _ => rfl
  | succ m ih =>
    intro i g h X T hh
    by_cases q : (i : Int) + 2 < z
    · have f1 : gxn nb z (m + 1) i g X = gxn nb z m (i + 3) (gst g (nb i).toInt (nb (i + 1)).toInt (nb (i + 2)).toInt) (gsX g X (nb i).toInt (nb (i + 1)).toInt (nb (i + 2)).toInt) := if_pos q
      have f3 : gxn (fun q => nm (c + q)) z (m + 1) i h X = gxn (fun q => nm (c + q)) z m (i + 3) (gst h (nm (c + i)).toInt (nm (c + (i + 1))).toInt (nm (c + (i + 2))).toInt) (gsX h X (nm (c + i)).toInt (nm (c + (i + 1))).toInt (nm (c + (i + 2))).toInt) := if_pos q
      have n0 := N i (by omega)
      have n1 := N (i + 1) (by omega)
      have n2 := N (i + 2) (by omega)
      obtain ⟨c1, _⟩ := gst_c (A := (nm (c + i)).toInt) (B := (nm (c + (i + 1))).toInt) (P := (nm (c + (i + 2))).toInt) T hh
      rw [f1, f3, n0, n1, n2, gsX_c T hh]
      exact ih (i + 3) _ _ _ c1 (by rw [gst_0 hh]; exact hh)
    · have f1 : gxn nb z (m + 1) i g X = X := if_neg q
      have f3 : gxn (fun q => nm (c + q)) z (m + 1) i h X = X := if_neg q
      rw [f1, f3]
end DXT
/-! the answers -/
def fldD (w : Int) (d : D5) : Int := if w = 0 then d.2.1 else if w = 1 then d.2.2.1 else if w = 2 then d.2.2.2.1 else if w = 3 then d.2.2.2.2 else -1
def dbR (a n w : Int) (L : List D5) (r : Int) : Prop := ∃ k : Int, nth9 a n L k ∧ ((k < 0 ∧ r = -1) ∨ (0 ≤ k ∧ ∃ d : D5, L[k.toNat]? = some d ∧ r = fldD w d))
noncomputable def owN (C : List LN) (L : List D5) (a b i : Int) : Int := if i < 0 then -1 else match C[i.toNat]? with
  | none => -1
  | some x => @ite Int (hasB b a x.2.1 L) (Classical.propDecidable _) (-1) x.2.1
def fsF (N rk : Nat → Int) : Nat → Int × Int
  | 0 => (-1, 0)
  | k + 1 => if (fsF N rk k).2 < N k ∨ (0 ≤ (fsF N rk k).1 ∧ N k = (fsF N rk k).2 ∧ rk (fsF N rk k).1.toNat < rk k) then ((k : Int), N k) else fsF N rk k
section ANS
variable {a b n w k r r' dz ln us i : Int} {L : List D5} {C : List LN} {x : LN} {f0 f1 f2 f3 f4 op ks pa kd wi st sp ts : Nat → Int32} {N rk : Nat → Int}
theorem rB_i : ∀ (L : List D5) (o j : Nat) (d : D5), rB f0 f1 f2 f3 f4 o L → L[j]? = some d → rw5 f0 f1 f2 f3 f4 (o + j) d := by
  intro L
  induction L with
  | nil => intro o j d _ h; rw [List.getElem?_nil] at h; cases h
  | cons e L ih =>
    intro o j d H h
    cases j with
    | zero =>
      rw [List.getElem?_cons_zero] at h
      rw [← Option.some.inj h]
      exact H.1
    | succ j =>
      rw [List.getElem?_cons_succ] at h
      have := ih (o + 1) j d H.2 h
      rw [show o + (j + 1) = o + 1 + j by omega]
      exact this
theorem nt_k (h : nth9 a n L k) (h0 : 0 ≤ k) : ∃ d : D5, L[k.toNat]? = some d := by
  rcases h with ⟨h1, _⟩ | ⟨P, d, Q, e, hP, _⟩
  · omega
  · refine ⟨d, ?_⟩
    rw [e, List.getElem?_append_right (by omega), show k.toNat - P.length = 0 by omega]
    rfl
theorem db_u (h : dbR a n w L r) (h' : dbR a n w L r') : r = r' := by
  obtain ⟨k, k1, k2⟩ := h
  obtain ⟨j, j1, j2⟩ := h'
  have e := nt_u k1 j1
  subst e
  rcases k2 with ⟨q1, q2⟩ | ⟨q1, d, q2, q3⟩
  · rcases j2 with ⟨p1, p2⟩ | ⟨p1, d', p2, p3⟩
    · omega
    · omega
  · rcases j2 with ⟨p1, p2⟩ | ⟨p1, d', p2, p3⟩
    · omega
    · rw [q2] at p2
      rw [q3, p3, Option.some.inj p2]
theorem db_n (h : nth9 a n L k) (h0 : k < 0) (hr : r = -1) : dbR a n w L r := ⟨k, h, Or.inl ⟨h0, hr⟩⟩
theorem db_y (h : nth9 a n L k) (h0 : 0 ≤ k) (hr : ∀ d : D5, L[k.toNat]? = some d → r = fldD w d) : dbR a n w L r := by
  obtain ⟨d, hd⟩ := nt_k h h0
  exact ⟨k, h, Or.inr ⟨h0, d, hd, hr d hd⟩⟩
theorem fl_0d {d : D5} (h : w = 0) : fldD w d = d.2.1 := if_pos h
theorem fl_1d {d : D5} (h : w = 1) : fldD w d = d.2.2.1 := by unfold fldD; rw [if_neg (by omega), if_pos h]
theorem fl_2d {d : D5} (h : w = 2) : fldD w d = d.2.2.2.1 := by unfold fldD; rw [if_neg (by omega), if_neg (by omega), if_pos h]
theorem fl_3d {d : D5} (h : w = 3) : fldD w d = d.2.2.2.2 := by unfold fldD; rw [if_neg (by omega), if_neg (by omega), if_neg (by omega), if_pos h]
theorem fl_nd {d : D5} (h : w < 0 ∨ 3 < w) : fldD w d = -1 := by unfold fldD; rw [if_neg (by omega), if_neg (by omega), if_neg (by omega), if_neg (by omega)]
theorem ow_0 (h : i < 0) : owN C L a b i = -1 := if_pos h
theorem ow_h (h : 0 ≤ i) (hx : C[i.toNat]? = some x) (ho : hasB b a x.2.1 L) : owN C L a b i = -1 := by
  unfold owN
  rw [if_neg (by omega), hx]
  exact @if_pos _ (Classical.propDecidable _) ho _ _ _
theorem ow_x (h : 0 ≤ i) (hx : C[i.toNat]? = some x) (ho : ¬ hasB b a x.2.1 L) : owN C L a b i = x.2.1 := by
  unfold owN
  rw [if_neg (by omega), hx]
  exact @if_neg _ (Classical.propDecidable _) ho _ _ _
/-- owes: by the line that is taken -/
theorem ow_r {p on r1 r2 kn kv : Int} (e : i = dlI C L b p on r1 r2 kn) (h : (i < 0 ∧ r = -1) ∨ (0 ≤ i ∧ ∀ x : LN, C[i.toNat]? = some x → (hasB b a x.2.1 L ∧ r = -1) ∨ (¬ hasB b a x.2.1 L ∧ r = x.2.1))) : r = owN C L a b (dlI C L b p on r1 r2 kn) := by
  rw [← e]
  rcases h with ⟨h1, h2⟩ | ⟨h1, h2⟩
  · rw [ow_0 h1, h2]
  · have e2 := e
    unfold dlI at e2
    rw [e2] at h1
    obtain ⟨x, hx⟩ := li_x h1
    rw [← e2] at hx h1
    rcases h2 x hx with ⟨q1, q2⟩ | ⟨q1, q2⟩
    · rw [ow_h h1 hx q1, q2]
    · rw [ow_x h1 hx q1, q2]
theorem fs_b : ∀ m : Nat, (∀ k : Nat, 0 ≤ N k) → ((fsF N rk m).1 = -1 ∧ (fsF N rk m).2 = 0) ∨ (0 ≤ (fsF N rk m).1 ∧ (fsF N rk m).1 < (m : Int) ∧ 0 < (fsF N rk m).2) := by
  intro m h
  induction m with
  | zero => exact Or.inl ⟨rfl, rfl⟩
  | succ m ih =>
    have e : fsF N rk (m + 1) = if (fsF N rk m).2 < N m ∨ (0 ≤ (fsF N rk m).1 ∧ N m = (fsF N rk m).2 ∧ rk (fsF N rk m).1.toNat < rk m) then ((m : Int), N m) else fsF N rk m := rfl
    rw [e]
    have h0 := h m
    split
    · next q =>
      refine Or.inr ⟨Int.natCast_nonneg m, by show (m : Int) < ((m + 1 : Nat) : Int); omega, ?_⟩
      show 0 < N m
      omega
    · next q => omega
end ANS
theorem fsx_y {N rk : Nat → Int} {m : Nat} {b s b' s' : Int} (h : s < N m ∨ (0 ≤ b ∧ N m = s ∧ rk b.toNat < rk m)) (h1 : b = (fsF N rk m).1) (h2 : s = (fsF N rk m).2) (e2 : s' = N m) (e1 : b' = (m : Int)) : b' = (fsF N rk (m + 1)).1 ∧ s' = (fsF N rk (m + 1)).2 := by
  have e : fsF N rk (m + 1) = ((m : Int), N m) := by
    rw [h1, h2] at h
    exact if_pos h
  rw [e]
  exact ⟨e1, e2⟩
theorem fsx_n {N rk : Nat → Int} {m : Nat} {b s : Int} (h1 : b = (fsF N rk m).1) (h2 : s = (fsF N rk m).2) (h : ¬ (s < N m ∨ (0 ≤ b ∧ N m = s ∧ rk b.toNat < rk m))) : b = (fsF N rk (m + 1)).1 ∧ s = (fsF N rk (m + 1)).2 := by
  have e : fsF N rk (m + 1) = fsF N rk m := by
    rw [h1, h2] at h
    exact if_neg h
  rw [e]
  exact ⟨h1, h2⟩
/-! the reference's side -/
noncomputable def goB (X : DX) (a b p on r1 r2 kn : Int) : List D5 := if p = 4 then X.1 else dlB X.2.1 X.1 a b p on r1 r2 kn
def goN (X : DX) (a b p : Int) : Int := if p = 4 then 0 else gpN X a b p
def goM (X : DX) (w w' : Nat → Int32) (a b p on r : Int) : Prop := r = goN X a b p ∧ mB w' (goB X a b p on (w (12 + 9 * a.toNat)).toInt (w (12 + 9 * b.toNat)).toInt (gk w a b)) ∧ cdM w' X.2.1
section REF
variable {w w' f f1 f2 f3 : Nat → Int32} {X : DX} {a b p on r k kv dv i : Int} {L : List D5} {C : List LN} {x : LN}
theorem cm_f (H : cdM w C) (F : wfr w f) (h24 : (w 1).toInt ≤ 24) (h180 : (w 2).toInt ≤ 180) (h350 : (w 3).toInt ≤ 350) : cdM f C := cm_c H h24 h180 h350 (fun j hj => F j (by omega))
theorem mB_le (H : mB w L) (h : (w 7).toInt ≤ 600) : L.length ≤ 960 := by
  have := H.1
  omega
theorem mB_k (H : mB w L) (h : (w 7).toInt ≤ 600) (ha : 0 ≤ a ∧ a < 16) (hb : 0 ≤ b ∧ b < 16) : mB (kno w (1864 + a.toNat) (1864 + b.toNat) a b) L := mB_c H (kno_o (by omega) (by omega)) (fun j j1 j2 => kno_o (by omega) (by omega)) (mB_le H h)
theorem cm_k (H : cdM w C) (h24 : (w 1).toInt ≤ 24) (h180 : (w 2).toInt ≤ 180) (h350 : (w 3).toInt ≤ 350) (ha : 0 ≤ a ∧ a < 16) (hb : 0 ≤ b ∧ b < 16) : cdM (kno w (1864 + a.toNat) (1864 + b.toNat) a b) C := cm_c H h24 h180 h350 (fun j hj => kno_o (by omega) (by omega))
/-- a deed that pays -/
theorem go_n (hp : p ≠ 4) (e1 : r = gpN X a b p) (h2 : mB w' (dlB X.2.1 X.1 a b p on (w (12 + 9 * a.toNat)).toInt (w (12 + 9 * b.toNat)).toInt (gk w a b))) (h3 : cdM w' X.2.1) : goM X w w' a b p on r := by
  unfold goM goN goB
  rw [if_neg hp, if_neg hp]
  exact ⟨e1, h2, h3⟩
theorem go_4 (hp : p = 4) (e1 : r = 0) (h2 : mB w' X.1) (h3 : cdM w' X.2.1) : goM X w w' a b p on r := by
  unfold goM goN goB
  rw [if_pos hp, if_pos hp]
  exact ⟨e1, h2, h3⟩
theorem gl_i {iv kc : Int32} (T : tgd w f) (ha : 0 ≤ a ∧ a < 16) (hb : 0 ≤ b ∧ b < 16) (hk : gk f a b = kc.toInt) (e : iv.toInt = lnr p (fct (f (12 + 9 * a.toNat)).toInt (f (12 + 9 * b.toNat)).toInt (cnt (ofB b) L) on kc.toInt) C 0) : iv.toInt = dlI C L b p on (w (12 + 9 * a.toNat)).toInt (w (12 + 9 * b.toNat)).toInt (gk w a b) := by
  unfold dlI
  rw [gk_c T ha, hk, ← T (12 + 9 * a.toNat) (by unfold sgd; omega), ← T (12 + 9 * b.toNat) (by unfold sgd; omega)]
  exact e
theorem cd_k {l : Nat} (H : cdM w C) (hx : C[l]? = some x) : (w (155 + 5 * l)).toInt = x.2.1 ∧ (w (156 + 5 * l)).toInt = x.2.2.1 ∧ okL x := ⟨(H.2 l x hx).2.2.1, (H.2 l x hx).2.2.2.1, (H.2 l x hx).1⟩
theorem due_m {dv sv av wv : Int32} {z : Int} (e : sv = av + wv) (hm : dv.toInt = min 399 sv.toInt) (ha : 0 ≤ av.toInt ∧ av.toInt ≤ 399) (hw : wv.toInt = z) (hz : 0 ≤ z ∧ z ≤ 99) : dv.toInt = min 399 (av.toInt + z) := by
  have q := ba_add (l1 := 0) (h1 := 399) (l2 := 0) (h2 := 99) e ha ⟨by omega, by omega⟩ (by decide)
  omega
theorem gde_lo {j : Nat} (h1 : j < 6680) (h2 : j ≠ 8) : gde w a b p j = w j := gde_o (Or.inl h1) h2
/-- what is written of a deed -/
theorem no_m {dv n : Int32} {rr : Int} (H : mxt X w) (hp : 0 ≤ p ∧ p ≤ 4) (ha : 0 ≤ a ∧ a < 16) (hb : 0 ≤ b ∧ b < 16) (e : f = gde w a b p) (h24 : (w 1).toInt ≤ 24) (h180 : (w 2).toInt ≤ 180) (h350 : (w 3).toInt ≤ 350) (h7 : (w 7).toInt ≤ 600) (G : ∀ Y : DX, mB f Y.1 → cdM f Y.2.1 → goM Y f f1 a b p on rr) (ho : on = (w 6).toInt) (e9 : (f1 9).toInt = (f 9).toInt) (hv : dv = f1 9 + n) (hn : n.toInt = rr) (hs : upd f1 9 dv = w') (h24' : (f1 1).toInt ≤ 24) (h180' : (f1 2).toInt ≤ 180) (h350' : (f1 3).toInt ≤ 350) (h7' : (f1 7).toInt ≤ 600) : rr = goN X a b p ∧ mxt (gdX w X a b p) w' := by
  obtain ⟨m1, m2, m3⟩ := H
  have O : ∀ j : Nat, j < 6680 → j ≠ 8 → f j = w j := fun j j1 j2 => by rw [e]; exact gde_lo j1 j2
  have M1 : mB f X.1 := mB_c m1 (O 7 (by decide) (by decide)) (fun j j1 j2 => O j (by omega) (by omega)) (mB_le m1 h7)
  have M2 : cdM f X.2.1 := cm_c m2 h24 h180 h350 (fun j hj => O j (by omega) (by omega))
  obtain ⟨g1, g2, g3⟩ := G X M1 M2
  have k9 : gk f a b = gk w a b := by
    unfold gk qk
    show (if (f (1864 + a.toNat)).toInt.toNat.testBit b.toNat then (1 : Int) else 0) = if (w (1864 + a.toNat)).toInt.toNat.testBit b.toNat then (1 : Int) else 0
    rw [O (1864 + a.toNat) (by omega) (by omega)]
  rw [O (12 + 9 * a.toNat) (by omega) (by omega), O (12 + 9 * b.toNat) (by omega) (by omega), k9, ho] at g2
  have N : ∀ j : Nat, j ≠ 9 → w' j = f1 j := fun j hj => by rw [← hs]; exact upd_n hj
  have B2 : mB w' (goB X a b p (w 6).toInt (w (12 + 9 * a.toNat)).toInt (w (12 + 9 * b.toNat)).toInt (gk w a b)) := mB_c g2 (N 7 (by decide)) (fun j j1 j2 => N j (by omega)) (mB_le g2 h7')
  have B3 : cdM w' X.2.1 := cm_c g3 h24' h180' h350' (fun j hj => N j (by omega))
  have e92 : f1 9 = w 9 := (Int32.toInt_inj.mp e9).trans (O 9 (by decide) (by decide))
  have W9 : w' 9 = X.2.2 + n := by rw [← hs, upd_h rfl, hv, e92, m3]
  refine ⟨g1, ?_⟩
  by_cases z : p = 4
  · have q0 : goN X a b p = 0 := if_pos z
    have q1 : goB X a b p (w 6).toInt (w (12 + 9 * a.toNat)).toInt (w (12 + 9 * b.toNat)).toInt (gk w a b) = X.1 := if_pos z
    rw [q1] at B2
    have n0 : n = 0 := Int32.toInt_inj.mp (by rw [hn, g1, q0]; decide)
    rw [z, gdX_4]
    refine ⟨B2, B3, ?_⟩
    rw [W9, n0]
    exact Int32.add_zero _
  · have q0 : goN X a b p = gpN X a b p := if_neg z
    have q1 : goB X a b p (w 6).toInt (w (12 + 9 * a.toNat)).toInt (w (12 + 9 * b.toNat)).toInt (gk w a b) = gdB w X a b p := if_neg z
    rw [q1] at B2
    rw [gdX_n z]
    refine ⟨B2, B3, ?_⟩
    rw [W9, ← q0, ← g1, ← hn, Int32.ofInt_toInt]
end REF
section REM
variable {w w' : Nat → Int32} {a b n q k r i : Int} {L : List D5} {N rk N2 rk2 : Nat → Int}
theorem rM_i {j : Nat} {d : D5} (H : mB w L) (h : L[j]? = some d) : rw5 (fun i => w (1880 + 5 * i)) (fun i => w (1881 + 5 * i)) (fun i => w (1882 + 5 * i)) (fun i => w (1883 + 5 * i)) (fun i => w (1884 + 5 * i)) j d := by
  have h2 := rB_i L 0 j d H.2 h
  rw [Nat.zero_add] at h2
  exact h2
/-- the reference's debt(): by the field that is asked for -/
theorem dm_y {c : Int} (h : nth9 a n L k) (h0 : 0 ≤ k) (H : mB w L) (hq : 0 ≤ q ∧ q ≤ 3) (hc : c = 1881 + q) (e : r = (w (c.toNat + 5 * k.toNat)).toInt) : dbR a n q L r := by
  refine db_y h h0 (fun d hd => ?_)
  have h1 := rM_i H hd
  rcases (show q = 0 ∨ q = 1 ∨ q = 2 ∨ q = 3 by omega) with z | z | z | z
  · rw [fl_0d z, e, show c.toNat = 1881 by omega]; exact h1.2.1
  · rw [fl_1d z, e, show c.toNat = 1882 by omega]; exact h1.2.2.1
  · rw [fl_2d z, e, show c.toNat = 1883 by omega]; exact h1.2.2.2.1
  · rw [fl_3d z, e, show c.toNat = 1884 by omega]; exact h1.2.2.2.2
theorem db_nn (hn : n < 0) : dbR a n q L (-1) := ⟨-1, Or.inl ⟨rfl, Or.inl hn⟩, Or.inl ⟨by decide, rfl⟩⟩
theorem db_nf (hq : q < 0 ∨ 3 < q) : dbR a n q L (-1) := by
  by_cases z : n < 0 ∨ cnt (ofB a) L ≤ n
  · exact ⟨-1, Or.inl ⟨rfl, z⟩, Or.inl ⟨by decide, rfl⟩⟩
  · have key : ∀ (L : List D5) (n : Int), 0 ≤ n → n < cnt (ofB a) L → ∃ (P : List D5) (d : D5) (Q : List D5), L = P ++ d :: Q ∧ d.1 = a ∧ cnt (ofB a) P = n := by
      intro L
      induction L with
      | nil => intro n h0 h1; have e : cnt (ofB a) [] = 0 := rfl; omega
      | cons e L ih =>
        intro n h0 h1
        have c : cnt (ofB a) (e :: L) = cnt (ofB a) L + (if ofB a e then 1 else 0) := rfl
        by_cases y : e.1 = a
        · by_cases y0 : n = 0
          · exact ⟨[], e, L, rfl, y, by rw [y0]; rfl⟩
          · rw [c, if_pos (of_t y)] at h1
            obtain ⟨P, d, Q, p1, p2, p3⟩ := ih (n - 1) (by omega) (by omega)
            refine ⟨e :: P, d, Q, by rw [p1]; rfl, p2, ?_⟩
            have c2 : cnt (ofB a) (e :: P) = cnt (ofB a) P + (if ofB a e then 1 else 0) := rfl
            rw [c2, if_pos (of_t y)]
            omega
        · rw [c, if_neg (by rw [of_f y]; decide)] at h1
          obtain ⟨P, d, Q, p1, p2, p3⟩ := ih n h0 (by omega)
          refine ⟨e :: P, d, Q, by rw [p1]; rfl, p2, ?_⟩
          have c2 : cnt (ofB a) (e :: P) = cnt (ofB a) P + (if ofB a e then 1 else 0) := rfl
          rw [c2, if_neg (by rw [of_f y]; decide)]
          omega
    obtain ⟨P, d, Q, p1, p2, p3⟩ := key L n (by omega) (by omega)
    have hk : nth9 a n L (P.length : Int) := Or.inr ⟨P, d, Q, p1, rfl, p2, p3⟩
    exact db_y hk (Int.natCast_nonneg _) (fun d _ => (fl_nd hq).symm)
theorem fs_c : ∀ m : Nat, (∀ k : Nat, k < m → N k = N2 k ∧ rk k = rk2 k) → fsF N rk m = fsF N2 rk2 m := by
  intro m
  induction m with
  | zero => intro _; rfl
  | succ m ih =>
    intro h
    have e := ih (fun k hk => h k (by omega))
    have hm := h m (Nat.lt_succ_self m)
    have u1 : fsF N rk (m + 1) = if (fsF N rk m).2 < N m ∨ (0 ≤ (fsF N rk m).1 ∧ N m = (fsF N rk m).2 ∧ rk (fsF N rk m).1.toNat < rk m) then ((m : Int), N m) else fsF N rk m := rfl
    have u2 : fsF N2 rk2 (m + 1) = if (fsF N2 rk2 m).2 < N2 m ∨ (0 ≤ (fsF N2 rk2 m).1 ∧ N2 m = (fsF N2 rk2 m).2 ∧ rk2 (fsF N2 rk2 m).1.toNat < rk2 m) then ((m : Int), N2 m) else fsF N2 rk2 m := rfl
    rw [u1, u2, ← e, hm.1, hm.2]
    have b9 : ∀ j : Nat, (fsF N rk j).1 < (j : Int) ∨ (fsF N rk j).1 = -1 := by
      intro j
      induction j with
      | zero => exact Or.inr rfl
      | succ j ihj =>
        have u3 : fsF N rk (j + 1) = if (fsF N rk j).2 < N j ∨ (0 ≤ (fsF N rk j).1 ∧ N j = (fsF N rk j).2 ∧ rk (fsF N rk j).1.toNat < rk j) then ((j : Int), N j) else fsF N rk j := rfl
        rw [u3]
        split
        · exact Or.inl (by show (j : Int) < ((j + 1 : Nat) : Int); omega)
        · rcases ihj with q | q
          · exact Or.inl (by omega)
          · exact Or.inr q
    by_cases z : 0 ≤ (fsF N rk m).1
    · have hb := b9 m
      rw [(h (fsF N rk m).1.toNat (by omega)).2]
    · by_cases y : (fsF N rk m).2 < N2 m
      · rw [if_pos (Or.inl y), if_pos (Or.inl y)]
      · rw [if_neg (fun q => q.elim y (fun q => z q.1)), if_neg (fun q => q.elim y (fun q => z q.1))]
end REM
theorem s4_c {x : Int32} (h0 : 1 ≤ x.toInt) (h1 : x.toInt ≤ 4) : (x = 1 ∧ True) ∨ (x = 2 ∧ True) ∨ (x = 3 ∧ True) ∨ (x = 4 ∧ True) := by
  rcases (show x.toInt = 1 ∨ x.toInt = 2 ∨ x.toInt = 3 ∨ x.toInt = 4 by omega) with h | h | h | h
  · exact Or.inl ⟨Int32.toInt_inj.mp (h.trans (by decide)), trivial⟩
  · exact Or.inr (Or.inl ⟨Int32.toInt_inj.mp (h.trans (by decide)), trivial⟩)
  · exact Or.inr (Or.inr (Or.inl ⟨Int32.toInt_inj.mp (h.trans (by decide)), trivial⟩))
  · exact Or.inr (Or.inr (Or.inr ⟨Int32.toInt_inj.mp (h.trans (by decide)), trivial⟩))
section SMX
variable {g h w w' : Nat → Int32} {X Y : DX} {nf : Nat → Int64} {z : Int}
theorem smx_y {i : Int} {a b p : Int} (ea : a = qsm nf z i) (eb : b = qsm nf z (i + 1)) (ep : p = qsm nf z (i + 2)) (h : gok g a b p) : gsX g X (nf i.toNat).toInt (nf (i + 1).toNat).toInt (nf (i + 2).toNat).toInt = gdX g X a b p := by
  have h1 := (qsm_y ea h.1.1).1
  have h2 := (qsm_y eb h.1.2.2.1).1
  have h3 := (qsm_y ep h.2.1).1
  rw [← h1, ← h2, ← h3]
  exact gsX_y h
theorem smx_n {i : Int} {a b p : Int} (hi : 0 ≤ i ∧ i + 2 < z) (hh : (g 0).toInt ≤ 16) (ea : a = qsm nf z i) (eb : b = qsm nf z (i + 1)) (ep : p = qsm nf z (i + 2)) (h : ¬ gok g a b p) : gsX g X (nf i.toNat).toInt (nf (i + 1).toNat).toInt (nf (i + 2).toNat).toInt = X := by
  apply gsX_n
  intro q
  apply h
  have h0 := q.1
  have h1 := q.1.1
  have h2 := q.1.2.1
  have h3 := q.1.2.2.1
  have h4 := q.1.2.2.2.1
  have h5 := q.2.1
  have h6 := q.2.2.1
  rw [ea, eb, ep, qsm_i ⟨by omega, by omega⟩ ⟨h1, by omega⟩, qsm_i ⟨by omega, by omega⟩ ⟨h3, by omega⟩, qsm_i ⟨by omega, by omega⟩ ⟨h5, by omega⟩]
  exact q
/-- a step of a slot's row, on the reference's side, with the debts -/
theorem dx_step {i i' : Int} {m : Nat} {x0 x1 x2 : Int} {g1 R : Nat → Int32} {X1 X2 RX : DX} (T : tgd g1 w) (hh : (w 0).toInt ≤ 16) (hm : i + 3 * (m : Int) = 60) (h0 : 0 ≤ i) (hi : i + 2 < z) (hz : z ≤ 60) (e1 : gdn nf z m i.toNat g1 = R) (e3 : gxn nf z m i.toNat g1 X1 = RX) (n0 : (nf i.toNat).toInt = x0) (n1 : (nf (i + 1).toNat).toInt = x1) (n2 : (nf (i + 2).toNat).toInt = x2) (s : tgd (gst w x0 x1 x2) w' ∧ gsX w X1 x0 x1 x2 = X2 ∧ mxt X2 w') (hi' : i' = i + 3) : ∃ (m' : Nat) (g3 : Nat → Int32) (X3 : DX), i' + 3 * (m' : Int) = 60 ∧ tgd g3 w' ∧ mxt X3 w' ∧ gdn nf z m' i'.toNat g3 = R ∧ gxn nf z m' i'.toNat g3 X3 = RX := by
  subst n0 n1 n2
  obtain ⟨c1, c2⟩ := gst_c (A := (nf i.toNat).toInt) (B := (nf (i + 1).toNat).toInt) (P := (nf (i + 2).toNat).toInt) T hh
  obtain ⟨m2, k1, k2, k3⟩ := dn_step (g2 := gst g1 (nf i.toNat).toInt (nf (i + 1).toNat).toInt (nf (i + 2).toNat).toInt) (d := gsn g1 (nf i.toNat).toInt (nf (i + 1).toNat).toInt (nf (i + 2).toNat).toInt) (i' := i') (made := 0) (made' := 0 + gsn g1 (nf i.toNat).toInt (nf (i + 1).toNat).toInt (nf (i + 2).toNat).toInt) hm h0 hi hz e1 rfl ⟨rfl, rfl⟩ rfl hi'
  have hm2 : m = m2 + 1 := by omega
  subst hm2
  have k4 := xn_step (X' := X2) hm h0 hi e3 rfl (by rw [gsX_c T hh]; exact s.2.1) hi'
  exact ⟨m2, _, X2, k1, tgd_t c1 s.1, s.2.2, k2, k4⟩
end SMX

/-! count() -/
def couR (hs ln dy sz ov ds pd ts it fr fl w : Int) : Int := if w = 0 then hs else if w = 1 then ln else if w = 2 then dy else if w = 3 then sz else if w = 4 then ov else if w = 5 then ds else if w = 6 then pd else if w = 7 then ts else if w = 8 then it else if w = 9 then fr else if w = 10 then fl else -1
def fl1 (m : Int) : Int := if m = -1 then 0 else 1
section COU
variable {hs ln dy sz ov ds pd ts it fr fl w m : Int}
theorem cou_0 (h : w = 0) : couR hs ln dy sz ov ds pd ts it fr fl w = hs := by
  unfold couR
  rw [if_pos h]
theorem cou_1 (h : w = 1) : couR hs ln dy sz ov ds pd ts it fr fl w = ln := by
  unfold couR
  rw [if_neg (show ¬ w = 0 by omega), if_pos h]
theorem cou_2 (h : w = 2) : couR hs ln dy sz ov ds pd ts it fr fl w = dy := by
  unfold couR
  rw [if_neg (show ¬ w = 0 by omega), if_neg (show ¬ w = 1 by omega), if_pos h]
theorem cou_3 (h : w = 3) : couR hs ln dy sz ov ds pd ts it fr fl w = sz := by
  unfold couR
  rw [if_neg (show ¬ w = 0 by omega), if_neg (show ¬ w = 1 by omega), if_neg (show ¬ w = 2 by omega), if_pos h]
theorem cou_4 (h : w = 4) : couR hs ln dy sz ov ds pd ts it fr fl w = ov := by
  unfold couR
  rw [if_neg (show ¬ w = 0 by omega), if_neg (show ¬ w = 1 by omega), if_neg (show ¬ w = 2 by omega), if_neg (show ¬ w = 3 by omega), if_pos h]
theorem cou_5 (h : w = 5) : couR hs ln dy sz ov ds pd ts it fr fl w = ds := by
  unfold couR
  rw [if_neg (show ¬ w = 0 by omega), if_neg (show ¬ w = 1 by omega), if_neg (show ¬ w = 2 by omega), if_neg (show ¬ w = 3 by omega), if_neg (show ¬ w = 4 by omega), if_pos h]
theorem cou_6 (h : w = 6) : couR hs ln dy sz ov ds pd ts it fr fl w = pd := by
  unfold couR
  rw [if_neg (show ¬ w = 0 by omega), if_neg (show ¬ w = 1 by omega), if_neg (show ¬ w = 2 by omega), if_neg (show ¬ w = 3 by omega), if_neg (show ¬ w = 4 by omega), if_neg (show ¬ w = 5 by omega), if_pos h]
theorem cou_7 (h : w = 7) : couR hs ln dy sz ov ds pd ts it fr fl w = ts := by
  unfold couR
  rw [if_neg (show ¬ w = 0 by omega), if_neg (show ¬ w = 1 by omega), if_neg (show ¬ w = 2 by omega), if_neg (show ¬ w = 3 by omega), if_neg (show ¬ w = 4 by omega), if_neg (show ¬ w = 5 by omega), if_neg (show ¬ w = 6 by omega), if_pos h]
theorem cou_8 (h : w = 8) : couR hs ln dy sz ov ds pd ts it fr fl w = it := by
  unfold couR
  rw [if_neg (show ¬ w = 0 by omega), if_neg (show ¬ w = 1 by omega), if_neg (show ¬ w = 2 by omega), if_neg (show ¬ w = 3 by omega), if_neg (show ¬ w = 4 by omega), if_neg (show ¬ w = 5 by omega), if_neg (show ¬ w = 6 by omega), if_neg (show ¬ w = 7 by omega), if_pos h]
theorem cou_9 (h : w = 9) : couR hs ln dy sz ov ds pd ts it fr fl w = fr := by
  unfold couR
  rw [if_neg (show ¬ w = 0 by omega), if_neg (show ¬ w = 1 by omega), if_neg (show ¬ w = 2 by omega), if_neg (show ¬ w = 3 by omega), if_neg (show ¬ w = 4 by omega), if_neg (show ¬ w = 5 by omega), if_neg (show ¬ w = 6 by omega), if_neg (show ¬ w = 7 by omega), if_neg (show ¬ w = 8 by omega), if_pos h]
theorem cou_10 (h : w = 10) : couR hs ln dy sz ov ds pd ts it fr fl w = fl := by
  unfold couR
  rw [if_neg (show ¬ w = 0 by omega), if_neg (show ¬ w = 1 by omega), if_neg (show ¬ w = 2 by omega), if_neg (show ¬ w = 3 by omega), if_neg (show ¬ w = 4 by omega), if_neg (show ¬ w = 5 by omega), if_neg (show ¬ w = 6 by omega), if_neg (show ¬ w = 7 by omega), if_neg (show ¬ w = 8 by omega), if_neg (show ¬ w = 9 by omega), if_pos h]
theorem cou_n (h : w < 0 ∨ 10 < w) : couR hs ln dy sz ov ds pd ts it fr fl w = -1 := by
  unfold couR
  rw [if_neg (show ¬ w = 0 by omega), if_neg (show ¬ w = 1 by omega), if_neg (show ¬ w = 2 by omega), if_neg (show ¬ w = 3 by omega), if_neg (show ¬ w = 4 by omega), if_neg (show ¬ w = 5 by omega), if_neg (show ¬ w = 6 by omega), if_neg (show ¬ w = 7 by omega), if_neg (show ¬ w = 8 by omega), if_neg (show ¬ w = 9 by omega), if_neg (show ¬ w = 10 by omega)]
theorem fl1_0 (h : m = -1) : fl1 m = 0 := if_pos h
theorem fl1_1 (h : ¬ m = -1) : fl1 m = 1 := if_neg h
end COU

/-! what the class answers of debts and code, by the data (before the law's calls) -/
def deR (g : Nat → Int32) (X : DX) (a r : Int) : Prop := (r = -2 ∧ ¬ (0 ≤ a ∧ a < (g 0).toInt)) ∨ ((0 ≤ a ∧ a < (g 0).toInt) ∧ r = cnt (ofB a) X.1)
def dtR (g : Nat → Int32) (X : DX) (a n q r : Int) : Prop := (r = -1 ∧ ¬ (0 ≤ a ∧ a < (g 0).toInt)) ∨ ((0 ≤ a ∧ a < (g 0).toInt) ∧ dbR a n q X.1 r)
def slR (g : Nat → Int32) (X : DX) (a r : Int) : Prop := (r = -2 ∧ ¬ (0 ≤ a ∧ a < (g 0).toInt)) ∨ ((0 ≤ a ∧ a < (g 0).toInt) ∧ r = cnt (otB a (g 6).toInt) X.1)
def fiR (g : Nat → Int32) (X : DX) (r : Int) : Prop := r = (fsF (fun q : Nat => cnt (otB (q : Int) (g 6).toInt) X.1) (fun q : Nat => (g (12 + 9 * q)).toInt) (g 0).toInt.toNat).1
def owR (g : Nat → Int32) (X : DX) (a b p r : Int) : Prop := (r = -2 ∧ ¬ (gtw g a b ∧ 0 ≤ p ∧ p ≤ 3)) ∨ ((gtw g a b ∧ 0 ≤ p ∧ p ≤ 3) ∧ r = owN X.2.1 X.1 a b (dlI X.2.1 X.1 b p (g 6).toInt (g (12 + 9 * a.toNat)).toInt (g (12 + 9 * b.toNat)).toInt (gk g a b)))
def couG (g : Nat → Int32) (X : DX) (ts fl q : Int) : Int := couR (g 0).toInt (X.2.1.length : Int) (g 6).toInt (X.1.length : Int) (cnt (odB (g 6).toInt) X.1) (g 8).toInt X.2.2.toInt ts (g 5).toInt (g 4).toInt fl q
section TIE4
variable {g : Nat → Int32} {X : DX} {a b p r n q dz ln us : Int} {hs fr it dy sz pd rv : Int32} {x y r9 w f t c bb o kn wh wm wt wd f0 f1 f2 f3 f4 op ks pa kd wi st sp ts : Nat → Int32}
theorem sx_meet {A B : Int} (S : sdt g hs fr it dy sz x y r9 w f t c bb o kn wh wm wt wd) (H : sxt g X dz f0 f1 f2 f3 f4 op ks ln us pa kd wi st sp ts pd) (hh : hs.toInt ≤ 16) (e : rv.toInt = gme g A B) (h0 : 0 ≤ rv.toInt) : sxt (gdo g A B 4) X dz f0 f1 f2 f3 f4 op ks ln us pa kd wi st sp ts pd := by
  obtain ⟨⟨q1, q2, q3, q4, _⟩, _, _, q5, _⟩ := gok_m (g := g) (A := A) (B := B) (by omega)
  have e0 := congrArg Int32.toInt S.1.1
  have h9 := H.2.2.2
  exact sxt_4 H ⟨q1, by omega⟩ ⟨q3, by omega⟩ ⟨by omega, by omega⟩
theorem de_sd (S : sdt g hs fr it dy sz x y r9 w f t c bb o kn wh wm wt wd) (H : sxt g X dz f0 f1 f2 f3 f4 op ks ln us pa kd wi st sp ts pd) (h : (r = -2 ∧ ¬ (0 ≤ a ∧ a < hs.toInt)) ∨ ((0 ≤ a ∧ a < hs.toInt) ∧ ∀ L, dB dz f0 f1 f2 f3 f4 op ks L → r = cnt (ofB a) L)) : deR g X a r := by
  have e := congrArg Int32.toInt S.1.1
  unfold deR
  rw [← e]
  exact h.imp id (fun q => ⟨q.1, q.2 _ H.1⟩)
theorem sl_sd (S : sdt g hs fr it dy sz x y r9 w f t c bb o kn wh wm wt wd) (H : sxt g X dz f0 f1 f2 f3 f4 op ks ln us pa kd wi st sp ts pd) (h : (r = -2 ∧ ¬ (0 ≤ a ∧ a < hs.toInt)) ∨ ((0 ≤ a ∧ a < hs.toInt) ∧ ∀ L, dB dz f0 f1 f2 f3 f4 op ks L → r = cnt (otB a dy.toInt) L)) : slR g X a r := by
  have e := congrArg Int32.toInt S.1.1
  have e6 := congrArg Int32.toInt S.1.2.2.2.1
  unfold slR
  rw [← e, ← e6]
  exact h.imp id (fun q => ⟨q.1, q.2 _ H.1⟩)
theorem dt_sd (S : sdt g hs fr it dy sz x y r9 w f t c bb o kn wh wm wt wd) (H : sxt g X dz f0 f1 f2 f3 f4 op ks ln us pa kd wi st sp ts pd) (h : (r = -1 ∧ ¬ (0 ≤ a ∧ a < hs.toInt)) ∨ ((0 ≤ a ∧ a < hs.toInt) ∧ ∀ L, dB dz f0 f1 f2 f3 f4 op ks L → dbR a n q L r)) : dtR g X a n q r := by
  have e := congrArg Int32.toInt S.1.1
  unfold dtR
  rw [← e]
  exact h.imp id (fun q => ⟨q.1, q.2 _ H.1⟩)
theorem fi_sd (S : sdt g hs fr it dy sz x y r9 w f t c bb o kn wh wm wt wd) (H : sxt g X dz f0 f1 f2 f3 f4 op ks ln us pa kd wi st sp ts pd) (h : ∀ L, dB dz f0 f1 f2 f3 f4 op ks L → r = (fsF (fun q : Nat => cnt (otB (q : Int) dy.toInt) L) (fun q : Nat => (r9 q).toInt) hs.toInt.toNat).1) : fiR g X r := by
  have e := congrArg Int32.toInt S.1.1
  have e6 := congrArg Int32.toInt S.1.2.2.2.1
  unfold fiR
  rw [← e, ← e6, h _ H.1]
  exact congrArg Prod.fst (fs_c _ (fun k hk => ⟨rfl, congrArg Int32.toInt (S.2.1.1 k (by omega)).2.2.1⟩))
theorem ow_sd (S : sdt g hs fr it dy sz x y r9 w f t c bb o kn wh wm wt wd) (H : sxt g X dz f0 f1 f2 f3 f4 op ks ln us pa kd wi st sp ts pd) (hh : hs.toInt ≤ 16) (h : (r = -2 ∧ ¬ ((0 ≤ a ∧ a < hs.toInt ∧ 0 ≤ b ∧ b < hs.toInt ∧ a ≠ b) ∧ 0 ≤ p ∧ p ≤ 3)) ∨ (((0 ≤ a ∧ a < hs.toInt ∧ 0 ≤ b ∧ b < hs.toInt ∧ a ≠ b) ∧ 0 ≤ p ∧ p ≤ 3) ∧ ∀ C L, cdC ln us pa kd wi st sp ts C → dB dz f0 f1 f2 f3 f4 op ks L → r = owN C L a b (dlI C L b p dy.toInt (r9 a.toNat).toInt (r9 b.toNat).toInt (qk kn a b)))) : owR g X a b p r := by
  have e := congrArg Int32.toInt S.1.1
  have e6 := congrArg Int32.toInt S.1.2.2.2.1
  unfold owR gtw
  rw [← e]
  refine h.imp id (fun q => ⟨q.1, ?_⟩)
  have h9 := q.2 X.2.1 X.1 H.2.1 H.1
  obtain ⟨⟨q1, q2, q3, q4, _⟩, _⟩ := q.1
  rw [(S.2.1.1 a.toNat (by omega)).2.2.1, (S.2.1.1 b.toNat (by omega)).2.2.1, qk_sd S ⟨q1, by omega⟩] at h9
  rw [← e6]
  exact h9
theorem co_sd {u fl : Int} (S : sdt g hs fr it dy sz x y r9 w f t c bb o kn wh wm wt wd) (H : sxt g X dz f0 f1 f2 f3 f4 op ks ln us pa kd wi st sp ts pd) (h : ∀ L, dB dz f0 f1 f2 f3 f4 op ks L → r = couR hs.toInt ln dy.toInt dz (cnt (odB dy.toInt) L) sz.toInt pd.toInt u it.toInt fr.toInt fl q) : r = couG g X u fl q := by
  have h9 := h _ H.1
  unfold couG
  rw [← congrArg Int32.toInt S.1.1, ← congrArg Int32.toInt S.1.2.1, ← congrArg Int32.toInt S.1.2.2.1, ← congrArg Int32.toInt S.1.2.2.2.1, ← congrArg Int32.toInt S.1.2.2.2.2, ← H.1.1, ← H.2.1.1, ← congrArg Int32.toInt H.2.2.1]
  exact h9
theorem sxt_0 : sxt (upd (fun _ => 0) 5 3) (([], [], 0) : DX) (Int32.toInt 0) (fun _ => 0) (fun _ => 0) (fun _ => 0) (fun _ => 0) (fun _ => 0) (fun _ => 0) (fun _ => 0) (Int32.toInt 0) (Int32.toInt 0) (fun _ => 0) (fun _ => 0) (fun _ => 0) (fun _ => 0) (fun _ => 0) (fun _ => 0) 0 := by
  have z0 : Int32.toInt 0 = 0 := by decide
  refine ⟨cl_B (fun _ _ => rfl) (fun _ _ => rfl) z0, ⟨z0, fun l x hx => by rw [List.getElem?_nil] at hx; cases hx⟩, rfl, ?_⟩
  rw [upd_n (by decide)]
  decide
theorem mxt_0 : mxt (([], [], 0) : DX) (fun _ => 0) := ⟨⟨by decide, trivial⟩, ⟨by decide, fun l x hx => by rw [List.getElem?_nil] at hx; cases hx⟩, rfl⟩
end TIE4
