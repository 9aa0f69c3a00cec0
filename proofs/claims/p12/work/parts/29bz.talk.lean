/-! the same on the reference's side -/
def gbr (g : Nat → Int32) (a b p : Int) : Int := if gtw g a b ∧ 0 ≤ p ∧ p ≤ 3 then gba g a b p else -2
def gkr (g : Nat → Int32) (a b : Int) : Int := if gtw g a b then gk g a b else -2
section TKM
variable {f g h g1 g2 : Nat → Int32} {A B P : Int}
theorem gbr_y (h : gtw g A B ∧ 0 ≤ P ∧ P ≤ 3) : gbr g A B P = gba g A B P := if_pos h
theorem gbr_n (h : ¬ (gtw g A B ∧ 0 ≤ P ∧ P ≤ 3)) : gbr g A B P = -2 := if_neg h
theorem gkr_y (h : gtw g A B) : gkr g A B = gk g A B := if_pos h
theorem gkr_n (h : ¬ gtw g A B) : gkr g A B = -2 := if_neg h
theorem gk_h {v x a b : Int32} {k : Int} (e0 : v = f x.toNatClampNeg) (q : x.toInt = 1864 + a.toInt) (ha : 0 ≤ a.toInt) (hk : bq v b = k) : gk f a.toInt b.toInt = k := by
  have n1 : x.toNatClampNeg = 1864 + a.toInt.toNat := by have := cl_to (x := x) (by omega); omega
  rw [← hk, e0, n1]
  rfl
theorem cbs_0 {n k : Int} {x : Nat} (hn : n = 0) (hk : k = 0) : n = (cb k.toNat x : Int) := by
  subst hn hk
  rfl
theorem cbs_s {n n' k k' : Int} {x kk v1 v2 : Int32} (H : n = (cb k.toNat x.toInt.toNat : Int)) (e1 : v1 = x >>> (kk &&& 31)) (e2 : v2 = v1 &&& 1) (hx : 0 ≤ x.toInt) (hkk : kk.toInt = k) (hk : 0 ≤ k ∧ k ≤ 30) (hn : n' = n + v2.toInt) (hk' : k' = k + 1) : n' = (cb k'.toNat x.toInt.toNat : Int) := by
  have q := bq_h e1 e2 hx (by omega)
  have n1 : k'.toNat = k.toNat + 1 := by omega
  have c : cb (k.toNat + 1) x.toInt.toNat = cb k.toNat x.toInt.toNat + (if x.toInt.toNat.testBit k.toNat then 1 else 0) := rfl
  rw [n1, c, hn, q, H]
  unfold bq
  rw [hkk]
  split <;> rfl
theorem cbs_e {n k : Int} {x : Nat} (H : n = (cb k.toNat x : Int)) (h1 : k = 16) : n = (cb 16 x : Int) := by
  subst h1
  exact H
theorem qin_m {v w x a b : Int32} {z : Int} (e : v = a &&& w) (ew : w = f x.toNatClampNeg) (q : x.toInt = 1864 + b.toInt) (hb : 0 ≤ b.toInt) (ha : 0 ≤ a.toInt) (hw : 0 ≤ w.toInt) (hz : z = (cb 16 v.toInt.toNat : Int)) : z = (cb 16 (a.toInt.toNat &&& (f (1864 + b.toInt.toNat)).toInt.toNat) : Int) := by
  have n1 : x.toNatClampNeg = 1864 + b.toInt.toNat := by have := cl_to (x := x) (by omega); omega
  rw [hz, andv_nat e ha hw, ew, n1]
theorem qin_g {v x a : Int32} {b z : Int} (e : v = f x.toNatClampNeg) (q : x.toInt = 1864 + a.toInt) (ha : 0 ≤ a.toInt) (hz : z = (cb 16 (v.toInt.toNat &&& (f (1864 + b.toNat)).toInt.toNat) : Int)) : z = qin (fun j => f (1864 + j)) a.toInt b := by
  have n1 : x.toNatClampNeg = 1864 + a.toInt.toNat := by have := cl_to (x := x) (by omega); omega
  rw [hz, e, n1]
  rfl
theorem kno_m {o f1 f2 : Nat → Int32} {ia ib a b va vb sa sb la lb : Int32} (h1 : upd o ia.toNatClampNeg va = f1) (h2 : upd f1 ib.toNatClampNeg vb = f2) (ea : va = la ||| sb) (eb : vb = lb ||| sa) (ela : la = o ia.toNatClampNeg) (elb : lb = f1 ib.toNatClampNeg) (esb : sb = 1 <<< (b &&& 31)) (esa : sa = 1 <<< (a &&& 31)) (ha : 0 ≤ a.toInt) (hb : 0 ≤ b.toInt) (qa : ia.toInt = 1864 + a.toInt) (qb : ib.toInt = 1864 + b.toInt) : f2 = kno o (1864 + a.toInt.toNat) (1864 + b.toInt.toNat) a.toInt b.toInt := by
  have q1 : ia.toNatClampNeg = 1864 + a.toInt.toNat := by have := cl_to (x := ia) (by omega); omega
  have q2 : ib.toNatClampNeg = 1864 + b.toInt.toNat := by have := cl_to (x := ib) (by omega); omega
  have b1 : qbit a.toInt = sa := by rw [esa]; unfold qbit; rw [Int32.ofInt_toInt]
  have b2 : qbit b.toInt = sb := by rw [esb]; unfold qbit; rw [Int32.ofInt_toInt]
  unfold kno
  rw [b1, b2, ← q1, ← q2, ← ela, ← ea, h1, ← elb, ← eb, h2]
theorem kno_t2 {p q : Nat} {a c : Int} (H : tgd f g) : tgd (kno f p q a c) (kno g p q a c) := by
  intro j hj
  have e := H j hj
  unfold kno upd
  by_cases h2 : j = q
  · rw [if_pos h2, if_pos h2]
    by_cases h3 : q = p
    · rw [if_pos h3, if_pos h3, ← h3, ← h2, e]
    · rw [if_neg h3, if_neg h3, ← h2, e]
  · rw [if_neg h2, if_neg h2]
    by_cases h3 : j = p
    · rw [if_pos h3, if_pos h3, ← h3, e]
    · rw [if_neg h3, if_neg h3, e]
/-- meets, or not -/
def gkn (f : Nat → Int32) (a b p : Int) : Nat → Int32 := if 2 ≤ p then kno f (1864 + a.toNat) (1864 + b.toNat) a b else f
theorem gkn_y (hp : 2 ≤ P) (H : tgd f g) (e : g1 = kno g (1864 + A.toNat) (1864 + B.toNat) A B) : tgd (gkn f A B P) g1 := by
  unfold gkn
  rw [if_pos hp, e]
  exact kno_t2 H
theorem gkn_n (hp : P < 2) (H : tgd f g) : tgd (gkn f A B P) g := by
  unfold gkn
  rw [if_neg (by omega)]
  exact H
theorem upd_t {k : Nat} {v : Int32} (H : tgd f g) : tgd (upd f k v) (upd g k v) := by
  intro j hj
  unfold upd
  split
  · rfl
  · exact H j hj
theorem gde_m {f0 f1 f2 f3 f4 f5 : Nat → Int32} {i0 i1 i2 i3 a b p v3 v4 l : Int32} (e0 : upd f0 i0.toNatClampNeg a = f1) (e1 : upd f1 i1.toNatClampNeg b = f2) (e2 : upd f2 i2.toNatClampNeg p = f3) (e3 : upd f3 i3.toNatClampNeg v3 = f4) (e4 : upd f4 8 v4 = f5) (hn : 0 ≤ (f0 8).toInt) (k0 : i0.toInt = 6680 + 4 * (f0 8).toInt) (k1 : i1.toInt = 6681 + 4 * (f0 8).toInt) (k2 : i2.toInt = 6682 + 4 * (f0 8).toInt) (k3 : i3.toInt = 6683 + 4 * (f0 8).toInt) (h3 : v3.toInt = (f3 6).toInt) (h4 : v4 = l + 1) (hl : l = f4 8) : f5 = gde f0 a.toInt b.toInt p.toInt := by
  have n0 : i0.toNatClampNeg = 6680 + 4 * (f0 8).toInt.toNat := by have := cl_to (x := i0) (by omega); omega
  have n1 : i1.toNatClampNeg = 6681 + 4 * (f0 8).toInt.toNat := by have := cl_to (x := i1) (by omega); omega
  have n2 : i2.toNatClampNeg = 6682 + 4 * (f0 8).toInt.toNat := by have := cl_to (x := i2) (by omega); omega
  have n3 : i3.toNatClampNeg = 6683 + 4 * (f0 8).toInt.toNat := by have := cl_to (x := i3) (by omega); omega
  have z6 : v3 = f0 6 := by
    rw [Int32.toInt_inj.mp h3, ← e2, upd_n (by omega), ← e1, upd_n (by omega), ← e0, upd_n (by omega)]
  have z8 : l = f0 8 := by
    rw [hl, ← e3, upd_n (by omega), ← e2, upd_n (by omega), ← e1, upd_n (by omega), ← e0, upd_n (by omega)]
  unfold gde
  rw [Int32.ofInt_toInt, Int32.ofInt_toInt, Int32.ofInt_toInt, ← n0, ← n1, ← n2, ← n3, e0, e1, e2, ← z6, e3, ← z8, ← h4, e4]
theorem gdo_m {g3 : Nat → Int32} (e : g = gde f A B P) (H : tgd (gkn g A B P) g1) (H2 : tgd g1 g3) : tgd (gdo f A B P) g3 := by
  subst e
  have q : gdo f A B P = gkn (gde f A B P) A B P := rfl
  rw [q]
  exact tgd_t H H2
theorem gda_a (h : ¬ (gtw g A B ∧ 0 ≤ P ∧ P ≤ 3)) : gda g A B P = -2 := if_pos h
theorem gda_b (h : gtw g A B ∧ 0 ≤ P ∧ P ≤ 3) (h2 : gba g A B P ≠ 0) : gda g A B P = -5 := by
  unfold gda
  rw [if_neg (fun q => q h), if_pos h2]
theorem gda_c (h : gtw g A B ∧ 0 ≤ P ∧ P ≤ 3) (h2 : gba g A B P = 0) (h3 : 600 ≤ (g 8).toInt) : gda g A B P = -3 := by
  unfold gda
  rw [if_neg (fun q => q h), if_neg (fun q => q h2), if_pos h3]
theorem gda_d (h : gtw g A B ∧ 0 ≤ P ∧ P ≤ 3) (h2 : gba g A B P = 0) (h3 : (g 8).toInt < 600) : gda g A B P = 0 := by
  unfold gda
  rw [if_neg (fun q => q h), if_neg (fun q => q h2), if_neg (by omega)]
theorem gme_a (h : ¬ gtw g A B) : gme g A B = -2 := if_pos h
theorem gme_b (h : gtw g A B) (h3 : 600 ≤ (g 8).toInt) : gme g A B = -3 := by
  unfold gme
  rw [if_neg (fun q => q h), if_pos h3]
theorem gme_c (h : gtw g A B) (h3 : (g 8).toInt < 600) : gme g A B = 1 - gk g A B := by
  unfold gme
  rw [if_neg (fun q => q h), if_neg (by omega)]
/-- what agrees on the data does alike -/
theorem gtw_c (T : tgd f g) : gtw f A B ↔ gtw g A B := by
  unfold gtw
  rw [T 0 (Or.inl rfl)]
theorem gk_c (T : tgd f g) (ha : 0 ≤ A ∧ A < 16) : gk f A B = gk g A B := by
  have e := T (1864 + A.toNat) (by unfold sgd; omega)
  show (if (f (1864 + A.toNat)).toInt.toNat.testBit B.toNat then (1 : Int) else 0) = (if (g (1864 + A.toNat)).toInt.toNat.testBit B.toNat then (1 : Int) else 0)
  rw [e]
theorem qin_c (T : tgd f g) (ha : 0 ≤ A ∧ A < 16) (hb : 0 ≤ B ∧ B < 16) : qin (fun j => f (1864 + j)) A B = qin (fun j => g (1864 + j)) A B := by
  have e1 := T (1864 + A.toNat) (by unfold sgd; omega)
  have e2 := T (1864 + B.toNat) (by unfold sgd; omega)
  show (cb 16 ((f (1864 + A.toNat)).toInt.toNat &&& (f (1864 + B.toNat)).toInt.toNat) : Int) = (cb 16 ((g (1864 + A.toNat)).toInt.toNat &&& (g (1864 + B.toNat)).toInt.toNat) : Int)
  rw [e1, e2]
theorem gba_c (T : tgd f g) (ha : 0 ≤ A ∧ A < 16) (hb : 0 ≤ B ∧ B < 16) : gba f A B P = gba g A B P := by
  unfold gba
  rw [gk_c T ha, qin_c T ha hb, T (16 + 9 * A.toNat) (by unfold sgd; omega), T (16 + 9 * B.toNat) (by unfold sgd; omega), T 6 (by unfold sgd; omega), T 4 (by unfold sgd; omega), T 5 (by unfold sgd; omega), T (13 + 9 * B.toNat) (by unfold sgd; omega), T (17 + 9 * A.toNat) (by unfold sgd; omega)]
theorem gok_c (T : tgd f g) (hh : (g 0).toInt ≤ 16) : gok f A B P ↔ gok g A B P := by
  unfold gok
  rw [gtw_c T]
  constructor
  · rintro ⟨h1, h2, h3, h4, h5⟩
    unfold gtw at h1
    rw [← T 8 (by unfold sgd; omega)] at h4
    rw [gba_c T (by omega) (by omega)] at h5
    exact ⟨h1, h2, h3, h4, h5⟩
  · rintro ⟨h1, h2, h3, h4, h5⟩
    unfold gtw at h1
    rw [T 8 (by unfold sgd; omega)] at h4
    rw [← gba_c T (by omega) (by omega)] at h5
    exact ⟨h1, h2, h3, h4, h5⟩
theorem gde_c (T : tgd f g) : tgd (gde f A B P) (gde g A B P) := by
  have e8 : g 8 = f 8 := T 8 (by unfold sgd; omega)
  have e6 : g 6 = f 6 := T 6 (by unfold sgd; omega)
  unfold gde
  rw [e8, e6]
  exact upd_t (upd_t (upd_t (upd_t (upd_t T))))
theorem gdo_c (T : tgd f g) : tgd (gdo f A B P) (gdo g A B P) := by
  unfold gdo
  split
  · exact kno_t2 (gde_c T)
  · exact gde_c T
theorem gst_c (T : tgd f g) (hh : (g 0).toInt ≤ 16) : tgd (gst f A B P) (gst g A B P) ∧ gsn f A B P = gsn g A B P := by
  by_cases q : gok g A B P
  · obtain ⟨h1, h2⟩ := gst_y q
    obtain ⟨h3, h4⟩ := gst_y ((gok_c T hh).mpr q)
    rw [h1, h2, h3, h4]
    exact ⟨gdo_c T, rfl⟩
  · obtain ⟨h1, h2⟩ := gst_n q
    obtain ⟨h3, h4⟩ := gst_n (fun z => q ((gok_c T hh).mp z))
    rw [h1, h2, h3, h4]
    exact ⟨T, rfl⟩
theorem gst_0 (hh : (g 0).toInt ≤ 16) : gst g A B P 0 = g 0 := by
  by_cases q : gok g A B P
  · rw [(gst_y q).1]
    have h1 := q.1
    exact gdo_o (Or.inl (by decide)) (by decide) (Or.inl (by decide)) ⟨h1.1, by omega⟩ ⟨h1.2.2.1, by omega⟩
  · rw [(gst_n q).1]
end TKM
section GDM
variable {f g g1 g2 R : Nat → Int32} {nf : Nat → Int64} {z A B P C made made' d : Int}
/-- a step of a slot's row, on the reference's side -/
theorem dm_step {i i' : Int} {m : Nat} {x0 x1 x2 : Int} (T : tgd g1 g) (hh : (g 0).toInt ≤ 16) (hm : i + 3 * (m : Int) = 60) (h0 : 0 ≤ i) (hi : i + 2 < z) (hz : z ≤ 60) (e1 : gdn nf z m i.toNat g1 = R) (e2 : made + gdc nf z m i.toNat g1 = C) (n0 : (nf i.toNat).toInt = x0) (n1 : (nf (i + 1).toNat).toInt = x1) (n2 : (nf (i + 2).toNat).toInt = x2) (s : tgd (gst g x0 x1 x2) g2 ∧ gsn g x0 x1 x2 = d) (hmade : made' = made + d) (hi' : i' = i + 3) : ∃ (m' : Nat) (g3 : Nat → Int32), i' + 3 * (m' : Int) = 60 ∧ tgd g3 g2 ∧ gdn nf z m' i'.toNat g3 = R ∧ made' + gdc nf z m' i'.toNat g3 = C := by
  subst n0 n1 n2
  obtain ⟨c1, c2⟩ := gst_c (A := (nf i.toNat).toInt) (B := (nf (i + 1).toNat).toInt) (P := (nf (i + 2).toNat).toInt) T hh
  obtain ⟨m2, k1, k2, k3⟩ := dn_step (g2 := gst g1 (nf i.toNat).toInt (nf (i + 1).toNat).toInt (nf (i + 2).toNat).toInt) (d := d) (i' := i') (made' := made') hm h0 hi hz e1 e2 ⟨rfl, c2.trans s.2⟩ hmade hi'
  exact ⟨m2, _, k1, tgd_t c1 s.1, k2, k3⟩
theorem ms_y (h : gok g A B P) (H : tgd (gdo g A B P) g2) : tgd (gst g A B P) g2 ∧ gsn g A B P = 1 := by
  obtain ⟨h1, h2⟩ := gst_y h
  rw [h1]
  exact ⟨H, h2⟩
theorem ms_n (h : ¬ gok g A B P) (H : tgd g g2) : tgd (gst g A B P) g2 ∧ gsn g A B P = 0 := by
  obtain ⟨h1, h2⟩ := gst_n h
  rw [h1]
  exact ⟨H, h2⟩
theorem l2i_r {v : Int32} {x : Int64} (e : v = x.toInt32) (h0 : 0 ≤ x.toInt) (h1 : x.toInt ≤ 2147483647) : v.toInt = x.toInt := by
  rw [e, Int64.toInt_toInt32, bm_id (by omega) (by omega)]
end GDM
section LAW
variable {g : Nat → Int32} {hs fr it dy sz r : Int32} {x y r9 w f t c b o kn wh wm wt wd : Nat → Int32} {A B P : Int}
theorem gbr_sd (H : sdt g hs fr it dy sz x y r9 w f t c b o kn wh wm wt wd) (hh : hs.toInt ≤ 16) (h : (r.toInt = -2 ∧ ¬ ((0 ≤ A ∧ A < hs.toInt ∧ 0 ≤ B ∧ B < hs.toInt ∧ A ≠ B) ∧ 0 ≤ P ∧ P ≤ 3)) ∨ (((0 ≤ A ∧ A < hs.toInt ∧ 0 ≤ B ∧ B < hs.toInt ∧ A ≠ B) ∧ 0 ≤ P ∧ P ≤ 3) ∧ r.toInt = qba (c A.toNat).toInt (c B.toNat).toInt dy.toInt fr.toInt (qk kn A B) (qin kn A B) it.toInt (w B.toNat).toInt (b A.toNat).toInt P)) : r.toInt = gbr g A B P := by
  rcases h with ⟨h1, h2⟩ | ⟨h1, h2⟩
  · rw [gbr_n (fun q => h2 ⟨(gtw_sd H).mp q.1, q.2⟩)]
    exact h1
  · rw [gbr_y ⟨(gtw_sd H).mpr h1.1, h1.2⟩, ← ba_sd H hh ⟨h1.1.1, h1.1.2.1⟩ ⟨h1.1.2.2.1, h1.1.2.2.2.1⟩]
    exact h2
theorem gkr_sd (H : sdt g hs fr it dy sz x y r9 w f t c b o kn wh wm wt wd) (hh : hs.toInt ≤ 16) (h : (r.toInt = -2 ∧ ¬ (0 ≤ A ∧ A < hs.toInt ∧ 0 ≤ B ∧ B < hs.toInt ∧ A ≠ B)) ∨ ((0 ≤ A ∧ A < hs.toInt ∧ 0 ≤ B ∧ B < hs.toInt ∧ A ≠ B) ∧ r.toInt = qk kn A B)) : r.toInt = gkr g A B := by
  rcases h with ⟨h1, h2⟩ | ⟨h1, h2⟩
  · rw [gkr_n (fun q => h2 ((gtw_sd H).mp q))]
    exact h1
  · rw [gkr_y ((gtw_sd H).mpr h1), ← qk_sd H (by omega)]
    exact h2
/-- the data of a town just read -/
def gtn (D : Nat → Int32) (hs : Int32) : Nat → Int32 := fun j => if j = 0 then hs else if j = 6 ∨ j = 8 then 0 else if 1864 ≤ j ∧ j < 1880 then D (18 + 9 * (j - 1864)) else if j < 154 then D j else 0
theorem sdt_tn {D : Nat → Int32} (C : cdt D hs.toInt x y r9 w f t c b o) (hh : 0 ≤ hs.toInt ∧ hs.toInt ≤ 16) (F : fr = D 4 ∧ it = D 5) (K : ∀ h : Nat, h < 16 → kn h = o h) : sdt (gtn D hs) hs fr it 0 0 x y r9 w f t c b o kn wh wm wt wd := by
  refine sdt_town C hh F K rfl rfl (fun j hj => ?_) rfl rfl rfl (fun h hl => ?_)
  · unfold gtn
    rw [if_neg (by omega), if_neg (by omega), if_neg (by omega), if_pos (by omega)]
  · unfold gtn
    rw [if_neg (by omega), if_neg (by omega), if_pos (by omega), if_neg (by omega), if_neg (by omega), if_neg (by omega), if_pos (by omega), show 1864 + h - 1864 = h by omega]
end LAW
section TIE
variable {g g' h h' : Nat → Int32} {A B P : Int} {r : Int32}
theorem tgd_tn {D : Nat → Int32} {hs : Int32} (T : tdt D h') (e : (h' 0).toInt = hs.toInt ∧ (h' 6).toInt = 0 ∧ (h' 8).toInt = 0) (K : ∀ q : Nat, q < 16 → h' (1864 + q) = h' (18 + 9 * q)) (Z : ∀ q : Nat, 6680 ≤ q → q < 9080 → h' q = 0) : tgd (gtn D hs) h' := by
  intro j hj
  have z0 : Int32.toInt 0 = 0 := by decide
  unfold sgd at hj
  unfold gtn
  by_cases q0 : j = 0
  · rw [if_pos q0, q0]
    exact Int32.toInt_inj.mp e.1
  · rw [if_neg q0]
    by_cases q6 : j = 6 ∨ j = 8
    · rw [if_pos q6]
      rcases q6 with q | q
      · rw [q]
        exact Int32.toInt_inj.mp (by omega)
      · rw [q]
        exact Int32.toInt_inj.mp (by omega)
    · rw [if_neg q6]
      by_cases q1 : 1864 ≤ j ∧ j < 1880
      · rw [if_pos q1]
        have q2 := K (j - 1864) (by omega)
        rw [show 1864 + (j - 1864) = j by omega] at q2
        rw [q2]
        exact T _ (by unfold rgd; omega)
      · rw [if_neg q1]
        by_cases q2 : j < 154
        · rw [if_pos q2]
          exact T j (by unfold rgd; omega)
        · rw [if_neg q2]
          exact Z j (by omega) (by omega)
theorem gda_cg (T : tgd g h) (hh : (h 0).toInt ≤ 16) : gda g A B P = gda h A B P := by
  have e8 : h 8 = g 8 := T 8 (by unfold sgd; omega)
  by_cases q : gtw h A B ∧ 0 ≤ P ∧ P ≤ 3
  · have q2 : gtw g A B ∧ 0 ≤ P ∧ P ≤ 3 := ⟨(gtw_c T).mpr q.1, q.2⟩
    have q3 := q.1
    have a1 : gda g A B P = if gba g A B P ≠ 0 then -5 else if 600 ≤ (g 8).toInt then -3 else 0 := if_neg (fun z => z q2)
    have a2 : gda h A B P = if gba h A B P ≠ 0 then -5 else if 600 ≤ (h 8).toInt then -3 else 0 := if_neg (fun z => z q)
    rw [a1, a2, gba_c T (by omega) (by omega), e8]
  · have q2 : ¬ (gtw g A B ∧ 0 ≤ P ∧ P ≤ 3) := fun z => q ⟨(gtw_c T).mp z.1, z.2⟩
    rw [gda_a q, gda_a q2]
theorem gme_c2 (T : tgd g h) (hh : (h 0).toInt ≤ 16) : gme g A B = gme h A B := by
  have e8 : h 8 = g 8 := T 8 (by unfold sgd; omega)
  by_cases q : gtw h A B
  · have q2 : gtw g A B := (gtw_c T).mpr q
    have q3 := q
    have a1 : gme g A B = if 600 ≤ (g 8).toInt then -3 else 1 - gk g A B := if_neg (fun z => z q2)
    have a2 : gme h A B = if 600 ≤ (h 8).toInt then -3 else 1 - gk h A B := if_neg (fun z => z q)
    rw [a1, a2, gk_c T (by omega), e8]
  · have q2 : ¬ gtw g A B := fun z => q ((gtw_c T).mp z)
    rw [gme_a q, gme_a q2]
theorem gbr_c (T : tgd g h) (hh : (h 0).toInt ≤ 16) : gbr g A B P = gbr h A B P := by
  by_cases q : gtw h A B ∧ 0 ≤ P ∧ P ≤ 3
  · have q2 : gtw g A B ∧ 0 ≤ P ∧ P ≤ 3 := ⟨(gtw_c T).mpr q.1, q.2⟩
    have q3 := q.1
    rw [gbr_y q, gbr_y q2, gba_c T (by omega) (by omega)]
  · have q2 : ¬ (gtw g A B ∧ 0 ≤ P ∧ P ≤ 3) := fun z => q ⟨(gtw_c T).mp z.1, z.2⟩
    rw [gbr_n q, gbr_n q2]
theorem gkr_c (T : tgd g h) (hh : (h 0).toInt ≤ 16) : gkr g A B = gkr h A B := by
  by_cases q : gtw h A B
  · have q2 : gtw g A B := (gtw_c T).mpr q
    have q3 := q
    rw [gkr_y q, gkr_y q2, gk_c T (by omega)]
  · have q2 : ¬ gtw g A B := fun z => q ((gtw_c T).mp z)
    rw [gkr_n q, gkr_n q2]
theorem days_t (T : tgd g h) (K : ∀ j : Nat, j ≠ 6 → h' j = h j) (e : r.toInt = (h' 6).toInt) : tgd (upd g 6 r) h' := fun j hj => by
  by_cases q : j = 6
  · rw [q, upd_h rfl]
    exact (Int32.toInt_inj.mp e).symm
  · rw [upd_n q, K j q]
    exact T j hj
end TIE
theorem jl_eq {x y : Int64} (h : lg_cmp x y = 0) : x.toInt = y.toInt := by
  have h1 := jl_nlt (x := x) (y := y) (by rw [h]; decide)
  have h2 := jl_ngt (x := x) (y := y) (by rw [h]; decide)
  omega
theorem jl_neq {x y : Int64} (h : ¬ lg_cmp x y = 0) : x.toInt ≠ y.toInt := by
  intro e
  have z0 : Int32.toInt 0 = 0 := by decide
  have a1 : ¬ lg_cmp x y < 0 := fun q => by
    have := jl_lt q
    omega
  have a2 : ¬ 0 < lg_cmp x y := fun q => by
    have := jl_gt q
    omega
  have b1 : ¬ (lg_cmp x y).toInt < (0 : Int32).toInt := fun q => a1 (Int32.lt_iff_toInt_lt.mpr q)
  have b2 : ¬ (0 : Int32).toInt < (lg_cmp x y).toInt := fun q => a2 (Int32.lt_iff_toInt_lt.mpr q)
  exact h (Int32.toInt_inj.mp (by omega))
