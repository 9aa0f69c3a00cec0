/-! the state's data in the reference's layout; who may call on whom, told by functions -/
def qk (f : Nat → Int32) (a b : Int) : Int := if (f a.toNat).toInt.toNat.testBit b.toNat then 1 else 0
def qin (f : Nat → Int32) (a b : Int) : Int := (cb 16 ((f a.toNat).toInt.toNat &&& (f b.toNat).toInt.toNat) : Int)
/-- what bars one: by the days on which they came, today, new, known, known in common, the introducers, the weekday, the days of waiting -/
def qba (ca c2 dy fr kn pop it wd br p : Int) : Int := if dy < ca ∨ dy < c2 ∨ ¬ (kn = 1 ∨ (dy - c2 ≤ fr ∧ ¬ dy - ca ≤ fr) ∨ it ≤ pop) then 1 else if p < 2 then 0 else if dy % 7 ≠ wd then 2 else if 0 < br ∧ dy - ca ≤ br then 3 else 0
/-- known, by the data -/
def gk (g : Nat → Int32) (a b : Int) : Int := qk (fun j => g (1864 + j)) a b
def gba (g : Nat → Int32) (a b p : Int) : Int := qba (g (16 + 9 * a.toNat)).toInt (g (16 + 9 * b.toNat)).toInt (g 6).toInt (g 4).toInt (gk g a b) (qin (fun j => g (1864 + j)) a b) (g 5).toInt (g (13 + 9 * b.toNat)).toInt (g (17 + 9 * a.toNat)).toInt p
abbrev gtw (g : Nat → Int32) (a b : Int) : Prop := 0 ≤ a ∧ a < (g 0).toInt ∧ 0 ≤ b ∧ b < (g 0).toInt ∧ a ≠ b
/-- a deed is written down -/
def gde (g : Nat → Int32) (a b p : Int) : Nat → Int32 := upd (upd (upd (upd (upd g (6680 + 4 * (g 8).toInt.toNat) (Int32.ofInt a)) (6681 + 4 * (g 8).toInt.toNat) (Int32.ofInt b)) (6682 + 4 * (g 8).toInt.toNat) (Int32.ofInt p)) (6683 + 4 * (g 8).toInt.toNat) (g 6)) 8 (g 8 + 1)
def gdo (g : Nat → Int32) (a b p : Int) : Nat → Int32 := if 2 ≤ p then kno (gde g a b p) (1864 + a.toNat) (1864 + b.toNat) a b else gde g a b p
/-- what does() answers but for the number of debts paid (0) -/
def gda (g : Nat → Int32) (a b p : Int) : Int := if ¬ (gtw g a b ∧ 0 ≤ p ∧ p ≤ 3) then -2 else if gba g a b p ≠ 0 then -5 else if 600 ≤ (g 8).toInt then -3 else 0
def gme (g : Nat → Int32) (a b : Int) : Int := if ¬ gtw g a b then -2 else if 600 ≤ (g 8).toInt then -3 else 1 - gk g a b
/-- the class's state has the data -/
def sdt (g : Nat → Int32) (hs fr it dy sz : Int32) (x y r w f t c b o kn wh wm wt wd : Nat → Int32) : Prop :=
  (hs = g 0 ∧ fr = g 4 ∧ it = g 5 ∧ dy = g 6 ∧ sz = g 8) ∧ cdt g hs.toInt x y r w f t c b o ∧ (∀ h : Nat, h < 16 → kn h = g (1864 + h)) ∧ ∀ i : Nat, (i : Int) < sz.toInt → wh i = g (6680 + 4 * i) ∧ wm i = g (6681 + 4 * i) ∧ wt i = g (6682 + 4 * i) ∧ wd i = g (6683 + 4 * i)
section TLK
theorem qk_b (f : Nat → Int32) (a b : Int) : qk f a b = 0 ∨ qk f a b = 1 := by
  unfold qk
  split
  · exact Or.inr rfl
  · exact Or.inl rfl
theorem qk_h {f : Nat → Int32} {v v1 v2 a b : Int32} (e0 : v = f a.toNatClampNeg) (e1 : v1 = v >>> (b &&& 31)) (e2 : v2 = v1 &&& 1) (ha : 0 ≤ a.toInt) (bv : 0 ≤ v.toInt) (bk : 0 ≤ b.toInt ∧ b.toInt ≤ 30) : v2.toInt = qk f a.toInt b.toInt := by
  rw [bq_h e1 e2 bv bk]
  unfold bq qk
  rw [e0, cl_nat ha]
theorem andv_nat {v a b : Int32} (e : v = a &&& b) (ha : 0 ≤ a.toInt) (hb : 0 ≤ b.toInt) : v.toInt.toNat = a.toInt.toNat &&& b.toInt.toNat := by
  have h := ba_andl (l := 0) (h := a.toInt) e ⟨ha, Int.le_refl _⟩ (by decide)
  have h2 : v.toBitVec.toNat = a.toBitVec.toNat &&& b.toBitVec.toNat := by rw [e]; rfl
  rw [tb_n ha, tb_n hb, tb_n h.1] at h2
  exact h2
theorem qin_h {f : Nat → Int32} {v x y a b r : Int32} (er : r.toInt = (cb 16 v.toInt.toNat : Int)) (e : v = x &&& y) (ex : x = f a.toNatClampNeg) (ey : y = f b.toNatClampNeg) (hx : 0 ≤ x.toInt) (hy : 0 ≤ y.toInt) (ha : 0 ≤ a.toInt) (hb : 0 ≤ b.toInt) : r.toInt = qin f a.toInt b.toInt := by
  rw [er, andv_nat e hx hy]
  unfold qin
  rw [← cl_nat ha, ← cl_nat hb, ← ex, ← ey]
theorem bcc {v a : Int32} (e : v = bcf a) (ha : 0 ≤ a.toInt ∧ a.toInt ≤ 65535) : v.toInt = (cb 16 a.toInt.toNat : Int) := by
  obtain ⟨n, h1, h2, h3⟩ := ix_nI ha (by decide)
  have h4 := bcc_tab n (by omega)
  rw [← h1, ← e] at h4
  rw [h4, show a.toInt.toNat = n by omega]
theorem upd_v {g g' : Nat → Int32} {i v : Int32} (h : upd g i.toNatClampNeg v = g') (hi : 0 ≤ i.toInt) : g' = upd g i.toInt.toNat v := by
  rw [← h, cl_nat hi]
theorem gk_b (g : Nat → Int32) (a b : Int) : gk g a b = 0 ∨ gk g a b = 1 := qk_b _ _ _
end TLK
section SDT
variable {g : Nat → Int32} {hs fr it dy sz : Int32} {x y r w f t c b o kn wh wm wt wd : Nat → Int32} {A B P : Int}
theorem qk_sd (H : sdt g hs fr it dy sz x y r w f t c b o kn wh wm wt wd) (ha : 0 ≤ A ∧ A < 16) : qk kn A B = gk g A B := by
  unfold gk qk
  rw [H.2.2.1 A.toNat (by omega)]
theorem qin_sd (H : sdt g hs fr it dy sz x y r w f t c b o kn wh wm wt wd) (ha : 0 ≤ A ∧ A < 16) (hb : 0 ≤ B ∧ B < 16) : qin kn A B = qin (fun j => g (1864 + j)) A B := by
  unfold qin
  rw [H.2.2.1 A.toNat (by omega), H.2.2.1 B.toNat (by omega)]
theorem ba_sd (H : sdt g hs fr it dy sz x y r w f t c b o kn wh wm wt wd) (hh : hs.toInt ≤ 16) (ha : 0 ≤ A ∧ A < hs.toInt) (hb : 0 ≤ B ∧ B < hs.toInt) : qba (c A.toNat).toInt (c B.toNat).toInt dy.toInt fr.toInt (qk kn A B) (qin kn A B) it.toInt (w B.toNat).toInt (b A.toNat).toInt P = gba g A B P := by
  have h1 := H.2.1.1 A.toNat (by omega)
  have h2 := H.2.1.1 B.toNat (by omega)
  unfold gba
  rw [← qk_sd H (by omega), ← qin_sd H (by omega) (by omega), h1.2.2.2.2.2.2.1, h2.2.2.2.2.2.2.1, h2.2.2.2.1, h1.2.2.2.2.2.2.2.1, H.1.2.1, H.1.2.2.1, H.1.2.2.2.1]
theorem sdt_cong {g' : Nat → Int32} (H : sdt g hs fr it dy sz x y r w f t c b o kn wh wm wt wd) (T : tgd g g') (hh : hs.toInt ≤ 16) (hz : sz.toInt ≤ 600) : sdt g' hs fr it dy sz x y r w f t c b o kn wh wm wt wd := by
  have T' : ∀ j : Nat, sgd j → g j = g' j := fun j q => (T j q).symm
  unfold sgd at T'
  obtain ⟨⟨a1, a2, a3, a4, a5⟩, ⟨H1, H2⟩, H3, H4⟩ := H
  refine ⟨⟨?_, ?_, ?_, ?_, ?_⟩, ⟨fun h hl => ?_, fun h q1 q2 => ⟨(H2 h q1 q2).1, ?_⟩⟩, fun h hl => ?_, fun i hi => ?_⟩
  · rw [a1]; exact T' 0 (by omega)
  · rw [a2]; exact T' 4 (by omega)
  · rw [a3]; exact T' 5 (by omega)
  · rw [a4]; exact T' 6 (by omega)
  · rw [a5]; exact T' 8 (by omega)
  · have q := H1 h hl
    rw [T' (10 + 9 * h) (by omega), T' (11 + 9 * h) (by omega), T' (12 + 9 * h) (by omega), T' (13 + 9 * h) (by omega), T' (14 + 9 * h) (by omega), T' (15 + 9 * h) (by omega), T' (16 + 9 * h) (by omega), T' (17 + 9 * h) (by omega), T' (18 + 9 * h) (by omega)] at q
    exact q
  · rw [← T' (18 + 9 * h) (by omega)]; exact (H2 h q1 q2).2
  · rw [H3 h hl]; exact T' _ (by omega)
  · have q := H4 i hi
    rw [T' (6680 + 4 * i) (by omega), T' (6681 + 4 * i) (by omega), T' (6682 + 4 * i) (by omega), T' (6683 + 4 * i) (by omega)] at q
    exact q
/-- a copy of the rows, as far as they are looked at -/
theorem sdt_cp {x' y' r' w' f' t' c' b' o' kn' wh' wm' wt' wd' : Nat → Int32} (H : sdt g hs fr it dy sz x y r w f t c b o kn wh wm wt wd) (hh : hs.toInt ≤ 16) (C : cdt g hs.toInt x' y' r' w' f' t' c' b' o') (K : ∀ h : Nat, h < 16 → kn' h = kn h) (D : ∀ i : Nat, (i : Int) < sz.toInt → wh' i = wh i ∧ wm' i = wm i ∧ wt' i = wt i ∧ wd' i = wd i) : sdt g hs fr it dy sz x' y' r' w' f' t' c' b' o' kn' wh' wm' wt' wd' := by
  refine ⟨H.1, C, fun h hl => (K h hl).trans (H.2.2.1 h hl), fun i hi => ?_⟩
  obtain ⟨q1, q2, q3, q4⟩ := D i hi
  rw [q1, q2, q3, q4]
  exact H.2.2.2 i hi
theorem sdt_dy {g' : Nat → Int32} {dy' : Int32} (H : sdt g hs fr it dy sz x y r w f t c b o kn wh wm wt wd) (e : g' = upd g 6 dy') (hh : hs.toInt ≤ 16) : sdt g' hs fr it dy' sz x y r w f t c b o kn wh wm wt wd := by
  subst e
  have T' : ∀ j : Nat, j ≠ 6 → g j = upd g 6 dy' j := fun j q => (upd_n q).symm
  obtain ⟨⟨a1, a2, a3, a4, a5⟩, ⟨H1, H2⟩, H3, H4⟩ := H
  refine ⟨⟨?_, ?_, ?_, ?_, ?_⟩, ⟨fun h hl => ?_, fun h q1 q2 => ⟨(H2 h q1 q2).1, ?_⟩⟩, fun h hl => ?_, fun i hi => ?_⟩
  · rw [a1]; exact T' 0 (by omega)
  · rw [a2]; exact T' 4 (by omega)
  · rw [a3]; exact T' 5 (by omega)
  · exact (upd_h rfl).symm
  · rw [a5]; exact T' 8 (by omega)
  · have q := H1 h hl
    rw [T' (10 + 9 * h) (by omega), T' (11 + 9 * h) (by omega), T' (12 + 9 * h) (by omega), T' (13 + 9 * h) (by omega), T' (14 + 9 * h) (by omega), T' (15 + 9 * h) (by omega), T' (16 + 9 * h) (by omega), T' (17 + 9 * h) (by omega), T' (18 + 9 * h) (by omega)] at q
    exact q
  · rw [← T' (18 + 9 * h) (by omega)]; exact (H2 h q1 q2).2
  · rw [H3 h hl]; exact T' _ (by omega)
  · have q := H4 i hi
    rw [T' (6680 + 4 * i) (by omega), T' (6681 + 4 * i) (by omega), T' (6682 + 4 * i) (by omega), T' (6683 + 4 * i) (by omega)] at q
    exact q
theorem gde_o {j : Nat} (h1 : j < 6680 ∨ j < 6680 + 4 * (g 8).toInt.toNat ∨ 6683 + 4 * (g 8).toInt.toNat < j) (h2 : j ≠ 8) : gde g A B P j = g j := by
  unfold gde
  rw [upd_n h2, upd_n (by omega), upd_n (by omega), upd_n (by omega), upd_n (by omega)]
theorem gdo_o {j : Nat} (h1 : j < 6680 ∨ j < 6680 + 4 * (g 8).toInt.toNat ∨ 6683 + 4 * (g 8).toInt.toNat < j) (h2 : j ≠ 8) (h3 : j < 1864 ∨ 1880 ≤ j) (hA : 0 ≤ A ∧ A < 16) (hB : 0 ≤ B ∧ B < 16) : gdo g A B P j = g j := by
  unfold gdo
  split
  · rw [kno_o (by omega) (by omega), gde_o h1 h2]
  · exact gde_o h1 h2
theorem gdo_d {j : Nat} (h3 : j < 1864 ∨ 1880 ≤ j) (hA : 0 ≤ A ∧ A < 16) (hB : 0 ≤ B ∧ B < 16) : gdo g A B P j = gde g A B P j := by
  unfold gdo
  split
  · rw [kno_o (by omega) (by omega)]
  · rfl
/-- a deed done: the class's rows behind it -/
theorem sdt_do {sz' : Int32} {kn' wh' wm' wt' wd' : Nat → Int32} (H : sdt g hs fr it dy sz x y r w f t c b o kn wh wm wt wd) (hh : hs.toInt ≤ 16) (hz : 0 ≤ sz.toInt ∧ sz.toInt ≤ 599) (ez : sz' = sz + 1) (hA : 0 ≤ A ∧ A < 16) (hB : 0 ≤ B ∧ B < 16) (e1 : wh' = upd wh sz.toInt.toNat (Int32.ofInt A)) (e2 : wm' = upd wm sz.toInt.toNat (Int32.ofInt B)) (e3 : wt' = upd wt sz.toInt.toNat (Int32.ofInt P)) (e4 : wd' = upd wd sz.toInt.toNat dy) (ek : (2 ≤ P ∧ kn' = kno kn A.toNat B.toNat A B) ∨ (P < 2 ∧ kn' = kn)) : sdt (gdo g A B P) hs fr it dy sz' x y r w f t c b o kn' wh' wm' wt' wd' := by
  obtain ⟨⟨a1, a2, a3, a4, a5⟩, ⟨H1, H2⟩, H3, H4⟩ := H
  have z8 : (g 8).toInt = sz.toInt := by rw [a5]
  have O : ∀ j : Nat, (j < 1864 ∨ (1880 ≤ j ∧ j < 6680)) → j ≠ 8 → g j = gdo g A B P j := fun j q1 q2 => (gdo_o (by omega) q2 (by omega) hA hB).symm
  have h1 : (1 : Int32).toInt = 1 := by decide
  have q' : sz'.toInt = sz.toInt + 1 := by
    have q := ba_add (l1 := 0) (h1 := 599) (l2 := 1) (h2 := 1) ez hz ⟨by omega, by omega⟩ (by decide)
    omega
  refine ⟨⟨?_, ?_, ?_, ?_, ?_⟩, ⟨fun h hl => ?_, fun h q1 q2 => ⟨(H2 h q1 q2).1, ?_⟩⟩, fun h hl => ?_, fun i hi => ?_⟩
  · rw [a1]; exact O 0 (by omega) (by omega)
  · rw [a2]; exact O 4 (by omega) (by omega)
  · rw [a3]; exact O 5 (by omega) (by omega)
  · rw [a4]; exact O 6 (by omega) (by omega)
  · rw [gdo_d (by omega) hA hB, ez, a5]
    unfold gde
    exact (upd_h rfl).symm
  · have q := H1 h hl
    rw [O (10 + 9 * h) (by omega) (by omega), O (11 + 9 * h) (by omega) (by omega), O (12 + 9 * h) (by omega) (by omega), O (13 + 9 * h) (by omega) (by omega), O (14 + 9 * h) (by omega) (by omega), O (15 + 9 * h) (by omega) (by omega), O (16 + 9 * h) (by omega) (by omega), O (17 + 9 * h) (by omega) (by omega), O (18 + 9 * h) (by omega) (by omega)] at q
    exact q
  · rw [← O (18 + 9 * h) (by omega) (by omega)]; exact (H2 h q1 q2).2
  · have gn : ∀ q : Nat, q < 16 → gde g A B P (1864 + q) = kn q := fun q hq => (gde_o (by omega) (by omega)).trans (H3 q hq).symm
    unfold gdo
    rcases ek with ⟨hp, e⟩ | ⟨hp, e⟩
    · rw [if_pos hp, e]
      exact kno_t ⟨fun q => by omega, fun q => by omega⟩ ⟨fun q => by omega, fun q => by omega⟩ ⟨fun q => by omega, fun q => by omega⟩ (gn h hl).symm (gn A.toNat (by omega)).symm (gn B.toNat (by omega)).symm
    · rw [if_neg (by omega), e]
      exact (gn h hl).symm
  · rw [e1, e2, e3, e4, gdo_d (by omega) hA hB, gdo_d (by omega) hA hB, gdo_d (by omega) hA hB, gdo_d (by omega) hA hB]
    by_cases z : i = sz.toInt.toNat
    · unfold gde
      rw [z8, upd_h z, upd_h z, upd_h z, upd_h z, upd_n (by omega), upd_n (by omega), upd_n (by omega), upd_n (by omega), upd_h (by omega), upd_n (by omega), upd_n (by omega), upd_n (by omega), upd_h (by omega), upd_n (by omega), upd_n (by omega), upd_h (by omega), upd_n (by omega), upd_h (by omega), a4]
      exact ⟨rfl, rfl, rfl, rfl⟩
    · rw [upd_n z, upd_n z, upd_n z, upd_n z, gde_o (by omega) (by omega), gde_o (by omega) (by omega), gde_o (by omega) (by omega), gde_o (by omega) (by omega)]
      exact H4 i (by omega)
end SDT
/-- who is done by a row of a slot -/
def gok (g : Nat → Int32) (a b p : Int) : Prop := gtw g a b ∧ 0 ≤ p ∧ p ≤ 4 ∧ (g 8).toInt < 600 ∧ (p = 4 ∨ gba g a b p = 0)
noncomputable def gst (g : Nat → Int32) (a b p : Int) : Nat → Int32 := @ite (Nat → Int32) (gok g a b p) (Classical.propDecidable _) (gdo g a b p) g
noncomputable def gsn (g : Nat → Int32) (a b p : Int) : Int := @ite Int (gok g a b p) (Classical.propDecidable _) 1 0
noncomputable def gdn (nf : Nat → Int64) (z : Int) : Nat → Nat → (Nat → Int32) → Nat → Int32
  | 0, _, g => g
  | m + 1, i, g => if (i : Int) + 2 < z then gdn nf z m (i + 3) (gst g (nf i).toInt (nf (i + 1)).toInt (nf (i + 2)).toInt) else g
noncomputable def gdc (nf : Nat → Int64) (z : Int) : Nat → Nat → (Nat → Int32) → Int
  | 0, _, _ => 0
  | m + 1, i, g => if (i : Int) + 2 < z then gsn g (nf i).toInt (nf (i + 1)).toInt (nf (i + 2)).toInt + gdc nf z m (i + 3) (gst g (nf i).toInt (nf (i + 1)).toInt (nf (i + 2)).toInt) else 0
section GDA
variable {g : Nat → Int32} {hs fr it dy sz : Int32} {x y r w f t c b o kn wh wm wt wd : Nat → Int32} {A B P v : Int}
theorem gtw_sd (H : sdt g hs fr it dy sz x y r w f t c b o kn wh wm wt wd) : gtw g A B ↔ (0 ≤ A ∧ A < hs.toInt ∧ 0 ≤ B ∧ B < hs.toInt ∧ A ≠ B) := by
  unfold gtw
  rw [← H.1.1]
theorem gda_2 (H : sdt g hs fr it dy sz x y r w f t c b o kn wh wm wt wd) (h : ¬ ((0 ≤ A ∧ A < hs.toInt ∧ 0 ≤ B ∧ B < hs.toInt ∧ A ≠ B) ∧ 0 ≤ P ∧ P ≤ 3)) : gda g A B P = -2 := by
  unfold gda
  exact if_pos (fun q => h ⟨(gtw_sd H).mp q.1, q.2⟩)
theorem gda_5 (H : sdt g hs fr it dy sz x y r w f t c b o kn wh wm wt wd) (hh : hs.toInt ≤ 16) (h : (0 ≤ A ∧ A < hs.toInt ∧ 0 ≤ B ∧ B < hs.toInt ∧ A ≠ B) ∧ 0 ≤ P ∧ P ≤ 3) (e : v = qba (c A.toNat).toInt (c B.toNat).toInt dy.toInt fr.toInt (qk kn A B) (qin kn A B) it.toInt (w B.toNat).toInt (b A.toNat).toInt P) (hv : v ≠ 0) : gda g A B P = -5 := by
  unfold gda
  rw [if_neg (fun q => q ⟨(gtw_sd H).mpr h.1, h.2⟩), ← ba_sd H hh ⟨h.1.1, h.1.2.1⟩ ⟨h.1.2.2.1, h.1.2.2.2.1⟩, ← e, if_pos hv]
theorem gda_3 (H : sdt g hs fr it dy sz x y r w f t c b o kn wh wm wt wd) (hh : hs.toInt ≤ 16) (h : (0 ≤ A ∧ A < hs.toInt ∧ 0 ≤ B ∧ B < hs.toInt ∧ A ≠ B) ∧ 0 ≤ P ∧ P ≤ 3) (e : v = qba (c A.toNat).toInt (c B.toNat).toInt dy.toInt fr.toInt (qk kn A B) (qin kn A B) it.toInt (w B.toNat).toInt (b A.toNat).toInt P) (hv : v = 0) (hz : 600 ≤ sz.toInt) : gda g A B P = -3 := by
  unfold gda
  rw [if_neg (fun q => q ⟨(gtw_sd H).mpr h.1, h.2⟩), ← ba_sd H hh ⟨h.1.1, h.1.2.1⟩ ⟨h.1.2.2.1, h.1.2.2.2.1⟩, ← e, if_neg (fun q => q hv), ← H.1.2.2.2.2, if_pos hz]
theorem gda_0 (H : sdt g hs fr it dy sz x y r w f t c b o kn wh wm wt wd) (hh : hs.toInt ≤ 16) (h : (0 ≤ A ∧ A < hs.toInt ∧ 0 ≤ B ∧ B < hs.toInt ∧ A ≠ B) ∧ 0 ≤ P ∧ P ≤ 3) (e : v = qba (c A.toNat).toInt (c B.toNat).toInt dy.toInt fr.toInt (qk kn A B) (qin kn A B) it.toInt (w B.toNat).toInt (b A.toNat).toInt P) (hv : v = 0) (hz : sz.toInt < 600) : gda g A B P = 0 := by
  unfold gda
  rw [if_neg (fun q => q ⟨(gtw_sd H).mpr h.1, h.2⟩), ← ba_sd H hh ⟨h.1.1, h.1.2.1⟩ ⟨h.1.2.2.1, h.1.2.2.2.1⟩, ← e, if_neg (fun q => q hv), ← H.1.2.2.2.2, if_neg (by omega)]
theorem gme_2 (H : sdt g hs fr it dy sz x y r w f t c b o kn wh wm wt wd) (h : ¬ (0 ≤ A ∧ A < hs.toInt ∧ 0 ≤ B ∧ B < hs.toInt ∧ A ≠ B)) : gme g A B = -2 := by
  unfold gme
  exact if_pos (fun q => h ((gtw_sd H).mp q))
theorem gme_3 (H : sdt g hs fr it dy sz x y r w f t c b o kn wh wm wt wd) (h : (0 ≤ A ∧ A < hs.toInt ∧ 0 ≤ B ∧ B < hs.toInt ∧ A ≠ B)) (hz : 600 ≤ sz.toInt) : gme g A B = -3 := by
  unfold gme
  rw [if_neg (fun q => q ((gtw_sd H).mpr h)), ← H.1.2.2.2.2, if_pos hz]
theorem gme_0 (H : sdt g hs fr it dy sz x y r w f t c b o kn wh wm wt wd) (hh : hs.toInt ≤ 16) (h : (0 ≤ A ∧ A < hs.toInt ∧ 0 ≤ B ∧ B < hs.toInt ∧ A ≠ B)) (hz : sz.toInt < 600) (e : v = 1 - qk kn A B) : v = gme g A B := by
  unfold gme
  rw [if_neg (fun q => q ((gtw_sd H).mpr h)), ← H.1.2.2.2.2, if_neg (by omega), ← qk_sd H (by omega)]
  exact e
end GDA
/-- a number of a slot's row that can be a house or a deed -/
def qsm (f : Nat → Int64) (z i : Int) : Int := if 0 ≤ i ∧ i < z ∧ 0 ≤ (f i.toNat).toInt ∧ (f i.toNat).toInt < 16 then (f i.toNat).toInt else -1
section GDN
variable {g g1 g2 R : Nat → Int32} {nf : Nat → Int64} {z A B P C made made' d : Int}
theorem ldl_n {v : Int64} {x : Int32} {f : Nat → Int64} (e : v = f x.toNatClampNeg) (h : 0 ≤ x.toInt) : (f x.toInt.toNat).toInt = v.toInt := by rw [e, cl_nat h]
theorem l2i_q {v : Int32} {x : Int64} (e : v = x.toInt32) (h0 : 0 ≤ x.toInt) (h1 : x.toInt ≤ 15) : v.toInt = x.toInt := by
  rw [e, Int64.toInt_toInt32, bm_id (by omega) (by omega)]
theorem qsm_y {i : Int} (e : A = qsm nf z i) (h : 0 ≤ A) : A = (nf i.toNat).toInt ∧ A < 16 := by
  unfold qsm at e
  split at e
  · next q => exact ⟨e, by omega⟩
  · omega
theorem qsm_i {i : Int} (h : 0 ≤ i ∧ i < z) (hA : 0 ≤ (nf i.toNat).toInt ∧ (nf i.toNat).toInt < 16) : qsm nf z i = (nf i.toNat).toInt := if_pos ⟨h.1, h.2, hA.1, hA.2⟩
theorem gst_y (h : gok g A B P) : gst g A B P = gdo g A B P ∧ gsn g A B P = 1 := ⟨if_pos h, if_pos h⟩
theorem gst_n (h : ¬ gok g A B P) : gst g A B P = g ∧ gsn g A B P = 0 := ⟨if_neg h, if_neg h⟩
theorem gok_d (h : gda g A B P = 0) : gok g A B P := by
  unfold gda at h
  by_cases h1 : gtw g A B ∧ 0 ≤ P ∧ P ≤ 3
  · rw [if_neg (fun q => q h1)] at h
    by_cases h2 : gba g A B P = 0
    · rw [if_neg (fun q => q h2)] at h
      by_cases h3 : 600 ≤ (g 8).toInt
      · rw [if_pos h3] at h
        cases h
      · exact ⟨h1.1, h1.2.1, by omega, by omega, Or.inr h2⟩
    · rw [if_pos h2] at h
      cases h
  · rw [if_pos h1] at h
    cases h
theorem gok_n (h : gok g A B P) (hp : P ≠ 4) : gda g A B P = 0 := by
  obtain ⟨h1, h2, h3, h4, h5⟩ := h
  unfold gda
  rw [if_neg (fun q => q ⟨h1, h2, by omega⟩), if_neg (fun q => q (h5.resolve_left hp)), if_neg (by omega)]
theorem gok_m (h : 0 ≤ gme g A B) : gok g A B 4 := by
  unfold gme at h
  by_cases h1 : gtw g A B
  · rw [if_neg (fun q => q h1)] at h
    by_cases h2 : 600 ≤ (g 8).toInt
    · rw [if_pos h2] at h
      omega
    · exact ⟨h1, by decide, by decide, by omega, Or.inl rfl⟩
  · rw [if_pos h1] at h
    omega
theorem gok_w (h : gok g A B 4) : 0 ≤ gme g A B := by
  obtain ⟨h1, h2, h3, h4, h5⟩ := h
  unfold gme
  rw [if_neg (fun q => q h1), if_neg (by omega)]
  rcases gk_b g A B with q | q <;> omega
/-- a step of a row: what is read of it is what small() gives -/
theorem sm_y {i : Int} {a b p : Int} (ea : a = qsm nf z i) (eb : b = qsm nf z (i + 1)) (ep : p = qsm nf z (i + 2)) (h : gok g a b p) : gst g (nf i.toNat).toInt (nf (i + 1).toNat).toInt (nf (i + 2).toNat).toInt = gdo g a b p ∧ gsn g (nf i.toNat).toInt (nf (i + 1).toNat).toInt (nf (i + 2).toNat).toInt = 1 := by
  have h1 := (qsm_y ea h.1.1).1
  have h2 := (qsm_y eb h.1.2.2.1).1
  have h3 := (qsm_y ep h.2.1).1
  rw [← h1, ← h2, ← h3]
  exact gst_y h
theorem sm_n {i : Int} {a b p : Int} (hi : 0 ≤ i ∧ i + 2 < z) (hh : (g 0).toInt ≤ 16) (ea : a = qsm nf z i) (eb : b = qsm nf z (i + 1)) (ep : p = qsm nf z (i + 2)) (h : ¬ gok g a b p) : gst g (nf i.toNat).toInt (nf (i + 1).toNat).toInt (nf (i + 2).toNat).toInt = g ∧ gsn g (nf i.toNat).toInt (nf (i + 1).toNat).toInt (nf (i + 2).toNat).toInt = 0 := by
  apply gst_n
  intro q
  apply h
  have h0 := q.1
  have h1 := q.1.1
  have h2 := q.1.2.1
  have h3 := q.1.2.2.1
  have h4 := q.1.2.2.2.1
  have h5 := q.2.1
  have h6 := q.2.2.1
  rw [ea, eb, ep, qsm_i ⟨by omega, by omega⟩ ⟨h1, by omega⟩, qsm_i ⟨by omega, by omega⟩ ⟨h3, by omega⟩, qsm_i ⟨by omega, by omega⟩ ⟨h5, by omega⟩]
  exact q
theorem dn_step {i i' : Int} {m : Nat} (hm : i + 3 * (m : Int) = 60) (h0 : 0 ≤ i) (hi : i + 2 < z) (hz : z ≤ 60) (e1 : gdn nf z m i.toNat g1 = R) (e2 : made + gdc nf z m i.toNat g1 = C) (s : gst g1 (nf i.toNat).toInt (nf (i + 1).toNat).toInt (nf (i + 2).toNat).toInt = g2 ∧ gsn g1 (nf i.toNat).toInt (nf (i + 1).toNat).toInt (nf (i + 2).toNat).toInt = d) (hmade : made' = made + d) (hi' : i' = i + 3) : ∃ m' : Nat, i' + 3 * (m' : Int) = 60 ∧ gdn nf z m' i'.toNat g2 = R ∧ made' + gdc nf z m' i'.toNat g2 = C := by
  obtain ⟨s1, s2⟩ := s
  cases m with
  | zero => omega
  | succ m =>
    have c1 : ((i.toNat : Nat) : Int) + 2 < z := by omega
    have n1 : (i + 1).toNat = i.toNat + 1 := by omega
    have n2 : (i + 2).toNat = i.toNat + 2 := by omega
    have n3 : i'.toNat = i.toNat + 3 := by omega
    have f1 : gdn nf z (m + 1) i.toNat g1 = gdn nf z m (i.toNat + 3) (gst g1 (nf i.toNat).toInt (nf (i.toNat + 1)).toInt (nf (i.toNat + 2)).toInt) := if_pos c1
    have f2 : gdc nf z (m + 1) i.toNat g1 = gsn g1 (nf i.toNat).toInt (nf (i.toNat + 1)).toInt (nf (i.toNat + 2)).toInt + gdc nf z m (i.toNat + 3) (gst g1 (nf i.toNat).toInt (nf (i.toNat + 1)).toInt (nf (i.toNat + 2)).toInt) := if_pos c1
    rw [n1, n2] at s1 s2
    rw [f1, s1] at e1
    rw [f2, s1, s2] at e2
    refine ⟨m, by omega, ?_, ?_⟩
    · rw [n3]; exact e1
    · rw [n3]; omega
theorem dn_end {i : Int} {m : Nat} (h0 : 0 ≤ i) (hi : z ≤ i + 2) (e1 : gdn nf z m i.toNat g1 = R) (e2 : made + gdc nf z m i.toNat g1 = C) : R = g1 ∧ made = C := by
  have c1 : ¬ ((i.toNat : Nat) : Int) + 2 < z := by omega
  cases m with
  | zero =>
    have f2 : gdc nf z 0 i.toNat g1 = 0 := rfl
    exact ⟨e1.symm, by omega⟩
  | succ m =>
    have f1 : gdn nf z (m + 1) i.toNat g1 = g1 := if_neg c1
    have f2 : gdc nf z (m + 1) i.toNat g1 = 0 := if_neg c1
    exact ⟨e1.symm.trans f1, by omega⟩
end GDN
/-- the town read: both sides have the same data -/
theorem sdt_town {D w : Nat → Int32} {hs fr it dy sz : Int32} {x y r k f t c b o kn wh wm wt wd : Nat → Int32} (C : cdt D hs.toInt x y r k f t c b o) (hh : 0 ≤ hs.toInt ∧ hs.toInt ≤ 16) (F : fr = D 4 ∧ it = D 5) (K : ∀ h : Nat, h < 16 → kn h = o h) (hd : dy = 0) (hz : sz = 0) (T : ∀ j : Nat, (j = 4 ∨ j = 5 ∨ (10 ≤ j ∧ j < 154)) → w j = D j) (W0 : w 0 = hs) (W6 : w 6 = 0) (W8 : w 8 = 0) (WK : ∀ h : Nat, h < 16 → w (1864 + h) = w (18 + 9 * h)) : sdt w hs fr it dy sz x y r k f t c b o kn wh wm wt wd := by
  obtain ⟨H1, H2⟩ := C
  refine ⟨⟨W0.symm, ?_, ?_, ?_, ?_⟩, ⟨fun h hl => ?_, fun h q1 q2 => ⟨(H2 h q1 q2).1, ?_⟩⟩, fun h hl => ?_, fun i hi => ?_⟩
  · rw [T 4 (by omega)]; exact F.1
  · rw [T 5 (by omega)]; exact F.2
  · rw [W6]; exact hd
  · rw [W8]; exact hz
  · have q := H1 h hl
    rw [← T (10 + 9 * h) (by omega), ← T (11 + 9 * h) (by omega), ← T (12 + 9 * h) (by omega), ← T (13 + 9 * h) (by omega), ← T (14 + 9 * h) (by omega), ← T (15 + 9 * h) (by omega), ← T (16 + 9 * h) (by omega), ← T (17 + 9 * h) (by omega), ← T (18 + 9 * h) (by omega)] at q
    exact q
  · rw [T (18 + 9 * h) (by omega)]; exact (H2 h q1 q2).2
  · rw [K h hl, WK h hl, T (18 + 9 * h) (by omega)]
    by_cases z : (h : Int) < hs.toInt
    · exact (H1 h z).2.2.2.2.2.2.2.2
    · rw [(H2 h (by omega) hl).1, (H2 h (by omega) hl).2]
  · rw [hz] at hi
    have z : Int32.toInt 0 = 0 := by decide
    omega
