/-! the town's data, by functions over the lines (draft: not yet compiled) -/
def r_ov (f : Nat → Int32) (n : Int) (i : Nat) (lo hi : Int) (s : Int × Int × Int) : Int := if s.1 = 0 ∧ 0 ≤ qam f n s.2.2 i then r_nv f n lo hi (r_ad f n s) else 0
def r_hv (f : Nat → Int32) (n : Int) (s : Int × Int × Int) (k : Nat) : Int := if k = 0 then r_nv f n 0 99 (r_chi f n 7 s) else if k = 1 then r_nv f n 0 99 (r_nm f n 0 99 (r_chi f n 7 s)) else if k = 2 then r_nv f n 0 9 (r_chi f n 8 (r_nm f n 0 99 (r_nm f n 0 99 (r_chi f n 7 s)))) else if k = 3 then qam f n (r_chi f n 9 (r_nm f n 0 9 (r_chi f n 8 (r_nm f n 0 99 (r_nm f n 0 99 (r_chi f n 7 s)))))).2.2 10 else if k = 4 then r_nv f n 0 180 (r_h1 f n s) else if k = 5 then r_nv f n (r_nv f n 0 180 (r_h1 f n s)) 180 (r_nm f n 0 180 (r_h1 f n s)) else if k = 6 then r_ov f n 11 0 399 (r_h2 f n s) else if k = 7 then r_ov f n 12 0 99 (r_opt f n 11 0 399 (r_h2 f n s)) else 0
/-- a house's nine places -/
def r_hd (f : Nat → Int32) (n : Int) (h : Nat) (s : Int × Int × Int) (D : Nat → Int32) : Nat → Int32 := fun j => if 10 + 9 * h ≤ j ∧ j < 19 + 9 * h then Int32.ofInt (r_hv f n s (j - (10 + 9 * h))) else D j
def qbit (k : Int) : Int32 := (1 : Int32) <<< (Int32.ofInt k &&& 31)
def r_ka (f : Nat → Int32) (n hs : Int) (s : Int × Int × Int) : Int := r_nv f n 0 (hs - 1) s
def r_kb (f : Nat → Int32) (n hs : Int) (s : Int × Int × Int) : Int := r_nv f n 0 (hs - 1) (r_k1 f n (r_ka f n hs s) (r_nm f n 0 (hs - 1) s))
/-- two houses know each other -/
def kno (D : Nat → Int32) (p q : Nat) (a b : Int) : Nat → Int32 := upd (upd D p (D p ||| qbit b)) q (upd D p (D p ||| qbit b) q ||| qbit a)
def r_kd (f : Nat → Int32) (n hs : Int) (s : Int × Int × Int) (D : Nat → Int32) : Nat → Int32 := kno D (18 + 9 * (r_ka f n hs s).toNat) (18 + 9 * (r_kb f n hs s).toNat) (r_ka f n hs s) (r_kb f n hs s)
def r_ld (f : Nat → Int32) (n : Int) (q : (Int × Int × Int) × Int × Int) (D : Nat → Int32) : Nat → Int32 := if qam f n q.1.2.2 0 = 0 then r_hd f n q.2.1.toNat (r_ad f n q.1) D else if qam f n q.1.2.2 0 = 1 then r_kd f n q.2.1 (r_ad f n q.1) D else if qam f n q.1.2.2 0 = 2 then upd D 4 (Int32.ofInt (r_nv f n 0 99 (r_ad f n q.1))) else if qam f n q.1.2.2 0 = 3 then upd D 5 (Int32.ofInt (r_nv f n 1 9 (r_ad f n q.1))) else D
def r_rdd (f : Nat → Int32) (n : Int) : Nat → (Int × Int × Int) × Int × Int → (Nat → Int32) → Nat → Int32
  | 0, _, D => D
  | m + 1, q, D => if q.1.1 ≠ 0 ∨ qkd f n q.1.2.2 = 0 then D else r_rdd f n m (r_ln f n q) (r_ld f n q D)
def rrd (f : Nat → Int32) (n : Int) : Nat → Int32 := r_rdd f n 1401 (((0, -1, qrun qcB f n 0) : Int × Int × Int), 0, 0) (upd (fun _ => 0) 5 3)
/-- what of the data is looked at -/
def rgd (j : Nat) : Prop := j = 4 ∨ j = 5 ∨ (10 ≤ j ∧ j < 154)
def tdt (D g : Nat → Int32) : Prop := ∀ j : Nat, rgd j → g j = D j
/-- the class's rows have the data -/
def cdt (D : Nat → Int32) (hs : Int) (x y r w f t c b o : Nat → Int32) : Prop := (∀ h : Nat, (h : Int) < hs → x h = D (10 + 9 * h) ∧ y h = D (11 + 9 * h) ∧ r h = D (12 + 9 * h) ∧ w h = D (13 + 9 * h) ∧ f h = D (14 + 9 * h) ∧ t h = D (15 + 9 * h) ∧ c h = D (16 + 9 * h) ∧ b h = D (17 + 9 * h) ∧ o h = D (18 + 9 * h)) ∧ ∀ h : Nat, hs ≤ (h : Int) → h < 16 → o h = 0 ∧ D (18 + 9 * h) = 0
section DAT
variable {f D : Nat → Int32} {n F P b hs ls lo hi v : Int} {s s1 : Int × Int × Int} {i h : Nat}
theorem hv_0 : r_hv f n s 0 = r_nv f n 0 99 (r_chi f n 7 s) := rfl
theorem hv_1 : r_hv f n s 1 = r_nv f n 0 99 (r_nm f n 0 99 (r_chi f n 7 s)) := rfl
theorem hv_2 : r_hv f n s 2 = r_nv f n 0 9 (r_chi f n 8 (r_nm f n 0 99 (r_nm f n 0 99 (r_chi f n 7 s)))) := rfl
theorem hv_3 : r_hv f n s 3 = qam f n (r_chi f n 9 (r_nm f n 0 9 (r_chi f n 8 (r_nm f n 0 99 (r_nm f n 0 99 (r_chi f n 7 s)))))).2.2 10 := rfl
theorem hv_4 : r_hv f n s 4 = r_nv f n 0 180 (r_h1 f n s) := rfl
theorem hv_5 : r_hv f n s 5 = r_nv f n (r_nv f n 0 180 (r_h1 f n s)) 180 (r_nm f n 0 180 (r_h1 f n s)) := rfl
theorem hv_6 : r_hv f n s 6 = r_ov f n 11 0 399 (r_h2 f n s) := rfl
theorem hv_7 : r_hv f n s 7 = r_ov f n 12 0 99 (r_opt f n 11 0 399 (r_h2 f n s)) := rfl
theorem hv_8 : r_hv f n s 8 = 0 := rfl
theorem ov_y (hq : F = 0 ∧ 0 ≤ qam f n b i) (e1 : s1 = r_ad f n (F, P, b)) (ev : v = r_nv f n lo hi s1) : v = r_ov f n i lo hi (F, P, b) := by
  rw [ev, e1]
  exact (if_pos hq).symm
theorem ov_n (hq : ¬ (F = 0 ∧ 0 ≤ qam f n b i)) (ev : v = 0) : v = r_ov f n i lo hi (F, P, b) := by
  rw [ev]
  exact (if_neg hq).symm
theorem hd_in {k : Nat} (hk : k < 9) : r_hd f n h s D (10 + 9 * h + k) = Int32.ofInt (r_hv f n s k) := by
  unfold r_hd
  rw [if_pos ⟨by omega, by omega⟩, show 10 + 9 * h + k - (10 + 9 * h) = k by omega]
theorem hd_out {j : Nat} (hj : j < 10 + 9 * h ∨ 19 + 9 * h ≤ j) : r_hd f n h s D j = D j := by
  unfold r_hd
  rw [if_neg (by omega)]
theorem nm_b (e : (r_nm f n lo hi s).1 = 0) : s.1 = 0 ∧ lo ≤ r_nv f n lo hi s ∧ r_nv f n lo hi s ≤ hi := by
  unfold r_nm at e
  by_cases h0 : s.1 = 0
  · rw [if_pos h0] at e
    by_cases h1 : qkd f n s.2.2 = 2
    · rw [if_pos h1] at e
      by_cases h2 : lo ≤ qdv f n s.2.2 ∧ qdv f n s.2.2 ≤ hi
      · have h3 : r_nv f n lo hi s = qdv f n s.2.2 := if_pos ⟨h0, h1, h2.1, h2.2⟩
        rw [h3]
        exact ⟨h0, h2⟩
      · rw [if_neg h2] at e
        unfold r_fl at e
        rw [if_pos h0] at e
        cases e
    · rw [if_neg h1] at e
      unfold r_fl at e
      rw [if_pos h0] at e
      cases e
  · rw [if_neg h0] at e
    exact absurd e h0
theorem k1_b {a : Int} (e : (r_k1 f n a s).1 = 0) : s.1 = 0 := by
  unfold r_k1 at e
  split at e
  · unfold r_fl at e
    split at e
    · assumption
    · exact e
  · exact e
theorem kn_b (e : (r_kn f n hs s).1 = 0) : 0 ≤ r_ka f n hs s ∧ r_ka f n hs s ≤ hs - 1 ∧ 0 ≤ r_kb f n hs s ∧ r_kb f n hs s ≤ hs - 1 := by
  have h1 := nm_b e
  have h2 := nm_b (k1_b h1.1)
  exact ⟨h2.2.1, h2.2.2, h1.2.1, h1.2.2⟩
theorem kno_o {p q j : Nat} {a c : Int} (h1 : j ≠ p) (h2 : j ≠ q) : kno D p q a c j = D j := by
  unfold kno upd
  rw [if_neg h2, if_neg h1]
theorem kno_t {g : Nat → Int32} {p q p' q' j j' : Nat} {a c : Int} (hp : j = p ↔ j' = p') (hq : j = q ↔ j' = q') (hpq : q = p ↔ q' = p') (ej : D j = g j') (ep : D p = g p') (eq : D q = g q') : kno D p q a c j = kno g p' q' a c j' := by
  unfold kno upd
  by_cases h2 : j = q
  · rw [if_pos h2, if_pos (hq.mp h2)]
    by_cases h3 : q = p
    · rw [if_pos h3, if_pos (hpq.mp h3), ep]
    · rw [if_neg h3, if_neg (fun z => h3 (hpq.mpr z)), eq]
  · rw [if_neg h2, if_neg (fun z => h2 (hq.mpr z))]
    by_cases h3 : j = p
    · rw [if_pos h3, if_pos (hp.mp h3), ep]
    · rw [if_neg h3, if_neg (fun z => h3 (hp.mpr z)), ej]
end DAT
/-- what a line that is no line with owes does to the class's rows -/
def cst (f : Nat → Int32) (n w hs : Int) (s : Int × Int × Int) (fr it : Int32) (x y r k a t c d o : Nat → Int32) (fr' it' : Int32) (x' y' r' k' a' t' c' d' o' : Nat → Int32) : Prop :=
  (w = 0 ∧ (x' = upd x hs.toNat (Int32.ofInt (r_hv f n s 0)) ∧ y' = upd y hs.toNat (Int32.ofInt (r_hv f n s 1)) ∧ r' = upd r hs.toNat (Int32.ofInt (r_hv f n s 2)) ∧ k' = upd k hs.toNat (Int32.ofInt (r_hv f n s 3)) ∧ a' = upd a hs.toNat (Int32.ofInt (r_hv f n s 4)) ∧ t' = upd t hs.toNat (Int32.ofInt (r_hv f n s 5)) ∧ c' = upd c hs.toNat (Int32.ofInt (r_hv f n s 6)) ∧ d' = upd d hs.toNat (Int32.ofInt (r_hv f n s 7))) ∧ o' = o ∧ fr' = fr ∧ it' = it) ∨
  (w = 1 ∧ o' = kno o (r_ka f n hs s).toNat (r_kb f n hs s).toNat (r_ka f n hs s) (r_kb f n hs s) ∧ (x' = x ∧ y' = y ∧ r' = r ∧ k' = k ∧ a' = a ∧ t' = t ∧ c' = c ∧ d' = d) ∧ fr' = fr ∧ it' = it) ∨
  (w = 2 ∧ fr' = Int32.ofInt (r_nv f n 0 99 s) ∧ (x' = x ∧ y' = y ∧ r' = r ∧ k' = k ∧ a' = a ∧ t' = t ∧ c' = c ∧ d' = d) ∧ o' = o ∧ it' = it) ∨
  (w = 3 ∧ it' = Int32.ofInt (r_nv f n 1 9 s) ∧ (x' = x ∧ y' = y ∧ r' = r ∧ k' = k ∧ a' = a ∧ t' = t ∧ c' = c ∧ d' = d) ∧ o' = o ∧ fr' = fr)
theorem upd_h {g : Nat → Int32} {v : Int32} {h q : Nat} (e : h = q) : upd g q v h = v := by
  unfold upd
  exact if_pos e
theorem upd_n {g : Nat → Int32} {v : Int32} {h q : Nat} (e : h ≠ q) : upd g q v h = g h := by
  unfold upd
  exact if_neg e
theorem cdt_st {f D x y r k a t c d o x' y' r' k' a' t' c' d' o' : Nat → Int32} {n F P b hs ls : Int} {fr it fr' it' : Int32} (H : cdt D hs x y r k a t c d o) (h4 : fr = D 4) (h5 : it = D 5) (hs0 : 0 ≤ hs ∧ hs ≤ 16) (hF0 : F = 0) (hF : (r_ot f n hs (qam f n b 0) (F, P, b)).1 = 0) (hc : cst f n (qam f n b 0) hs (r_ad f n (F, P, b)) fr it x y r k a t c d o fr' it' x' y' r' k' a' t' c' d' o') : cdt (r_ld f n ((F, P, b), hs, ls) D) (if qam f n b 0 = 0 then hs + 1 else hs) x' y' r' k' a' t' c' d' o' ∧ fr' = r_ld f n ((F, P, b), hs, ls) D 4 ∧ it' = r_ld f n ((F, P, b), hs, ls) D 5 := by
  obtain ⟨H1, H2⟩ := H
  rcases hc with ⟨hw, ⟨rfl, rfl, rfl, rfl, rfl, rfl, rfl, rfl⟩, rfl, rfl, rfl⟩ | ⟨hw, rfl, ⟨rfl, rfl, rfl, rfl, rfl, rfl, rfl, rfl⟩, rfl, rfl⟩ | ⟨hw, rfl, ⟨rfl, rfl, rfl, rfl, rfl, rfl, rfl, rfl⟩, rfl, rfl⟩ | ⟨hw, rfl, ⟨rfl, rfl, rfl, rfl, rfl, rfl, rfl, rfl⟩, rfl, rfl⟩
  · have hh : hs < 16 := by
      rw [hw] at hF
      by_cases q : hs < 16
      · exact q
      · have e : r_ot f n hs 0 (F, P, b) = r_fl 3 (F, P, b) := (if_pos rfl).trans (if_neg q)
        have e2 : r_fl 3 (F, P, b) = (3, b, b) := if_pos hF0
        rw [e, e2] at hF
        cases hF
    have e : r_ld f n ((F, P, b), hs, ls) D = r_hd f n hs.toNat (r_ad f n (F, P, b)) D := if_pos hw
    rw [e, if_pos hw]
    refine ⟨⟨fun h hlt => ?_, fun h h1 h2 => ⟨(H2 h (by omega) h2).1, (hd_out (by omega)).trans (H2 h (by omega) h2).2⟩⟩, ?_, ?_⟩
    · by_cases q : h = hs.toNat
      · have o8 : o' h = 0 := (H2 h (by omega) (by omega)).1
        have g := fun k9 (hk : k9 < 9) => hd_in (f := f) (n := n) (h := hs.toNat) (s := r_ad f n (F, P, b)) (D := D) (k := k9) hk
        rw [upd_h q, upd_h q, upd_h q, upd_h q, upd_h q, upd_h q, upd_h q, upd_h q, q] at *
        refine ⟨(g 0 (by decide)).symm, ?_, ?_, ?_, ?_, ?_, ?_, ?_, ?_⟩
        · rw [show 11 + 9 * hs.toNat = 10 + 9 * hs.toNat + 1 by omega]; exact (g 1 (by decide)).symm
        · rw [show 12 + 9 * hs.toNat = 10 + 9 * hs.toNat + 2 by omega]; exact (g 2 (by decide)).symm
        · rw [show 13 + 9 * hs.toNat = 10 + 9 * hs.toNat + 3 by omega]; exact (g 3 (by decide)).symm
        · rw [show 14 + 9 * hs.toNat = 10 + 9 * hs.toNat + 4 by omega]; exact (g 4 (by decide)).symm
        · rw [show 15 + 9 * hs.toNat = 10 + 9 * hs.toNat + 5 by omega]; exact (g 5 (by decide)).symm
        · rw [show 16 + 9 * hs.toNat = 10 + 9 * hs.toNat + 6 by omega]; exact (g 6 (by decide)).symm
        · rw [show 17 + 9 * hs.toNat = 10 + 9 * hs.toNat + 7 by omega]; exact (g 7 (by decide)).symm
        · rw [show 18 + 9 * hs.toNat = 10 + 9 * hs.toNat + 8 by omega, g 8 (by decide), hv_8, o8]; rfl
      · rw [upd_n q, upd_n q, upd_n q, upd_n q, upd_n q, upd_n q, upd_n q, upd_n q]
        obtain ⟨a1, a2, a3, a4, a5, a6, a7, a8, a9⟩ := H1 h (by omega)
        refine ⟨?_, ?_, ?_, ?_, ?_, ?_, ?_, ?_, ?_⟩ <;> (rw [hd_out (by omega)]; assumption)
    · rw [hd_out (by omega)]; exact h4
    · rw [hd_out (by omega)]; exact h5
  · have e : r_ld f n ((F, P, b), hs, ls) D = r_kd f n hs (r_ad f n (F, P, b)) D := (if_neg (show ¬ qam f n b 0 = 0 by omega)).trans (if_pos hw)
    have hk : (r_kn f n hs (r_ad f n (F, P, b))).1 = 0 := by
      have e2 : r_ot f n hs (qam f n b 0) (F, P, b) = r_kn f n hs (r_ad f n (F, P, b)) := (ot_1 hw rfl).symm
      rw [e2] at hF
      exact hF
    obtain ⟨b1, b2, b3, b4⟩ := kn_b hk
    rw [e, if_neg (show ¬ qam f n b 0 = 0 by omega)]
    unfold r_kd
    generalize r_ka f n hs (r_ad f n (F, P, b)) = A at b1 b2 ⊢
    generalize r_kb f n hs (r_ad f n (F, P, b)) = B at b3 b4 ⊢
    have oA := (H1 A.toNat (by omega)).2.2.2.2.2.2.2.2
    have oB := (H1 B.toNat (by omega)).2.2.2.2.2.2.2.2
    refine ⟨⟨fun h hlt => ?_, fun h h1 h2 => ?_⟩, ?_, ?_⟩
    · obtain ⟨a1, a2, a3, a4, a5, a6, a7, a8, a9⟩ := H1 h hlt
      refine ⟨?_, ?_, ?_, ?_, ?_, ?_, ?_, ?_, ?_⟩
      · rw [kno_o (by omega) (by omega)]; exact a1
      · rw [kno_o (by omega) (by omega)]; exact a2
      · rw [kno_o (by omega) (by omega)]; exact a3
      · rw [kno_o (by omega) (by omega)]; exact a4
      · rw [kno_o (by omega) (by omega)]; exact a5
      · rw [kno_o (by omega) (by omega)]; exact a6
      · rw [kno_o (by omega) (by omega)]; exact a7
      · rw [kno_o (by omega) (by omega)]; exact a8
      · exact kno_t ⟨fun q => by omega, fun q => by omega⟩ ⟨fun q => by omega, fun q => by omega⟩ ⟨fun q => by omega, fun q => by omega⟩ a9 oA oB
    · exact ⟨by rw [kno_o (by omega) (by omega)]; exact (H2 h h1 h2).1, by rw [kno_o (by omega) (by omega)]; exact (H2 h h1 h2).2⟩
    · rw [kno_o (by omega) (by omega)]; exact h4
    · rw [kno_o (by omega) (by omega)]; exact h5
  · have e : r_ld f n ((F, P, b), hs, ls) D = upd D 4 (Int32.ofInt (r_nv f n 0 99 (r_ad f n (F, P, b)))) := (if_neg (show ¬ qam f n b 0 = 0 by omega)).trans ((if_neg (show ¬ qam f n b 0 = 1 by omega)).trans (if_pos hw))
    rw [e, if_neg (show ¬ qam f n b 0 = 0 by omega)]
    refine ⟨⟨fun h hlt => ?_, fun h h1 h2 => ⟨(H2 h h1 h2).1, (upd_n (by omega)).trans (H2 h h1 h2).2⟩⟩, (upd_h rfl).symm, ?_⟩
    · obtain ⟨a1, a2, a3, a4, a5, a6, a7, a8, a9⟩ := H1 h hlt
      refine ⟨?_, ?_, ?_, ?_, ?_, ?_, ?_, ?_, ?_⟩ <;> (rw [upd_n (by omega)]; assumption)
    · rw [upd_n (by decide)]; exact h5
  · have e : r_ld f n ((F, P, b), hs, ls) D = upd D 5 (Int32.ofInt (r_nv f n 1 9 (r_ad f n (F, P, b)))) := (if_neg (show ¬ qam f n b 0 = 0 by omega)).trans ((if_neg (show ¬ qam f n b 0 = 1 by omega)).trans ((if_neg (show ¬ qam f n b 0 = 2 by omega)).trans (if_pos hw)))
    rw [e, if_neg (show ¬ qam f n b 0 = 0 by omega)]
    refine ⟨⟨fun h hlt => ?_, fun h h1 h2 => ⟨(H2 h h1 h2).1, (upd_n (by omega)).trans (H2 h h1 h2).2⟩⟩, ?_, (upd_h rfl).symm⟩
    · obtain ⟨a1, a2, a3, a4, a5, a6, a7, a8, a9⟩ := H1 h hlt
      refine ⟨?_, ?_, ?_, ?_, ?_, ?_, ?_, ?_, ?_⟩ <;> (rw [upd_n (by omega)]; assumption)
    · rw [upd_n (by decide)]; exact h4
theorem upd_e {g g' : Nat → Int32} {i v : Int32} {z : Int} (h : upd g i.toNatClampNeg v = g') (hi : 0 ≤ i.toInt) (hv : v.toInt = z) : g' = upd g i.toInt.toNat (Int32.ofInt z) := by
  have h1 : i.toNatClampNeg = i.toInt.toNat := by have := cl_to hi; omega
  rw [← h, h1, ← hv, Int32.ofInt_toInt]
theorem kno_e {o f1 f2 : Nat → Int32} {a b va vb sa sb la lb : Int32} {A B : Int} (h1 : upd o a.toNatClampNeg va = f1) (h2 : upd f1 b.toNatClampNeg vb = f2) (ea : va = la ||| sb) (eb : vb = lb ||| sa) (ela : la = o a.toNatClampNeg) (elb : lb = f1 b.toNatClampNeg) (esb : sb = 1 <<< (b &&& 31)) (esa : sa = 1 <<< (a &&& 31)) (ha : 0 ≤ a.toInt) (hb : 0 ≤ b.toInt) (hA : a.toInt = A) (hB : b.toInt = B) : f2 = kno o A.toNat B.toNat A B := by
  subst hA hB
  have q1 : a.toNatClampNeg = a.toInt.toNat := by have := cl_to ha; omega
  have q2 : b.toNatClampNeg = b.toInt.toNat := by have := cl_to hb; omega
  have b1 : qbit a.toInt = sa := by rw [esa]; unfold qbit; rw [Int32.ofInt_toInt]
  have b2 : qbit b.toInt = sb := by rw [esb]; unfold qbit; rw [Int32.ofInt_toInt]
  unfold kno
  rw [b1, b2, ← q1, ← q2, ← ela, ← ea, h1, ← elb, ← eb, h2]
theorem opt_b {f : Nat → Int32} {n lo hi : Int} {i : Nat} {s : Int × Int × Int} (e : (r_opt f n i lo hi s).1 = 0) : s.1 = 0 := by
  unfold r_opt at e
  split at e
  · next h => exact h.1
  · exact e
theorem h2_b {f : Nat → Int32} {n : Int} {s : Int × Int × Int} (e : (r_opt f n 12 0 99 (r_opt f n 11 0 399 (r_h2 f n s))).1 = 0) : (r_h1 f n s).1 = 0 := (nm_b (nm_b (opt_b (opt_b e))).1).1
theorem fst_e {F P b : Int} {s : Int × Int × Int} (e : ((F, P, b) : Int × Int × Int) = s) : F = s.1 := by rw [← e]
theorem cpy_n {f0 f1 f : Nat → Int32} {m : Int32} (h : va_cpy f0 f1 (0 : Int32).toNatClampNeg (0 : Int32).toNatClampNeg m.toNatClampNeg = f) (j : Nat) (hj : j < m.toNatClampNeg) : f j = f0 j := by
  have z : (0 : Int32).toNatClampNeg = 0 := by decide
  rw [← h]
  unfold va_cpy
  rw [z, if_pos ⟨by omega, by omega⟩, Nat.zero_add, Nat.sub_zero]
section RDD
variable {f D : Nat → Int32} {n i i' F P b hs ls : Int} {t : Int × Int × Int} {R : Nat → Int32}
theorem rdd_u (hI : r_rdd f n (1401 - i).toNat ((F, P, b), hs, ls) D = R) (hi : 0 ≤ i ∧ i ≤ 1400) (ei : i' = i + 1) (h0 : F = 0) (hk : qkd f n b ≠ 0) : r_rdd f n (1401 - i').toNat (r_ln f n ((F, P, b), hs, ls)) (r_ld f n ((F, P, b), hs, ls) D) = R := by
  have e : (1401 - i).toNat = (1401 - i').toNat + 1 := by omega
  rw [e] at hI
  rw [← hI]
  exact (if_neg (fun q => q.elim (fun q => q h0) (fun q => hk q))).symm
theorem rdd_o (hI : r_rdd f n (1401 - i).toNat ((F, P, b), hs, ls) D = R) (hi : 0 ≤ i ∧ i ≤ 1400) (ei : i' = i + 1) (h0 : F = 0) (hk : qkd f n b ≠ 0) (ha : 4 ≤ qam f n b 0) (e : t = r_ow f n ls (F, P, b)) : r_rdd f n (1401 - i').toNat (r_cl f n t, hs, ls + 1) D = R := by
  have e1 : r_ln f n ((F, P, b), hs, ls) = (r_cl f n t, hs, ls + 1) := by rw [e]; exact if_pos ha
  have e2 : r_ld f n ((F, P, b), hs, ls) D = D := (if_neg (show ¬ qam f n b 0 = 0 by omega)).trans ((if_neg (show ¬ qam f n b 0 = 1 by omega)).trans ((if_neg (show ¬ qam f n b 0 = 2 by omega)).trans (if_neg (show ¬ qam f n b 0 = 3 by omega))))
  have h := rdd_u hI hi ei h0 hk
  rw [e1, e2] at h
  exact h
theorem rdd_t (hI : r_rdd f n (1401 - i).toNat ((F, P, b), hs, ls) D = R) (hi : 0 ≤ i ∧ i ≤ 1400) (ei : i' = i + 1) (h0 : F = 0) (hk : qkd f n b ≠ 0) (ha : qam f n b 0 < 4) (e : t = r_ot f n hs (qam f n b 0) (F, P, b)) : r_rdd f n (1401 - i').toNat (r_cl f n t, (if qam f n b 0 = 0 then hs + 1 else hs), ls) (r_ld f n ((F, P, b), hs, ls) D) = R := by
  have e1 : r_ln f n ((F, P, b), hs, ls) = (r_cl f n t, (if qam f n b 0 = 0 then hs + 1 else hs), ls) := by rw [e]; exact if_neg (show ¬ 4 ≤ qam f n b 0 by omega)
  have h := rdd_u hI hi ei h0 hk
  rw [e1] at h
  exact h
theorem rdd_e (hI : r_rdd f n (1401 - i).toNat ((F, P, b), hs, ls) D = R) (h : F ≠ 0 ∨ qkd f n b = 0 ∨ 1400 < i) : D = R := by
  rw [← hI]
  cases hm : (1401 - i).toNat with
  | zero => rfl
  | succ m =>
    refine (if_pos ?_).symm
    rcases h with h | h | h
    · exact Or.inl h
    · exact Or.inr h
    · omega
end RDD
theorem fl_0 {f : Nat → Int32} {v : Int32} {i : Int} (h : i ≤ 0) : ∀ j : Nat, (j : Int) < i → f j = v := fun j hj => by omega
theorem fl_s {f f' : Nat → Int32} {v q q' : Int32} (h : ∀ j : Nat, (j : Int) < q.toInt → f j = v) (hf : upd f q.toNatClampNeg v = f') (hq : 0 ≤ q.toInt) (e : q'.toInt = q.toInt + 1) : ∀ j : Nat, (j : Int) < q'.toInt → f' j = v := by
  intro j hj
  rw [← hf]
  unfold upd
  by_cases z : j = q.toNatClampNeg
  · exact if_pos z
  · rw [if_neg z]
    exact h j (by have := cl_to hq; omega)
theorem cdt_0 {D x y r k a t c d o : Nat → Int32} {hs : Int} (h : hs ≤ 0) (ho : ∀ j : Nat, j < 16 → o j = 0) (hD : ∀ j : Nat, 18 ≤ j → D j = 0) : cdt D hs x y r k a t c d o := ⟨fun j hj => by omega, fun j _ hj => ⟨ho j hj, hD _ (by omega)⟩⟩
theorem cdt_cp {D x y r k a t c d o x' y' r' k' a' t' c' d' o' : Nat → Int32} {hs : Int} (H : cdt D hs x y r k a t c d o) (h : hs ≤ 16) (e1 : ∀ j : Nat, j < 16 → x' j = x j) (e2 : ∀ j : Nat, j < 16 → y' j = y j) (e3 : ∀ j : Nat, j < 16 → r' j = r j) (e4 : ∀ j : Nat, j < 16 → k' j = k j) (e5 : ∀ j : Nat, j < 16 → a' j = a j) (e6 : ∀ j : Nat, j < 16 → t' j = t j) (e7 : ∀ j : Nat, j < 16 → c' j = c j) (e8 : ∀ j : Nat, j < 16 → d' j = d j) (e9 : ∀ j : Nat, j < 16 → o' j = o j) : cdt D hs x' y' r' k' a' t' c' d' o' := by
  refine ⟨fun j hj => ?_, fun j h1 h2 => ⟨(e9 j h2).trans (H.2 j h1 h2).1, (H.2 j h1 h2).2⟩⟩
  have z : j < 16 := by omega
  rw [e1 j z, e2 j z, e3 j z, e4 j z, e5 j z, e6 j z, e7 j z, e8 j z, e9 j z]
  exact H.1 j hj
theorem fll_0 {f : Nat → Int64} {v : Int64} {i : Int} (h : i ≤ 0) : ∀ j : Nat, (j : Int) < i → f j = v := fun j hj => by omega
theorem fll_s {f f' : Nat → Int64} {v : Int64} {q q' : Int32} (h : ∀ j : Nat, (j : Int) < q.toInt → f j = v) (hf : vp_updL f q.toNatClampNeg v = f') (hq : 0 ≤ q.toInt) (e : q'.toInt = q.toInt + 1) : ∀ j : Nat, (j : Int) < q'.toInt → f' j = v := by
  intro j hj
  rw [← hf]
  unfold vp_updL
  by_cases z : j = q.toNatClampNeg
  · exact if_pos z
  · rw [if_neg z]
    exact h j (by have := cl_to hq; omega)
theorem updl_v {g g' : Nat → Int64} {i : Int32} {v w : Int64} (h : vp_updL g i.toNatClampNeg v = g') (hi : 0 ≤ i.toInt) (e : v = w) : g' = vp_updL g i.toInt.toNat w := by
  rw [← h, e, show i.toNatClampNeg = i.toInt.toNat by have := cl_to hi; omega]
/-- a number cut to its width -/
def qcut (w : Int32) (v : Int64) : Int64 := if w = 0 then (v.toInt32.toInt8.toInt32).toInt64 else if w = 1 then (v.toInt32.toInt16.toInt32).toInt64 else if w = 2 then v.toInt32.toInt64 else v
theorem qcut_0 {v : Int64} {a b : Int32} (e1 : a = v.toInt32) (e2 : b = a.toInt8.toInt32) : b.toInt64 = qcut 0 v := by
  rw [e2, e1]
  exact (if_pos rfl).symm
theorem qcut_1 {v : Int64} {a b : Int32} (e1 : a = v.toInt32) (e2 : b = a.toInt16.toInt32) : b.toInt64 = qcut 1 v := by
  rw [e2, e1]
  exact ((if_neg (by decide)).trans (if_pos rfl)).symm
theorem qcut_2 {v : Int64} {a : Int32} (e1 : a = v.toInt32) : a.toInt64 = qcut 2 v := by
  rw [e1]
  exact ((if_neg (by decide)).trans ((if_neg (by decide)).trans (if_pos rfl))).symm
theorem qcut_d {w : Int32} {v : Int64} (h : w.toInt < 0 ∨ (0 : Int) + 2 < w.toInt) : qcut w v = v := by
  have n0 : w ≠ 0 := fun e => by subst e; revert h; decide
  have n1 : w ≠ 1 := fun e => by subst e; revert h; decide
  have n2 : w ≠ 2 := fun e => by subst e; revert h; decide
  exact (if_neg n0).trans ((if_neg n1).trans (if_neg n2))
