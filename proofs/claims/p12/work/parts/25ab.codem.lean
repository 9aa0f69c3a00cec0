/-! the code in the reference's rows as it is read -/
def pfI (p : Int) (f g : Nat → Int32) : Prop := ∀ j : Nat, 274 ≤ j → (j : Int) < 814 + 3 * p → g j = f j
def pfT (t p : Int) (f g : Nat → Int32) : Prop := ∀ j : Nat, ((274 ≤ j ∧ (j : Int) < 274 + 3 * t) ∨ (814 ≤ j ∧ (j : Int) < 814 + 3 * p)) → g j = f j
/-- a sum's parts: those before the last, the last -/
def smM (w : Nat → Int32) : List (Int × Int) → Int → Nat → Int → Prop
  | [], x, p, q => pEnc w p x ∧ rjn w p = q
  | (y, j) :: R, x, p, q => pEnc w p y ∧ rjn w p = q ∧ (2000 ≤ j ∧ j ≤ 2002) ∧ smM w R x (p + 1) (j - 1999)
/-- whole tests, from a test and a part on, up to others -/
def mQ (w : Nat → Int32) : List (Int × Int) → Nat → Nat → Nat → Int → Nat → Nat → Prop
  | [], t, p, b, q, t', p' => t' = t ∧ p' = p ∧ b = p ∧ q = 0
  | (x, j) :: R, t, p, b, q, t', p' => pEnc w p x ∧ rjn w p = q ∧ (if j = 2006 then (w (275 + 3 * t)).toInt = b ∧ (w (276 + 3 * t)).toInt = (p : Int) + 1 - b ∧ mQ w R (t + 1) (p + 1) (p + 1) 0 t' p' else 2000 ≤ j ∧ (2003 ≤ j → (w (274 + 3 * t)).toInt = j - 2003) ∧ mQ w R t (p + 1) b (if 2003 ≤ j then 4 else j - 1999) t' p')
section MQS
variable {w w' f g h : Nat → Int32} {p p' p0 k : Int}
theorem pfI_r : pfI p f f := fun _ _ _ => rfl
theorem pfI_t (h1 : pfI p f g) (h2 : pfI p' g h) (hp : p ≤ p') : pfI p f h := fun j j1 j2 => (h2 j j1 (by omega)).trans (h1 j j1 j2)
theorem pEnc_c {x : Int} {k : Nat} (e1 : w' (815 + 3 * k) = w (815 + 3 * k)) (e2 : w' (816 + 3 * k) = w (816 + 3 * k)) (H : pEnc w k x) : pEnc w' k x := by
  unfold pEnc at H ⊢
  rw [e1, e2]
  exact H
theorem smM_c : ∀ (R : List (Int × Int)) (x : Int) (p : Nat) (q : Int), (∀ j : Nat, 814 + 3 * p ≤ j → j < 814 + 3 * (p + R.length + 1) → w' j = w j) → smM w R x p q → smM w' R x p q := by
  intro R
  induction R with
  | nil =>
    intro x p q h H
    have l0 : ([] : List (Int × Int)).length = 0 := rfl
    exact ⟨pEnc_c (h _ (by omega) (by omega)) (h _ (by omega) (by omega)) H.1, by unfold rjn; rw [h _ (by omega) (by omega)]; exact H.2⟩
  | cons yj R ih =>
    obtain ⟨y, j⟩ := yj
    intro x p q h H
    rw [List.length_cons] at h
    obtain ⟨h1, h2, h3, h4⟩ := H
    exact ⟨pEnc_c (h _ (by omega) (by omega)) (h _ (by omega) (by omega)) h1, by unfold rjn; rw [h _ (by omega) (by omega)]; exact h2, h3, ih x (p + 1) _ (fun i i1 i2 => h i (by omega) (by omega)) h4⟩
theorem smM_a {y j : Int} : ∀ (R : List (Int × Int)) (x : Int) (p : Nat) (q : Int), smM w R x p q → 2000 ≤ j ∧ j ≤ 2002 → pEnc w (p + R.length + 1) y → rjn w (p + R.length + 1) = j - 1999 → smM w (R ++ [(x, j)]) y p q := by
  intro R
  induction R with
  | nil => intro x p q H hj h1 h2; exact ⟨H.1, H.2, hj, h1, h2⟩
  | cons zk R ih =>
    obtain ⟨z, k⟩ := zk
    intro x p q H hj h1 h2
    obtain ⟨g1, g2, g3, g4⟩ := H
    rw [List.length_cons, show p + (R.length + 1) + 1 = p + 1 + R.length + 1 by omega] at h1 h2
    exact ⟨g1, g2, g3, ih x (p + 1) _ g4 hj h1 h2⟩
/-- a sum's parts in front of the rest -/
theorem smM_q {t b t' p' : Nat} {j : Int} {S : List (Int × Int)} : ∀ (R : List (Int × Int)) (x : Int) (p : Nat) (q : Int), smM w R x p q → (pEnc w (p + R.length) x → ∀ q' : Int, rjn w (p + R.length) = q' → mQ w ((x, j) :: S) t (p + R.length) b q' t' p') → mQ w (R ++ (x, j) :: S) t p b q t' p' := by
  intro R
  induction R with
  | nil => intro x p q H h; exact h H.1 q H.2
  | cons zk R ih =>
    obtain ⟨z, k⟩ := zk
    intro x p q H h
    obtain ⟨g1, g2, g3, g4⟩ := H
    refine ⟨g1, g2, ?_⟩
    rw [if_neg (show ¬ k = 2006 by omega)]
    refine ⟨g3.1, fun z9 => by omega, ?_⟩
    rw [if_neg (show ¬ 2003 ≤ k by omega)]
    have e : p + 1 + R.length = p + ((z, k) :: R).length := by rw [List.length_cons]; omega
    exact ih x (p + 1) _ g4 (by rw [e]; exact h)
/-- a whole test -/
theorem ts_q {x y : Int} {R S : List (Int × Int)} {t p : Nat} {j : Int} (H1 : smM w R x p 0) (hj : 2003 ≤ j ∧ j ≤ 2005) (H2 : smM w S y (p + R.length + 1) 4) (h1 : (w (274 + 3 * t)).toInt = j - 2003) (h2 : (w (275 + 3 * t)).toInt = (p : Int)) (h3 : (w (276 + 3 * t)).toInt = (R.length : Int) + (S.length : Int) + 2) : mQ w (R ++ (x, j) :: (S ++ [(y, 2006)])) t p p 0 (t + 1) (p + R.length + S.length + 2) := by
  refine smM_q R x p 0 H1 (fun e1 q' e2 => ⟨e1, e2, ?_⟩)
  rw [if_neg (show ¬ j = 2006 by omega), if_pos hj.1]
  refine ⟨by omega, fun _ => h1, ?_⟩
  have z := smM_q (t := t) (b := p) (t' := t + 1) (p' := p + R.length + S.length + 2) (j := 2006) (S := []) S y (p + R.length + 1) 4 H2 (fun e3 q9 e4 => ⟨e3, e4, ?_⟩)
  · exact z
  · rw [if_pos rfl]
    refine ⟨h2, by rw [h3]; omega, rfl, by omega, rfl, rfl⟩
theorem mQ_n : ∀ (L : List (Int × Int)) (c t p b : Nat) (q : Int) (t' p' : Nat), wfE L c → mQ w L t p b q t' p' → t' = t + nts L ∧ p' = p + L.length := by
  intro L
  induction L with
  | nil => intro c t p b q t' p' _ H; exact ⟨H.1, H.2.1⟩
  | cons xj R ih =>
    obtain ⟨x, j⟩ := xj
    intro c t p b q t' p' hw H
    obtain ⟨_, hw⟩ := hw
    obtain ⟨_, _, H⟩ := H
    unfold nts
    rw [List.length_cons]
    by_cases z : j = 2006
    · rw [if_pos z] at H ⊢
      have hw2 : wfE R 0 := by
        rcases hw with ⟨_, q9, _⟩ | ⟨_, q9, _⟩ | ⟨_, _, q9⟩
        · omega
        · omega
        · exact q9
      have := ih 0 _ _ _ _ _ _ hw2 H.2.2
      omega
    · rw [if_neg z] at H ⊢
      have hw2 : ∃ c', wfE R c' := by
        rcases hw with ⟨_, _, q9⟩ | ⟨_, _, _, q9⟩ | ⟨q9, _⟩
        · exact ⟨_, q9⟩
        · exact ⟨_, q9⟩
        · omega
      obtain ⟨c', hw2⟩ := hw2
      have := ih c' _ _ _ _ _ _ hw2 H.2.2
      omega
theorem mQ_E : ∀ (L : List (Int × Int)) (t p b : Nat) (q : Int) (t' p' : Nat), mQ w L t p b q t' p' → mE w L t p b q := by
  intro L
  induction L with
  | nil => intro t p b q t' p' _; trivial
  | cons xj R ih =>
    obtain ⟨x, j⟩ := xj
    intro t p b q t' p' H
    obtain ⟨h1, h2, H⟩ := H
    refine ⟨h1, h2, ?_⟩
    by_cases z : j = 2006
    · rw [if_pos z] at H ⊢
      exact ⟨H.1, H.2.1, ih _ _ _ _ _ _ H.2.2⟩
    · rw [if_neg z] at H ⊢
      exact ⟨H.2.1, ih _ _ _ _ _ _ H.2.2⟩
theorem mQ_l : ∀ (L : List (Int × Int)) (t p b : Nat) (q : Int) (t' p' : Nat), mQ w L t p b q t' p' → t ≤ t' ∧ p' = p + L.length ∧ (L ≠ [] → t < t') := by
  intro L
  induction L with
  | nil => intro t p b q t' p' H; exact ⟨by have := H.1; omega, H.2.1, fun h => absurd rfl h⟩
  | cons xj R ih =>
    obtain ⟨x, j⟩ := xj
    intro t p b q t' p' H
    obtain ⟨_, _, H⟩ := H
    rw [List.length_cons]
    by_cases z : j = 2006
    · rw [if_pos z] at H
      have := ih _ _ _ _ _ _ H.2.2
      exact ⟨by omega, by omega, fun _ => by omega⟩
    · rw [if_neg z] at H
      have h9 := ih _ _ _ _ _ _ H.2.2
      refine ⟨h9.1, by omega, fun _ => ?_⟩
      by_cases y : R = []
      · exfalso
        rw [y] at H
        have h5 : (if 2003 ≤ j then 4 else j - 1999) = 0 := H.2.2.2.2.2
        have h6 := H.1
        split at h5 <;> omega
      · exact h9.2.2 y
theorem mQ_c : ∀ (L : List (Int × Int)) (t p b : Nat) (q : Int) (t' p' : Nat), (∀ j : Nat, ((274 + 3 * t ≤ j ∧ j < 274 + 3 * t') ∨ (814 + 3 * p ≤ j ∧ j < 814 + 3 * p')) → w' j = w j) → mQ w L t p b q t' p' → mQ w' L t p b q t' p' := by
  intro L
  induction L with
  | nil => intro t p b q t' p' _ H; exact H
  | cons xj R ih =>
    obtain ⟨x, j⟩ := xj
    intro t p b q t' p' h H0
    have hl := mQ_l _ _ _ _ _ _ _ H0
    obtain ⟨h1, h2, H⟩ := H0
    rw [List.length_cons] at hl
    have ht := hl.2.2 (List.cons_ne_nil _ _)
    refine ⟨pEnc_c (h _ (by omega)) (h _ (by omega)) h1, by unfold rjn; rw [h _ (by omega)]; exact h2, ?_⟩
    by_cases z : j = 2006
    · rw [if_pos z] at H ⊢
      exact ⟨by rw [h _ (by omega)]; exact H.1, by rw [h _ (by omega)]; exact H.2.1, ih _ _ _ _ _ _ (fun i hi => h i (by omega)) H.2.2⟩
    · rw [if_neg z] at H ⊢
      exact ⟨H.1, fun y => by rw [h _ (by omega)]; exact H.2.1 y, ih _ _ _ _ _ _ (fun i hi => h i (by omega)) H.2.2⟩
theorem mQ_a {S : List (Int × Int)} {t2 p2 : Nat} : ∀ (L : List (Int × Int)) (t p b : Nat) (q : Int) (t' p' : Nat), mQ w L t p b q t' p' → mQ w S t' p' p' 0 t2 p2 → mQ w (L ++ S) t p b q t2 p2 := by
  intro L
  induction L with
  | nil =>
    intro t p b q t' p' H HS
    obtain ⟨e1, e2, e3, e4⟩ := H
    rw [e1, e2] at HS
    rw [e3, e4]
    exact HS
  | cons xj R ih =>
    obtain ⟨x, j⟩ := xj
    intro t p b q t' p' H HS
    obtain ⟨h1, h2, H⟩ := H
    refine ⟨h1, h2, ?_⟩
    by_cases z : j = 2006
    · rw [if_pos z] at H
      rw [if_pos z]
      exact ⟨H.1, H.2.1, ih _ _ _ _ _ _ H.2.2 HS⟩
    · rw [if_neg z] at H
      rw [if_neg z]
      exact ⟨H.1, H.2.1, ih _ _ _ _ _ _ H.2.2 HS⟩
end MQS
section MEC
variable {w w' : Nat → Int32} {C : List LN} {x : LN}
theorem mE_c {T N : Int} (h : ∀ j : Nat, ((274 ≤ j ∧ (j : Int) < 274 + 3 * T) ∨ (814 ≤ j ∧ (j : Int) < 814 + 3 * N)) → w' j = w j) : ∀ (L : List (Int × Int)) (c t p b : Nat) (q : Int), wfE L c → (t : Int) + (nts L : Int) ≤ T → (p : Int) + (L.length : Int) ≤ N → mE w L t p b q → mE w' L t p b q := by
  intro L
  induction L with
  | nil => intro c t p b q _ _ _ _; trivial
  | cons xj R ih =>
    obtain ⟨x, j⟩ := xj
    intro c t p b q hw hT hN H
    have hn := wf_nts _ c hw (List.cons_ne_nil _ _)
    obtain ⟨_, hw⟩ := hw
    obtain ⟨h1, h2, H⟩ := H
    rw [List.length_cons] at hN
    refine ⟨pEnc_c (h _ (by omega)) (h _ (by omega)) h1, by unfold rjn; rw [h _ (by omega)]; exact h2, ?_⟩
    by_cases z : j = 2006
    · have e : nts ((x, j) :: R) = nts R + 1 := if_pos z
      rw [if_pos z] at H ⊢
      have hw2 : wfE R 0 := by
        rcases hw with ⟨_, q9, _⟩ | ⟨_, q9, _⟩ | ⟨_, _, q9⟩
        · omega
        · omega
        · exact q9
      exact ⟨by rw [h _ (by omega)]; exact H.1, by rw [h _ (by omega)]; exact H.2.1, ih 0 _ _ _ _ hw2 (by omega) (by omega) H.2.2⟩
    · have e : nts ((x, j) :: R) = nts R := if_neg z
      rw [if_neg z] at H ⊢
      have hw2 : ∃ c', wfE R c' := by
        rcases hw with ⟨_, _, q9⟩ | ⟨_, _, _, q9⟩ | ⟨q9, _⟩
        · exact ⟨_, q9⟩
        · exact ⟨_, q9⟩
        · omega
      obtain ⟨c', hw2⟩ := hw2
      exact ⟨fun y => by rw [h _ (by omega)]; exact H.1 y, ih c' _ _ _ _ hw2 (by omega) (by omega) H.2⟩
theorem lt_C {l : Nat} (hx : C[l]? = some x) : l < C.length := by
  by_cases z : l < C.length
  · exact z
  · rw [List.getElem?_eq_none (by omega)] at hx; cases hx
theorem cm_add (H : cdM w C) (ok : okL x) (h1 : (w' 1).toInt = (w 1).toInt + 1) (hr : ∀ j : Nat, 154 ≤ j → (j : Int) < 154 + 5 * (w 1).toInt → w' j = w j) (hp : pfT (w 2).toInt (w 3).toInt w w') (h2 : (w 2).toInt ≤ (w' 2).toInt) (h3 : (w 3).toInt ≤ (w' 3).toInt) (h20 : 0 ≤ (w 2).toInt) (h30 : 0 ≤ (w 3).toInt) (n0 : (w' (154 + 5 * (w 1).toInt.toNat)).toInt = x.1) (n1 : (w' (155 + 5 * (w 1).toInt.toNat)).toInt = x.2.1) (n2 : (w' (156 + 5 * (w 1).toInt.toNat)).toInt = x.2.2.1) (n3 : (w' (157 + 5 * (w 1).toInt.toNat)).toInt = (w 2).toInt) (n4 : (w' (158 + 5 * (w 1).toInt.toNat)).toInt = (w' 2).toInt - (w 2).toInt) (q : mQ w' x.2.2.2 (w 2).toInt.toNat (w 3).toInt.toNat (w 3).toInt.toNat 0 (w' 2).toInt.toNat (w' 3).toInt.toNat) : cdM w' (C ++ [x]) := by
  obtain ⟨z1, z2⟩ := H
  refine ⟨by rw [h1, z1, List.length_append]; rfl, fun l y hy => ?_⟩
  by_cases z : l < C.length
  · rw [List.getElem?_append_left z] at hy
    obtain ⟨q1, q2, q3, q4, q5, q6, q7, p, q8, q9⟩ := z2 l y hy
    refine ⟨q1, by rw [hr _ (by omega) (by omega)]; exact q2, by rw [hr _ (by omega) (by omega)]; exact q3, by rw [hr _ (by omega) (by omega)]; exact q4, by rw [hr _ (by omega) (by omega)]; exact q5, by rw [hr _ (by omega) (by omega)]; exact q6, by rw [hr _ (by omega) (by omega)]; omega, p, by omega, ?_⟩
    rw [hr _ (by omega) (by omega)]
    exact mE_c (T := (w 2).toInt) (N := (w 3).toInt) (fun j hj => hp j hj) _ 0 _ _ _ _ q1.2.2.2 (by omega) q8 q9
  · rw [List.getElem?_append_right (by omega)] at hy
    by_cases y9 : l = C.length
    · rw [y9, Nat.sub_self] at hy
      have ex : x = y := Option.some.inj hy
      rw [← ex]
      have ll : l = (w 1).toInt.toNat := by omega
      have m := mQ_n _ 0 _ _ _ _ _ _ ok.2.2.2 q
      rw [ll]
      refine ⟨ok, n0, n1, n2, by omega, by omega, by omega, (w 3).toInt.toNat, by omega, ?_⟩
      rw [n3]
      exact mQ_E _ _ _ _ _ _ _ q
    · rw [List.getElem?_eq_none (by show 1 ≤ l - C.length; omega)] at hy
      cases hy
theorem cm_c (H : cdM w C) (h24 : (w 1).toInt ≤ 24) (h180 : (w 2).toInt ≤ 180) (h350 : (w 3).toInt ≤ 350) (h : ∀ j : Nat, ((1 ≤ j ∧ j ≤ 3) ∨ (154 ≤ j ∧ j < 1864)) → w' j = w j) : cdM w' C := by
  obtain ⟨z1, z2⟩ := H
  refine ⟨by rw [h 1 (by omega)]; exact z1, fun l y hy => ?_⟩
  have hl := lt_C hy
  obtain ⟨q1, q2, q3, q4, q5, q6, q7, p, q8, q9⟩ := z2 l y hy
  refine ⟨q1, by rw [h _ (by omega)]; exact q2, by rw [h _ (by omega)]; exact q3, by rw [h _ (by omega)]; exact q4, by rw [h _ (by omega)]; exact q5, by rw [h _ (by omega)]; exact q6, by rw [h _ (by omega), h 2 (by omega)]; exact q7, p, by rw [h 3 (by omega)]; exact q8, ?_⟩
  rw [h _ (by omega)]
  exact mE_c (T := (w 2).toInt) (N := (w 3).toInt) (fun j hj => h j (by omega)) _ 0 _ _ _ _ q1.2.2.2 (by omega) q8 q9
end MEC
/-! the reader's steps -/
section RDM
variable {f : Nat → Int32} {n F P b F' P' b' : Int} {s t : Int × Int × Int} {w w1 w2 w3 w' : Nat → Int32} {T : Bool → Int × Int × Int → List (Int × Int)} {x : Int} {c : Bool}
theorem tk_m (h : 0 ≤ qam f n b 5) : tkn f n (F, P, b) = 1000 + qam f n b 5 := by
  have h1 := am_kd h
  unfold tkn
  exact if_neg (show ¬ qkd f n b = 2 by omega)
theorem lT_p (hb : b ≤ n) (e : t = r_pa f n (F, P, b)) : lT f n c (F, P, b) = l_tp f n (lT f n) (tkn f n (F, P, b)) c t := by
  rw [e]
  exact lT_eq hb
theorem ltp_R (h : F = 0) (ha : 0 ≤ qam f n b 6 ∧ qam f n b 6 ≤ 2) : l_tp f n T x c (F, P, b) = (x, 2000 + qam f n b 6) :: T c (r_ad f n (F, P, b)) := by
  have h1 := am_kd ha.1
  unfold l_tp
  rw [if_neg (fun q => q h), if_neg (fun q => by have q2 : qkd f n b = 3 := q.2; omega), if_pos ha]
theorem ltp_M (h : F = 0) (ha : 3 ≤ qam f n b 6 ∧ qam f n b 6 ≤ 5) : l_tp f n T x false (F, P, b) = (x, 2000 + qam f n b 6) :: T true (r_ad f n (F, P, b)) := by
  unfold l_tp
  rw [if_neg (fun q => q h), if_neg (fun q => by cases q.1), if_neg (fun q => by have q2 : qam f n b 6 ≤ 2 := q.2; omega), if_pos ⟨ha.1, ha.2, rfl⟩]
theorem ltp_E (h : F = 0) (hk : qkd f n b = 3) : l_tp f n T x true (F, P, b) = [(x, 2006)] := by
  unfold l_tp
  rw [if_neg (fun q => q h), if_pos ⟨rfl, hk⟩]
theorem ltp_A (h : F = 0) (ha : qam f n b 6 = 6) : l_tp f n T x true (F, P, b) = (x, 2006) :: T false (r_ad f n (F, P, b)) := by
  have h1 := am_kd (f := f) (n := n) (b := b) (i := 6) (by omega)
  unfold l_tp
  rw [if_neg (fun q => q h), if_neg (fun q => by have q2 : qkd f n b = 3 := q.2; omega), if_neg (fun q => by have q2 : qam f n b 6 ≤ 2 := q.2; omega), if_neg (fun q => by have q2 : qam f n b 6 ≤ 5 := q.2.1; omega), if_pos ⟨ha, rfl⟩]
/-- a part is written -/
theorem pt_w {k0 k1 k2 v0 v1 v2 v3 : Int32} {p : Int} (h0 : upd w k0.toNatClampNeg v0 = w1) (h1 : upd w1 k1.toNatClampNeg v1 = w2) (h2 : upd w2 k2.toNatClampNeg v2 = w3) (h3 : upd w3 3 v3 = w') (q0 : k0.toInt = 814 + 3 * p) (q1 : k1.toInt = k0.toInt + 1) (q2 : k2.toInt = k0.toInt + 2) (hp : 0 ≤ p) (hx : (v1.toInt = 5 ∧ v2.toInt = x ∧ x < 1000) ∨ (v1.toInt ≠ 5 ∧ 0 ≤ v1.toInt ∧ 1000 + v1.toInt = x)) : pEnc w' p.toNat x ∧ rjn w' p.toNat = v0.toInt := by
  have c0 := cl_to (x := k0) (by omega)
  have c1 := cl_to (x := k1) (by omega)
  have c2 := cl_to (x := k2) (by omega)
  have e0 : (w' (814 + 3 * p.toNat)).toInt = v0.toInt := by
    rw [← h3, upd_n (by omega), ← h2, upd_n (by omega), ← h1, upd_n (by omega), ← h0, upd_h (by omega)]
  have e1 : (w' (815 + 3 * p.toNat)).toInt = v1.toInt := by
    rw [← h3, upd_n (by omega), ← h2, upd_n (by omega), ← h1, upd_h (by omega)]
  have e2 : (w' (816 + 3 * p.toNat)).toInt = v2.toInt := by
    rw [← h3, upd_n (by omega), ← h2, upd_h (by omega)]
  refine ⟨?_, e0⟩
  unfold pEnc
  rw [e1, e2]
  rcases hx with ⟨a1, a2, a3⟩ | ⟨a1, a2, a3⟩
  · exact Or.inl ⟨a3, a1, a2⟩
  · exact Or.inr ⟨by omega, by omega⟩
theorem pt_f {k0 k1 k2 v0 v1 v2 v3 : Int32} {p : Int} (h0 : upd w k0.toNatClampNeg v0 = w1) (h1 : upd w1 k1.toNatClampNeg v1 = w2) (h2 : upd w2 k2.toNatClampNeg v2 = w3) (h3 : upd w3 3 v3 = w') (q0 : k0.toInt = 814 + 3 * p) (q1 : k1.toInt = k0.toInt + 1) (q2 : k2.toInt = k0.toInt + 2) (hp : 0 ≤ p) : pfI p w w' := by
  have c0 := cl_to (x := k0) (by omega)
  have c1 := cl_to (x := k1) (by omega)
  have c2 := cl_to (x := k2) (by omega)
  intro j j1 j2
  rw [← h3, upd_n (by omega), ← h2, upd_n (by omega), ← h1, upd_n (by omega), ← h0, upd_n (by omega)]
end RDM
section RTM
variable {f : Nat → Int32} {n F P b F' P' b' : Int} {s t : Int × Int × Int} {w w1 w2 w3 w4 w' : Nat → Int32}
/-- both sums of a test: what stands before the second's last part -/
def ssM (f : Nat → Int32) (n : Int) (s t : Int × Int × Int) (w : Nat → Int32) (g p p' : Int) : Prop := ∃ (R S : List (Int × Int)) (x y : Int), (0 ≤ g ∧ g ≤ 2) ∧ smM w R x p.toNat 0 ∧ smM w S y (p.toNat + R.length + 1) 4 ∧ p' = p + (R.length : Int) + (S.length : Int) + 2 ∧ lT f n false s = R ++ (x, 2003 + g) :: (S ++ l_tp f n (lT f n) y true t)
theorem ss_m {R S : List (Int × Int)} {x y g p p1 p' : Int} {r : Int × Int × Int} (hp : 0 ≤ p) (c1 : ∀ c : Bool, lT f n c s = R ++ l_tp f n (lT f n) x c (F, P, b)) (m1 : smM w1 R x p.toNat 0) (l1 : p + (R.length : Int) + 1 = p1) (hF : F = 0) (ha : 3 ≤ qam f n b 6 ∧ qam f n b 6 ≤ 5) (hg : g = qam f n b 6 - 3) (er : r = r_ad f n (F, P, b)) (c2 : ∀ c : Bool, lT f n c r = S ++ l_tp f n (lT f n) y c t) (m2 : smM w S y p1.toNat 4) (l2 : p1 + (S.length : Int) + 1 = p') (fr : pfI p1 w1 w) : ssM f n s t w g p p' := by
  refine ⟨R, S, x, y, by omega, smM_c R x _ _ (fun j j1 j2 => fr j (by omega) (by omega)) m1, ?_, by omega, ?_⟩
  · rw [show p.toNat + R.length + 1 = p1.toNat by omega]; exact m2
  · rw [c1 false, ltp_M hF ha, ← er, c2 true, show 2003 + g = 2000 + qam f n b 6 by omega]
/-- a test's row is written -/
theorem ts_w {k0 k1 k2 v0 v1 v2 v3 : Int32} {t0 : Int} (h0 : upd w k0.toNatClampNeg v0 = w1) (h1 : upd w1 k1.toNatClampNeg v1 = w2) (h2 : upd w2 k2.toNatClampNeg v2 = w3) (h3 : upd w3 2 v3 = w') (q0 : k0.toInt = 274 + 3 * t0) (q1 : k1.toInt = k0.toInt + 1) (q2 : k2.toInt = k0.toInt + 2) (ht : 0 ≤ t0 ∧ t0 ≤ 179) : ((w' (274 + 3 * t0.toNat)).toInt = v0.toInt ∧ (w' (275 + 3 * t0.toNat)).toInt = v1.toInt ∧ (w' (276 + 3 * t0.toNat)).toInt = v2.toInt) ∧ ∀ j : Nat, j ≠ 2 → (j < 274 + 3 * t0.toNat ∨ 277 + 3 * t0.toNat ≤ j) → w' j = w j := by
  have c0 := cl_to (x := k0) (by omega)
  have c1 := cl_to (x := k1) (by omega)
  have c2 := cl_to (x := k2) (by omega)
  refine ⟨⟨?_, ?_, ?_⟩, fun j j1 j2 => ?_⟩
  · rw [← h3, upd_n (by omega), ← h2, upd_n (by omega), ← h1, upd_n (by omega), ← h0, upd_h (by omega)]
  · rw [← h3, upd_n (by omega), ← h2, upd_n (by omega), ← h1, upd_h (by omega)]
  · rw [← h3, upd_n (by omega), ← h2, upd_h (by omega)]
  · rw [← h3, upd_n j1, ← h2, upd_n (by omega), ← h1, upd_n (by omega), ← h0, upd_n (by omega)]
/-- a test told: its list, its rows -/
def tsM (f : Nat → Int32) (n : Int) (s : Int × Int × Int) (t : Int × Int × Int) (w : Nat → Int32) (t0 p0 t1 p1 : Int) : Prop := ∃ L : List (Int × Int), mQ w L t0.toNat p0.toNat p0.toNat 0 t1.toNat p1.toNat ∧ (qkd f n t.2.2 = 3 → lT f n false s = L) ∧ (qam f n t.2.2 6 = 6 → lT f n false s = L ++ lT f n false (r_ad f n t))
theorem ts_m {k0 k1 k2 v0 v1 v2 v3 : Int32} {t0 t1 p p' : Int} (X : ssM f n s (F, P, b) w v0.toInt p p') (hF : F = 0) (h0 : upd w k0.toNatClampNeg v0 = w1) (h1 : upd w1 k1.toNatClampNeg v1 = w2) (h2 : upd w2 k2.toNatClampNeg v2 = w3) (h3 : upd w3 2 v3 = w') (q0 : k0.toInt = 274 + 3 * t0) (q1 : k1.toInt = k0.toInt + 1) (q2 : k2.toInt = k0.toInt + 2) (ht : 0 ≤ t0 ∧ t0 ≤ 179) (hp : 0 ≤ p) (e1 : v1.toInt = p) (e2 : v2.toInt = p' - p) (et : t1 = t0 + 1) : tsM f n s (F, P, b) w' t0 p t1 p' := by
  obtain ⟨⟨g0, g1, g2⟩, fr⟩ := ts_w h0 h1 h2 h3 q0 q1 q2 ht
  obtain ⟨R, S, x, y, hg, m1, m2, l, e⟩ := X
  have M1 : smM w' R x p.toNat 0 := smM_c R x _ _ (fun j j1 j2 => fr j (by omega) (by omega)) m1
  have M2 : smM w' S y (p.toNat + R.length + 1) 4 := smM_c S y _ _ (fun j j1 j2 => fr j (by omega) (by omega)) m2
  have q := ts_q (w := w') (t := t0.toNat) (p := p.toNat) (j := 2003 + v0.toInt) M1 ⟨by omega, by omega⟩ M2 (by omega) (by omega) (by omega)
  refine ⟨R ++ (x, 2003 + v0.toInt) :: (S ++ [(y, 2006)]), ?_, fun hk => ?_, fun ha => ?_⟩
  · rw [show t1.toNat = t0.toNat + 1 by omega, show p'.toNat = p.toNat + R.length + S.length + 2 by omega]
    exact q
  · rw [e, ltp_E hF hk]
  · rw [e, ltp_A hF ha, List.append_assoc, List.cons_append, List.append_assoc]
    rfl
theorem ts_f {k0 k1 k2 v0 v1 v2 v3 : Int32} {t0 p : Int} {g : Nat → Int32} (h0 : upd w k0.toNatClampNeg v0 = w1) (h1 : upd w1 k1.toNatClampNeg v1 = w2) (h2 : upd w2 k2.toNatClampNeg v2 = w3) (h3 : upd w3 2 v3 = w') (q0 : k0.toInt = 274 + 3 * t0) (q1 : k1.toInt = k0.toInt + 1) (q2 : k2.toInt = k0.toInt + 2) (ht : 0 ≤ t0 ∧ t0 ≤ 179) (fr : pfI p g w) (hp : 0 ≤ p) : pfT t0 p g w' := by
  have h := (ts_w h0 h1 h2 h3 q0 q1 q2 ht).2
  intro j hj
  rw [h j (by omega) (by omega)]
  exact fr j (by omega) (by omega)
theorem pfI_T {p t0 : Int} {g : Nat → Int32} (fr : pfI p g w) (ht : t0 ≤ 180) (hp : 0 ≤ p) : pfT t0 p g w := fun j hj => fr j (by omega) (by omega)
theorem pfT_t {t0 t1 p0 p1 : Int} {g h : Nat → Int32} (h1 : pfT t0 p0 g w) (h2 : pfT t1 p1 w h) (ht : t0 ≤ t1) (hp : p0 ≤ p1) : pfT t0 p0 g h := fun j hj => (h2 j (by omega)).trans (h1 j hj)
theorem pfT_r {t0 p0 : Int} : pfT t0 p0 w w := fun _ _ => rfl
/-- several tests -/
def tsA (f : Nat → Int32) (n : Int) (s : Int × Int × Int) (t : Int × Int × Int) (w : Nat → Int32) (t0 p0 t1 p1 : Int) : Prop := tsM f n s t w t0 p0 t1 p1
theorem ta_s {t0 p0 t1 p1 t2 p2 : Int} {r t' : Int × Int × Int} (X : tsM f n s t w t0 p0 t1 p1) (ha : qam f n t.2.2 6 = 6) (er : r = r_ad f n t) (Y : tsM f n r t' w' t1 p1 t2 p2) (fr : pfT t1 p1 w w') (h0 : 0 ≤ t0 ∧ 0 ≤ p0) (h1 : 0 ≤ t1 ∧ 0 ≤ p1) : tsM f n s t' w' t0 p0 t2 p2 := by
  obtain ⟨L, q1, a1, a2⟩ := X
  obtain ⟨M, q2, b1, b2⟩ := Y
  have q3 : mQ w' L t0.toNat p0.toNat p0.toNat 0 t1.toNat p1.toNat := mQ_c L _ _ _ _ _ _ (fun j hj => fr j (by omega)) q1
  refine ⟨L ++ M, mQ_a L _ _ _ _ _ _ q3 q2, fun hk => ?_, fun hb => ?_⟩
  · rw [a2 ha, ← er, b1 hk]
  · rw [a2 ha, ← er, b2 hb, List.append_assoc]
theorem is_and (h : 0 ≤ qam f n b 35) : qam f n b 6 = 6 := am_and h
/-- a line's tests -/
def rlM (f : Nat → Int32) (n : Int) (s : Int × Int × Int) (b : Int) (w : Nat → Int32) (t0 p0 t1 p1 : Int) : Prop := qkd f n b = 3 → mQ w (rlt f n s) t0.toNat p0.toNat p0.toNat 0 t1.toNat p1.toNat
theorem rl_n {t0 p0 t1 p1 : Int} (e1 : ((F, P, b) : Int × Int × Int) = r_o1 f n s) (h : ¬ (F = 0 ∧ 0 ≤ qam f n b 4)) (ht : t1 = t0) (hp : p1 = p0) : rlM f n s b' w t0 p0 t1 p1 := by
  intro _
  rw [rlt_n e1 h, ht, hp]
  exact ⟨rfl, rfl, rfl, rfl⟩
theorem rl_y {t0 p0 t1 p1 : Int} {r : Int × Int × Int} (e1 : ((F, P, b) : Int × Int × Int) = r_o1 f n s) (h : F = 0 ∧ 0 ≤ qam f n b 4) (er : r = r_ad f n (F, P, b)) (X : tsM f n r (F', P', b') w t0 p0 t1 p1) : rlM f n s b' w t0 p0 t1 p1 := by
  intro hk
  obtain ⟨L, q1, a1, _⟩ := X
  rw [rlt_y e1 h er, a1 hk]
  exact q1
/-- a line's row, whole -/
theorem ow_m {k0 k1 k2 k3 k4 u0 u1 u2 u3 u4 u5 : Int32} {l t1 p1 : Int} {x : LN} {C : List LN} {z1 z2 z3 z4 z5 z6 : Nat → Int32} (H : cdM w C) (ok : okL x) (hl : l = (w 1).toInt) (l0 : 0 ≤ l ∧ l ≤ 23) (p0 : 0 ≤ (w 2).toInt ∧ (w 2).toInt ≤ 180 ∧ 0 ≤ (w 3).toInt)
    (h0 : upd w k0.toNatClampNeg u0 = z1) (h1 : upd z1 k1.toNatClampNeg u1 = z2) (h2 : upd z2 k2.toNatClampNeg u2 = z3) (h3 : upd z3 k3.toNatClampNeg u3 = z4) (q0 : k0.toInt = 154 + 5 * l) (q1 : k1.toInt = k0.toInt + 1) (q2 : k2.toInt = k0.toInt + 2) (q3 : k3.toInt = k0.toInt + 3)
    (fA : frm 274 z4 z5) (fT : pfT (w 2).toInt (w 3).toInt z4 z5) (h4 : upd z5 k4.toNatClampNeg u4 = z6) (q4 : k4.toInt = k0.toInt + 4) (h5 : upd z6 1 u5 = w') (q5 : u5.toInt = l + 1)
    (n0 : u0.toInt = x.1) (n1 : u1.toInt = x.2.1) (n2 : u2.toInt = x.2.2.1) (n3 : u3.toInt = (w 2).toInt) (n4 : u4.toInt = (z5 2).toInt - (w 2).toInt) (g2 : (w 2).toInt ≤ (z5 2).toInt) (g3 : (w 3).toInt ≤ (z5 3).toInt) (m : mQ z5 x.2.2.2 (w 2).toInt.toNat (w 3).toInt.toNat (w 3).toInt.toNat 0 (z5 2).toInt.toNat (z5 3).toInt.toNat) : cdM w' (C ++ [x]) := by
  have c0 := cl_to (x := k0) (by omega)
  have c1 := cl_to (x := k1) (by omega)
  have c2 := cl_to (x := k2) (by omega)
  have c3 := cl_to (x := k3) (by omega)
  have c4 := cl_to (x := k4) (by omega)
  have O4 : ∀ j : Nat, (j < 154 + 5 * l.toNat ∨ 158 + 5 * l.toNat ≤ j) → z4 j = w j := fun j hj => by
    rw [← h3, upd_n (by omega), ← h2, upd_n (by omega), ← h1, upd_n (by omega), ← h0, upd_n (by omega)]
  have O5 : ∀ j : Nat, j ≠ 1 → j ≠ 158 + 5 * l.toNat → w' j = z5 j := fun j j1 j2 => by
    rw [← h5, upd_n j1, ← h4, upd_n (by omega)]
  have A : ∀ j : Nat, j < 274 → j ≠ 2 → j ≠ 3 → z5 j = z4 j := fA
  have e2 : w' 2 = z5 2 := O5 2 (by omega) (by omega)
  have e3 : w' 3 = z5 3 := O5 3 (by omega) (by omega)
  refine cm_add H ok ?_ (fun j j1 j2 => ?_) (fun j hj => ?_) (by rw [e2]; exact g2) (by rw [e3]; exact g3) p0.1 p0.2.2 ?_ ?_ ?_ ?_ ?_ ?_
  · rw [← h5, upd_h rfl, q5, hl]
  · rw [O5 j (by omega) (by omega), A j (by omega) (by omega) (by omega), O4 j (by omega)]
  · rw [O5 j (by omega) (by omega), fT j hj, O4 j (by omega)]
  · rw [← hl, O5 _ (by omega) (by omega), A _ (by omega) (by omega) (by omega), ← h3, upd_n (by omega), ← h2, upd_n (by omega), ← h1, upd_n (by omega), ← h0, upd_h (by omega)]
    exact n0
  · rw [← hl, O5 _ (by omega) (by omega), A _ (by omega) (by omega) (by omega), ← h3, upd_n (by omega), ← h2, upd_n (by omega), ← h1, upd_h (by omega)]
    exact n1
  · rw [← hl, O5 _ (by omega) (by omega), A _ (by omega) (by omega) (by omega), ← h3, upd_n (by omega), ← h2, upd_h (by omega)]
    exact n2
  · rw [← hl, O5 _ (by omega) (by omega), A _ (by omega) (by omega) (by omega), ← h3, upd_h (by omega)]
    exact n3
  · rw [← hl, e2, ← h5, upd_n (by omega), ← h4, upd_h (by omega)]
    exact n4
  · rw [e2, e3]
    exact mQ_c _ _ _ _ _ _ _ (fun j hj => O5 j (by omega) (by omega)) m
end RTM
section OWM
variable {f : Nat → Int32} {n b : Int} {s : Int × Int × Int}
theorem am_24 (h : 4 ≤ qam f n b 0) : qam f n b 0 = qam f n b 2 + 4 := by
  rw [am_w0] at h ⊢
  rw [am_w2]
  by_cases c17 : qam f n b 17 = 0
  · rw [if_pos c17] at h; omega
  rw [if_neg c17] at h ⊢
  by_cases c18 : qam f n b 18 = 0
  · rw [if_pos c18] at h; omega
  rw [if_neg c18] at h ⊢
  by_cases c19 : qam f n b 19 = 0
  · rw [if_pos c19] at h; omega
  rw [if_neg c19] at h ⊢
  by_cases c20 : qam f n b 20 = 0
  · rw [if_pos c20] at h; omega
  rw [if_neg c20] at h ⊢
  by_cases c13 : qam f n b 13 = 0
  · rw [if_pos c13, if_pos c13]; rfl
  rw [if_neg c13] at h ⊢
  rw [if_neg c13]
  by_cases c14 : qam f n b 14 = 0
  · rw [if_pos c14, if_pos c14]; rfl
  rw [if_neg c14] at h ⊢
  rw [if_neg c14]
  by_cases c15 : qam f n b 15 = 0
  · rw [if_pos c15, if_pos c15]; rfl
  rw [if_neg c15] at h ⊢
  rw [if_neg c15]
  by_cases c16 : qam f n b 16 = 0
  · rw [if_pos c16, if_pos c16]; rfl
  rw [if_neg c16] at h
  omega
theorem o1_d (h : (r_o1 f n s).1 = 0) : (r_chi f n 1 (r_ad f n s)).1 = 0 := (chi_b (o1_c h)).1
theorem cl_fz (h : (r_cl f n s).1 = 0) : s.1 = 0 := by
  unfold r_cl at h
  by_cases z : s.1 = 0
  · exact z
  · rw [if_neg z] at h; exact h
/-- where the line ends well -/
theorem ow_z {F P : Int} {q : Int × Int × Int} (e : r_cl f n q = r_cl f n (F, P, b)) (hF : F = 0) (hk : qkd f n b = 3) : q.1 = 0 := by
  refine cl_fz (?_ : (r_cl f n q).1 = 0)
  rw [e]
  unfold r_cl
  rw [if_pos (show (F, P, b).1 = 0 from hF), if_pos (show qkd f n (F, P, b).2.2 = 3 from hk)]
  exact hF
end OWM
theorem cm_0 {w : Nat → Int32} (h : (w 1).toInt = 0) : cdM w [] := ⟨h, fun l x hx => by rw [List.getElem?_nil] at hx; cases hx⟩
theorem cm_w {f g g0 g1 : Nat → Int32} {i j : Int} (H : cpR g g0 f 0 0 0 i) (K : kcp g1 g j) (hi : 9080 ≤ i) : ∀ q : Nat, ((1 ≤ q ∧ q ≤ 3) ∨ (154 ≤ q ∧ q < 1864)) → g1 q = f q := fun q hq => by
  rw [K.1 q (by omega), cp_eq H hi q (by omega)]
theorem t7_z {f0 z0 f1 f w w0 w1 : Nat → Int32} {i i2 j : Int} {k : Nat} (Z : cpR f0 z0 (fun _ => 0) 0 0 0 i) (hi : 9080 ≤ i) (e : upd f0 k 3 = f1) (hk : k = 5) (R : rfr f1 f) (C : cpR w w0 f 0 0 0 i2) (hi2 : 9080 ≤ i2) (K : kcp w1 w j) : (w1 7).toInt = 0 ∧ w1 9 = 0 := by
  have key : ∀ q : Nat, 6 ≤ q → q < 10 → w1 q = 0 := fun q h1 h2 => by
    rw [K.1 q (by omega), cp_eq C hi2 q (by omega), R q (by omega), ← e, upd_n (by omega), cp_eq Z hi q (by omega)]
  exact ⟨by rw [key 7 (by omega) (by omega)]; decide, key 9 (by omega) (by omega)⟩
