/-! the code: a line's tests as parts and what stands behind each (2000 .. 2002 reckon, 2003 .. 2005 compare, 2006: and, or the end) -/
def evp (fa : Nat → Int) (x : Int) : Int := if x < 1000 then x else if x - 1000 < 5 then fa (x - 1000).toNat else 0
def bgb (x : Int) : Bool := decide (x < -1000000000 ∨ 1000000000 < x)
def bcu (x : Int) : Int := if bgb x then 0 else x
def scp (s l r : Int) : Prop := if s = 2003 then r < l else if s = 2004 then l < r else l = r
/-- the class's way through a line: left side, sum so far, product so far, sign, minus, something beyond the bounds -/
def evl (fa : Nat → Int) : List (Int × Int) → Int → Int → Int → Int → Bool → Bool → Prop
  | [], _, _, _, _, _, _ => True
  | (x, j) :: R, l, t, p, s, mi, be =>
    if j = 2002 then evl fa R l t (bcu (p * evp fa x)) s mi (be || bgb (p * evp fa x))
    else if j = 2006 then ((be || bgb (p * evp fa x)) || bgb (if mi then t - bcu (p * evp fa x) else t + bcu (p * evp fa x))) = false ∧ scp s l (bcu (if mi then t - bcu (p * evp fa x) else t + bcu (p * evp fa x))) ∧ evl fa R l 0 1 s false false
    else if 2003 ≤ j then evl fa R (bcu (if mi then t - bcu (p * evp fa x) else t + bcu (p * evp fa x))) 0 1 j false ((be || bgb (p * evp fa x)) || bgb (if mi then t - bcu (p * evp fa x) else t + bcu (p * evp fa x)))
    else evl fa R l (bcu (if mi then t - bcu (p * evp fa x) else t + bcu (p * evp fa x))) 1 s (decide (j = 2001)) ((be || bgb (p * evp fa x)) || bgb (if mi then t - bcu (p * evp fa x) else t + bcu (p * evp fa x)))
/-- the reference's way through a test: its parts from k on (m of them), with the term at hand -/
def inb (x : Int) : Prop := -1000000000 ≤ x ∧ x ≤ 1000000000
section ROWS
variable (w : Nat → Int32) (fa : Nat → Int)
/-- a part's number, off the rows -/
def rvp (k : Nat) : Int := if (w (815 + 3 * k)).toInt = 5 then (w (816 + 3 * k)).toInt else fa (w (815 + 3 * k)).toInt.toNat
def rjn (k : Nat) : Int := (w (814 + 3 * k)).toInt
noncomputable def trm : Nat → Nat → Int → Int → Int → Int → Option (Int × Int)
  | 0, _, q, v, f, s => if bgb (if q = 2 then (if q = 4 then 0 else s) - v else (if q = 4 then 0 else s) + v) then none else some (if q = 4 then s else f, if q = 2 then (if q = 4 then 0 else s) - v else (if q = 4 then 0 else s) + v)
  | m + 1, k, q, v, f, s =>
    if rjn w k = 3 then (if bgb (v * rvp w fa k) then none else trm m (k + 1) q (v * rvp w fa k) f s)
    else if bgb (if q = 2 then (if q = 4 then 0 else s) - v else (if q = 4 then 0 else s) + v) then none
    else trm m (k + 1) (rjn w k) (rvp w fa k) (if q = 4 then s else f) (if q = 2 then (if q = 4 then 0 else s) - v else (if q = 4 then 0 else s) + v)
noncomputable def trO : Nat → Nat → Int → Int → Option (Int × Int)
  | 0, _, f, s => some (f, s)
  | m + 1, k, f, s => trm w fa m (k + 1) (rjn w k) (rvp w fa k) f s
/-- a test holds -/
def thd (t : Nat) : Prop := ∃ f s, trO w fa (w (276 + 3 * t)).toInt.toNat (w (275 + 3 * t)).toInt.toNat 0 0 = some (f, s) ∧ scp ((w (274 + 3 * t)).toInt + 2003) f s
end ROWS
/-! both ways are one: a line's tests in the reference's rows -/
def pEnc (w : Nat → Int32) (k : Nat) (x : Int) : Prop := (x < 1000 ∧ (w (815 + 3 * k)).toInt = 5 ∧ (w (816 + 3 * k)).toInt = x) ∨ (1000 ≤ x ∧ (w (815 + 3 * k)).toInt = x - 1000)
def mE (w : Nat → Int32) : List (Int × Int) → Nat → Nat → Nat → Int → Prop
  | [], _, _, _, _ => True
  | (x, j) :: R, t, p, b, q => pEnc w p x ∧ rjn w p = q ∧ (if j = 2006 then (w (275 + 3 * t)).toInt = b ∧ (w (276 + 3 * t)).toInt = (p : Int) + 1 - b ∧ mE w R (t + 1) (p + 1) (p + 1) 0 else (2003 ≤ j → (w (274 + 3 * t)).toInt = j - 2003) ∧ mE w R t (p + 1) b (if 2003 ≤ j then 4 else j - 1999))
/-- well told: 0 at a test's start, 1 before its sign, 2 behind it -/
def wfE : List (Int × Int) → Nat → Prop
  | [], c => c = 0
  | (x, j) :: R, c => (0 ≤ x ∧ x < 1005) ∧ ((2000 ≤ j ∧ j ≤ 2002 ∧ wfE R (if c = 2 then 2 else 1)) ∨ (2003 ≤ j ∧ j ≤ 2005 ∧ c ≠ 2 ∧ wfE R 2) ∨ (j = 2006 ∧ c = 2 ∧ wfE R 0))
/-- how many parts the test still has; how many tests begin -/
def pln : List (Int × Int) → Nat
  | [] => 0
  | (_, j) :: R => if j = 2006 then 1 else pln R + 1
def nts : List (Int × Int) → Nat
  | [] => 0
  | (_, j) :: R => if j = 2006 then nts R + 1 else nts R
def fin9 (w : Nat → Int32) (t : Nat) (o : Option (Int × Int)) : Prop := ∃ f s, o = some (f, s) ∧ scp ((w (274 + 3 * t)).toInt + 2003) f s
def alt9 (w : Nat → Int32) (fa : Nat → Int) (t n : Nat) : Prop := ∀ i, i < n → thd w fa (t + i)
section EVL
variable {w : Nat → Int32} {fa : Nat → Int}
theorem rvp_e {k : Nat} {x : Int} (h : pEnc w k x) (hx : 0 ≤ x ∧ x < 1005) : rvp w fa k = evp fa x := by
  unfold rvp evp
  rcases h with ⟨h1, h2, h3⟩ | ⟨h1, h2⟩
  · rw [if_pos h2, if_pos h1, h3]
  · rw [if_neg (by omega), if_neg (by omega), if_pos (by omega), h2]
theorem evl_be : ∀ (L : List (Int × Int)) (c : Nat) (l t p s : Int) (mi : Bool), L ≠ [] → wfE L c → ¬ evl fa L l t p s mi true := by
  intro L
  induction L with
  | nil => intro c l t p s mi h; exact absurd rfl h
  | cons xj R ih =>
    obtain ⟨x, j⟩ := xj
    intro c l t p s mi _ hw h
    obtain ⟨hx, hw⟩ := hw
    unfold evl at h
    by_cases j2 : j = 2002
    · rw [if_pos j2, Bool.true_or] at h
      have hw2 : wfE R (if c = 2 then 2 else 1) := by
        rcases hw with ⟨_, _, q⟩ | ⟨q, _⟩ | ⟨q, _⟩
        · exact q
        · omega
        · omega
      refine ih _ _ _ _ _ _ (fun e => ?_) hw2 h
      rw [e] at hw2
      have hw3 : (if c = 2 then 2 else 1) = 0 := hw2
      split at hw3 <;> omega
    · rw [if_neg j2] at h
      by_cases j6 : j = 2006
      · rw [if_pos j6] at h
        have h1 := h.1
        rw [Bool.true_or, Bool.true_or] at h1
        cases h1
      · rw [if_neg j6] at h
        by_cases j3 : 2003 ≤ j
        · rw [if_pos j3, Bool.true_or, Bool.true_or] at h
          have hw2 : wfE R 2 := by
            rcases hw with ⟨_, q, _⟩ | ⟨_, _, _, q⟩ | ⟨q, _⟩
            · omega
            · exact q
            · omega
          refine ih _ _ _ _ _ _ (fun e => ?_) hw2 h
          rw [e] at hw2
          have hw3 : 2 = 0 := hw2
          omega
        · rw [if_neg j3, Bool.true_or, Bool.true_or] at h
          have hw2 : wfE R (if c = 2 then 2 else 1) := by
            rcases hw with ⟨_, _, q⟩ | ⟨q, _⟩ | ⟨q, _⟩
            · exact q
            · omega
            · omega
          refine ih _ _ _ _ _ _ (fun e => ?_) hw2 h
          rw [e] at hw2
          have hw3 : (if c = 2 then 2 else 1) = 0 := hw2
          split at hw3 <;> omega
theorem bcu_n {x : Int} (h : bgb x = false) : bcu x = x := by
  unfold bcu
  rw [if_neg (by rw [h]; decide)]
/-- the reference's rest of a test, put together where a term ends -/
theorem trm_f {m k : Nat} {q v f s u : Int} (hu : u = if q = 2 then (if q = 4 then 0 else s) - v else (if q = 4 then 0 else s) + v) (h : m = 0 ∨ rjn w k ≠ 3) : trm w fa m k q v f s = if bgb u then none else trO w fa m k (if q = 4 then s else f) u := by
  subst hu
  cases m with
  | zero => rfl
  | succ m =>
    have h3 : rjn w k ≠ 3 := h.resolve_left (by omega)
    have e : trm w fa (m + 1) k q v f s = if rjn w k = 3 then (if bgb (v * rvp w fa k) then none else trm w fa m (k + 1) q (v * rvp w fa k) f s) else if bgb (if q = 2 then (if q = 4 then 0 else s) - v else (if q = 4 then 0 else s) + v) then none else trm w fa m (k + 1) (rjn w k) (rvp w fa k) (if q = 4 then s else f) (if q = 2 then (if q = 4 then 0 else s) - v else (if q = 4 then 0 else s) + v) := rfl
    rw [e, if_neg h3]
    rfl
/-- how the two states stand to each other at a part with join q -/
def stE (c : Nat) (q l t f s0 : Int) : Prop := (q = 4 ∧ c = 2 ∧ l = s0 ∧ t = 0) ∨ (q ≠ 4 ∧ t = s0 ∧ (c = 2 → l = f))
theorem alt_s {t n : Nat} : alt9 w fa t (n + 1) ↔ thd w fa t ∧ alt9 w fa (t + 1) n := by
  constructor
  · intro h
    refine ⟨h 0 (by omega), fun i hi => ?_⟩
    have q := h (i + 1) (by omega)
    rw [show t + (i + 1) = t + 1 + i by omega] at q
    exact q
  · rintro ⟨h1, h2⟩ i hi
    cases i with
    | zero => exact h1
    | succ i =>
      have q := h2 i (by omega)
      rw [show t + 1 + i = t + (i + 1) by omega] at q
      exact q
theorem fin_n {t : Nat} : ¬ fin9 w t none := fun ⟨_, _, h, _⟩ => by cases h
theorem wf_ne {L : List (Int × Int)} {c : Nat} (h : wfE L c) (hc : c ≠ 0) : L ≠ [] := fun e => by
  rw [e] at h
  exact hc h
theorem wf_nts : ∀ (L : List (Int × Int)) (c : Nat), wfE L c → L ≠ [] → 1 ≤ nts L := by
  intro L
  induction L with
  | nil => intro c _ h; exact absurd rfl h
  | cons xj R ih =>
    obtain ⟨x, j⟩ := xj
    intro c hw _
    obtain ⟨hx, hw⟩ := hw
    unfold nts
    by_cases j6 : j = 2006
    · rw [if_pos j6]
      omega
    · rw [if_neg j6]
      rcases hw with ⟨_, _, q⟩ | ⟨_, _, _, q⟩ | ⟨q, _⟩
      · exact ih _ q (wf_ne q (by split <;> omega))
      · exact ih _ q (wf_ne q (by omega))
      · omega
theorem mE_row : ∀ (L : List (Int × Int)) (c t p b : Nat) (q : Int), wfE L c → L ≠ [] → mE w L t p b q → (w (275 + 3 * t)).toInt = b ∧ (w (276 + 3 * t)).toInt = (p : Int) + (pln L : Int) - b := by
  intro L
  induction L with
  | nil => intro c t p b q _ h; exact absurd rfl h
  | cons xj R ih =>
    obtain ⟨x, j⟩ := xj
    intro c t p b q hw _ hm
    obtain ⟨hx, hw⟩ := hw
    obtain ⟨m1, m2, m3⟩ := hm
    unfold pln
    by_cases j6 : j = 2006
    · rw [if_pos j6] at m3 ⊢
      exact ⟨m3.1, by rw [m3.2.1]; rfl⟩
    · rw [if_neg j6] at m3 ⊢
      have hr : ∃ c', wfE R c' ∧ c' ≠ 0 := by
        rcases hw with ⟨_, _, z⟩ | ⟨_, _, _, z⟩ | ⟨z, _⟩
        · exact ⟨_, z, by split <;> omega⟩
        · exact ⟨_, z, by omega⟩
        · omega
      obtain ⟨c', z1, z2⟩ := hr
      have h := ih c' t (p + 1) b _ z1 (wf_ne z1 z2) m3.2
      exact ⟨h.1, by have := h.2; push_cast at this ⊢; omega⟩
theorem fin_t {L : List (Int × Int)} {c t p : Nat} {q : Int} (hw : wfE L c) (hn : L ≠ []) (hm : mE w L t p p q) : fin9 w t (trO w fa (pln L) p 0 0) ↔ thd w fa t := by
  have h := mE_row L c t p p q hw hn hm
  have e1 : (w (275 + 3 * t)).toInt.toNat = p := by omega
  have e2 : (w (276 + 3 * t)).toInt.toNat = pln L := by omega
  unfold thd fin9
  rw [e1, e2]
/-- at a term's end, and within a term -/
def A9 (w : Nat → Int32) (fa : Nat → Int) (L : List (Int × Int)) : Prop := ∀ (c p t b : Nat) (q f s0 l tt s : Int) (mi : Bool), wfE L c → L ≠ [] → mE w L t p b q → q ≠ 3 → stE c q l tt f s0 → mi = decide (q = 2) → (c = 2 → s = (w (274 + 3 * t)).toInt + 2003) → (evl fa L l tt 1 s mi false ↔ fin9 w t (trO w fa (pln L) p f s0) ∧ alt9 w fa (t + 1) (nts L - 1))
def B9 (w : Nat → Int32) (fa : Nat → Int) (L : List (Int × Int)) : Prop := ∀ (c p t b : Nat) (q f s0 l tt s v : Int) (mi : Bool), wfE L c → L ≠ [] → mE w L t p b 3 → stE c q l tt f s0 → mi = decide (q = 2) → (c = 2 → s = (w (274 + 3 * t)).toInt + 2003) → (evl fa L l tt v s mi false ↔ fin9 w t (trm w fa (pln L) p q v f s0) ∧ alt9 w fa (t + 1) (nts L - 1))
/-- behind a part that ends a term: its product is v -/
theorem evl_C {R : List (Int × Int)} (hA : A9 w fa R) {c p t b : Nat} {q f s0 l tt s v j : Int} {mi : Bool} (hj : j ≠ 2002) (hw : (2000 ≤ j ∧ j ≤ 2002 ∧ wfE R (if c = 2 then 2 else 1)) ∨ (2003 ≤ j ∧ j ≤ 2005 ∧ c ≠ 2 ∧ wfE R 2) ∨ (j = 2006 ∧ c = 2 ∧ wfE R 0)) (hm : if j = 2006 then (w (275 + 3 * t)).toInt = b ∧ (w (276 + 3 * t)).toInt = (p : Int) + 1 - b ∧ mE w R (t + 1) (p + 1) (p + 1) 0 else (2003 ≤ j → (w (274 + 3 * t)).toInt = j - 2003) ∧ mE w R t (p + 1) b (if 2003 ≤ j then 4 else j - 1999)) (hs : stE c q l tt f s0) (hmi : mi = decide (q = 2)) (hsg : c = 2 → s = (w (274 + 3 * t)).toInt + 2003) : (if j = 2006 then bgb (if mi then tt - v else tt + v) = false ∧ scp s l (bcu (if mi then tt - v else tt + v)) ∧ evl fa R l 0 1 s false false else if 2003 ≤ j then evl fa R (bcu (if mi then tt - v else tt + v)) 0 1 j false (bgb (if mi then tt - v else tt + v)) else evl fa R l (bcu (if mi then tt - v else tt + v)) 1 s (decide (j = 2001)) (bgb (if mi then tt - v else tt + v))) ↔ fin9 w t (trm w fa (if j = 2006 then 0 else pln R) (p + 1) q v f s0) ∧ alt9 w fa (t + 1) (if j = 2006 then nts R else nts R - 1) := by
  have hu : (if mi then tt - v else tt + v) = if q = 2 then (if q = 4 then 0 else s0) - v else (if q = 4 then 0 else s0) + v := by
    have e1 : tt = if q = 4 then 0 else s0 := by
      rcases hs with ⟨h1, _, _, h4⟩ | ⟨h1, h2, _⟩
      · rw [if_pos h1]; exact h4
      · rw [if_neg h1]; exact h2
    rw [← e1, hmi]
    by_cases q2 : q = 2
    · rw [if_pos q2, decide_eq_true q2]; rfl
    · rw [if_neg q2, decide_eq_false q2]; rfl
  have hl2 : c = 2 → l = if q = 4 then s0 else f := fun hc => by
    rcases hs with ⟨h1, _, h3, _⟩ | ⟨h1, _, h3⟩
    · rw [if_pos h1]; exact h3
    · rw [if_neg h1]; exact h3 hc
  generalize hU : (if mi then tt - v else tt + v) = u at hu ⊢
  by_cases j6 : j = 2006
  · rw [if_pos j6, if_pos j6, if_pos j6] at *
    obtain ⟨w1, w2⟩ : c = 2 ∧ wfE R 0 := by
      rcases hw with ⟨_, z, _⟩ | ⟨_, z, _⟩ | ⟨_, z1, z2⟩
      · omega
      · omega
      · exact ⟨z1, z2⟩
    rw [trm_f hu (Or.inl rfl)]
    have hrest : evl fa R l 0 1 s false false ↔ alt9 w fa (t + 1) (nts R) := by
      cases R with
      | nil => exact ⟨fun _ i hi => absurd hi (Nat.not_lt_zero i), fun _ => trivial⟩
      | cons y R' =>
        have hn : (y :: R') ≠ [] := List.cons_ne_nil _ _
        have q1 := hA 0 (p + 1) (t + 1) (p + 1) 0 0 0 l 0 s false w2 hn hm.2.2 (by decide) (Or.inr ⟨by decide, rfl, fun z => by omega⟩) rfl (fun z => by omega)
        have q2 := wf_nts _ _ w2 hn
        rw [q1, fin_t w2 hn hm.2.2, show nts (y :: R') = nts (y :: R') - 1 + 1 by omega, alt_s]
        rfl
    rw [hrest]
    cases hb : bgb u with
    | true => exact ⟨fun z => (Bool.noConfusion z.1), fun z => absurd z.1 (by rw [if_pos rfl]; exact fin_n)⟩
    | false =>
      rw [bcu_n hb, if_neg (by decide)]
      constructor
      · rintro ⟨_, z1, z2⟩
        exact ⟨⟨_, _, rfl, by rw [← hl2 w1, ← hsg w1]; exact z1⟩, z2⟩
      · rintro ⟨⟨f', s', z1, z2⟩, z3⟩
        have z4 : ((if q = 4 then s0 else f), u) = (f', s') := Option.some.inj z1
        obtain ⟨rfl, rfl⟩ := Prod.mk.inj z4
        exact ⟨rfl, by rw [hl2 w1, hsg w1]; exact z2, z3⟩
  · rw [if_neg j6, if_neg j6, if_neg j6]
    rw [if_neg j6] at hm
    by_cases j3 : 2003 ≤ j
    · rw [if_pos j3]
      rw [if_pos j3] at hm
      obtain ⟨w1, w2⟩ : c ≠ 2 ∧ wfE R 2 := by
        rcases hw with ⟨_, z, _⟩ | ⟨_, _, z1, z2⟩ | ⟨z, _⟩
        · omega
        · exact ⟨z1, z2⟩
        · omega
      have hn := wf_ne w2 (by decide)
      have hq3 : rjn w (p + 1) ≠ 3 := by
        cases R with
        | nil => exact absurd rfl hn
        | cons y R' => have z := hm.2.2.1; rw [z]; decide
      rw [trm_f hu (Or.inr hq3)]
      cases hb : bgb u with
      | true => exact ⟨fun z => absurd z (evl_be _ _ _ _ _ _ _ hn w2), fun z => absurd z.1 (by rw [if_pos rfl]; exact fin_n)⟩
      | false =>
        rw [bcu_n hb, if_neg (by decide)]
        exact hA 2 (p + 1) t b 4 _ u u 0 j false w2 hn hm.2 (by decide) (Or.inl ⟨rfl, rfl, rfl, rfl⟩) rfl (fun _ => by have := hm.1 j3; omega)
    · rw [if_neg j3]
      rw [if_neg j3] at hm
      have w2 : wfE R (if c = 2 then 2 else 1) := by
        rcases hw with ⟨_, _, z⟩ | ⟨z, _⟩ | ⟨z, _⟩
        · exact z
        · omega
        · omega
      have jr : 2000 ≤ j ∧ j ≤ 2001 := by
        rcases hw with ⟨z1, z2, _⟩ | ⟨z, _⟩ | ⟨z, _⟩ <;> omega
      have hn := wf_ne w2 (by split <;> omega)
      have hq3 : rjn w (p + 1) ≠ 3 := by
        cases R with
        | nil => exact absurd rfl hn
        | cons y R' => have z := hm.2.2.1; rw [z]; omega
      rw [trm_f hu (Or.inr hq3)]
      cases hb : bgb u with
      | true => exact ⟨fun z => absurd z (evl_be _ _ _ _ _ _ _ hn w2), fun z => absurd z.1 (by rw [if_pos rfl]; exact fin_n)⟩
      | false =>
        rw [bcu_n hb, if_neg (by decide)]
        have hq4 : q = 4 → c = 2 := fun z => by
          rcases hs with ⟨_, z2, _⟩ | ⟨z2, _⟩
          · exact z2
          · exact absurd z z2
        refine hA (if c = 2 then 2 else 1) (p + 1) t b (j - 1999) _ u l u s (decide (j = 2001)) w2 hn hm.2 (by omega) (Or.inr ⟨by omega, rfl, fun z => ?_⟩) ?_ (fun z => ?_)
        · refine hl2 ?_
          split at z
          · assumption
          · omega
        · rw [decide_eq_decide]
          constructor <;> intro z <;> omega
        · refine hsg ?_
          split at z
          · assumption
          · omega
theorem evl_AB (hfa : ∀ x : Int, 0 ≤ x → x < 1005 → bgb (evp fa x) = false) : ∀ L : List (Int × Int), A9 w fa L ∧ B9 w fa L := by
  intro L
  induction L with
  | nil => exact ⟨fun c p t b q f s0 l tt s mi _ h => absurd rfl h, fun c p t b q f s0 l tt s v mi _ h => absurd rfl h⟩
  | cons xj R ih =>
    obtain ⟨x, j⟩ := xj
    obtain ⟨ihA, ihB⟩ := ih
    constructor
    · intro c p t b q f s0 l tt s mi hw _ hm hq3 hs hmi hsg
      obtain ⟨hx, hw⟩ := hw
      obtain ⟨m1, m2, m3⟩ := hm
      have hv := hfa x hx.1 hx.2
      have ev := rvp_e (fa := fa) m1 hx
      unfold evl pln nts
      rw [Int.one_mul, hv, Bool.false_or, Bool.false_or, bcu_n hv]
      by_cases j2 : j = 2002
      · have w2 : wfE R (if c = 2 then 2 else 1) := by
          rcases hw with ⟨_, _, z⟩ | ⟨z, _⟩ | ⟨z, _⟩
          · exact z
          · omega
          · omega
        rw [if_pos j2, if_neg (show ¬ j = 2006 by omega), if_neg (show ¬ j = 2006 by omega)]
        rw [if_neg (show ¬ j = 2006 by omega), if_neg (show ¬ 2003 ≤ j by omega), show j - 1999 = 3 by omega] at m3
        have e : trO w fa (pln R + 1) p f s0 = trm w fa (pln R) (p + 1) q (evp fa x) f s0 := by
          show trm w fa (pln R) (p + 1) (rjn w p) (rvp w fa p) f s0 = _
          rw [m2, ev]
        rw [e]
        refine ihB _ (p + 1) t b q f s0 l tt s _ mi w2 (wf_ne w2 (by split <;> omega)) m3.2 ?_ hmi ?_
        · rcases hs with ⟨z1, z2, z3⟩ | ⟨z1, z2, z3⟩
          · exact Or.inl ⟨z1, by rw [if_pos z2], z3⟩
          · refine Or.inr ⟨z1, z2, fun z => z3 ?_⟩
            split at z
            · assumption
            · omega
        · intro z
          refine hsg ?_
          split at z
          · assumption
          · omega
      · rw [if_neg j2]
        have e : trO w fa (if j = 2006 then 1 else pln R + 1) p f s0 = trm w fa (if j = 2006 then 0 else pln R) (p + 1) q (evp fa x) f s0 := by
          by_cases j6 : j = 2006
          · rw [if_pos j6, if_pos j6]
            show trm w fa 0 (p + 1) (rjn w p) (rvp w fa p) f s0 = _
            rw [m2, ev]
          · rw [if_neg j6, if_neg j6]
            show trm w fa (pln R) (p + 1) (rjn w p) (rvp w fa p) f s0 = _
            rw [m2, ev]
        have en : (if j = 2006 then nts R + 1 else nts R) - 1 = if j = 2006 then nts R else nts R - 1 := by
          by_cases j6 : j = 2006
          · rw [if_pos j6, if_pos j6]; rfl
          · rw [if_neg j6, if_neg j6]
        rw [e, en]
        exact evl_C ihA j2 hw m3 hs hmi hsg
    · intro c p t b q f s0 l tt s v mi hw _ hm hs hmi hsg
      obtain ⟨hx, hw⟩ := hw
      obtain ⟨m1, m2, m3⟩ := hm
      have ev := rvp_e (fa := fa) m1 hx
      have e0 : trm w fa (pln ((x, j) :: R)) p q v f s0 = if bgb (v * evp fa x) then none else trm w fa (if j = 2006 then 0 else pln R) (p + 1) q (v * evp fa x) f s0 := by
        have e1 : pln ((x, j) :: R) = (if j = 2006 then 0 else pln R) + 1 := by
          show (if j = 2006 then 1 else pln R + 1) = _
          by_cases j6 : j = 2006
          · rw [if_pos j6, if_pos j6]
          · rw [if_neg j6, if_neg j6]
        rw [e1]
        generalize (if j = 2006 then 0 else pln R) = m
        have e2 : trm w fa (m + 1) p q v f s0 = if rjn w p = 3 then (if bgb (v * rvp w fa p) then none else trm w fa m (p + 1) q (v * rvp w fa p) f s0) else if bgb (if q = 2 then (if q = 4 then 0 else s0) - v else (if q = 4 then 0 else s0) + v) then none else trm w fa m (p + 1) (rjn w p) (rvp w fa p) (if q = 4 then s0 else f) (if q = 2 then (if q = 4 then 0 else s0) - v else (if q = 4 then 0 else s0) + v) := rfl
        rw [e2, if_pos m2, ev]
      rw [e0]
      unfold evl nts
      rw [Bool.false_or]
      cases hb : bgb (v * evp fa x) with
      | true =>
        rw [if_pos rfl]
        refine ⟨fun h => ?_, fun h => absurd h.1 fin_n⟩
        exfalso
        by_cases j2 : j = 2002
        · rw [if_pos j2] at h
          have w2 : wfE R (if c = 2 then 2 else 1) := by
            rcases hw with ⟨_, _, z⟩ | ⟨z, _⟩ | ⟨z, _⟩
            · exact z
            · omega
            · omega
          exact evl_be _ _ _ _ _ _ _ (wf_ne w2 (by split <;> omega)) w2 h
        · rw [if_neg j2] at h
          by_cases j6 : j = 2006
          · rw [if_pos j6, Bool.true_or] at h
            cases h.1
          · rw [if_neg j6] at h
            by_cases j3 : 2003 ≤ j
            · rw [if_pos j3, Bool.true_or] at h
              have w2 : wfE R 2 := by
                rcases hw with ⟨_, z, _⟩ | ⟨_, _, _, z⟩ | ⟨z, _⟩
                · omega
                · exact z
                · omega
              exact evl_be _ _ _ _ _ _ _ (wf_ne w2 (by decide)) w2 h
            · rw [if_neg j3, Bool.true_or] at h
              have w2 : wfE R (if c = 2 then 2 else 1) := by
                rcases hw with ⟨_, _, z⟩ | ⟨z, _⟩ | ⟨z, _⟩
                · exact z
                · omega
                · omega
              exact evl_be _ _ _ _ _ _ _ (wf_ne w2 (by split <;> omega)) w2 h
      | false =>
        rw [if_neg (show ¬ (false : Bool) = true from Bool.false_ne_true), bcu_n hb]
        by_cases j2 : j = 2002
        · have w2 : wfE R (if c = 2 then 2 else 1) := by
            rcases hw with ⟨_, _, z⟩ | ⟨z, _⟩ | ⟨z, _⟩
            · exact z
            · omega
            · omega
          rw [if_pos j2, if_neg (show ¬ j = 2006 by omega), if_neg (show ¬ j = 2006 by omega)]
          rw [if_neg (show ¬ j = 2006 by omega), if_neg (show ¬ 2003 ≤ j by omega), show j - 1999 = 3 by omega] at m3
          refine ihB _ (p + 1) t b q f s0 l tt s _ mi w2 (wf_ne w2 (by split <;> omega)) m3.2 ?_ hmi ?_
          · rcases hs with ⟨z1, z2, z3⟩ | ⟨z1, z2, z3⟩
            · exact Or.inl ⟨z1, by rw [if_pos z2], z3⟩
            · refine Or.inr ⟨z1, z2, fun z => z3 ?_⟩
              split at z
              · assumption
              · omega
          · intro z
            refine hsg ?_
            split at z
            · assumption
            · omega
        · rw [if_neg j2]
          have en : (if j = 2006 then nts R + 1 else nts R) - 1 = if j = 2006 then nts R else nts R - 1 := by
            by_cases j6 : j = 2006
            · rw [if_pos j6, if_pos j6]; rfl
            · rw [if_neg j6, if_neg j6]
          rw [en]
          exact evl_C ihA j2 hw m3 hs hmi hsg
/-- a line holds: all its tests do -/
theorem evl_line (hfa : ∀ x : Int, 0 ≤ x → x < 1005 → bgb (evp fa x) = false) {L : List (Int × Int)} {t p : Nat} {l s : Int} (hw : wfE L 0) (hm : mE w L t p p 0) : evl fa L l 0 1 s false false ↔ alt9 w fa t (nts L) := by
  cases L with
  | nil => exact ⟨fun _ i hi => absurd hi (Nat.not_lt_zero i), fun _ => trivial⟩
  | cons y R =>
    have hn : (y :: R) ≠ [] := List.cons_ne_nil _ _
    have q1 := (evl_AB (w := w) hfa (y :: R)).1 0 p t p 0 0 0 l 0 s false hw hn hm (by decide) (Or.inr ⟨by decide, rfl, fun z => by omega⟩) rfl (fun z => by omega)
    have q2 := wf_nts _ _ hw hn
    rw [q1, fin_t hw hn hm, show nts (y :: R) = nts (y :: R) - 1 + 1 by omega, alt_s]
    rfl
end EVL

/-! the code on the class's side: longs, tokens, the walk through a line -/
theorem ll_a {a b v : Int64} (e : v = a + b) (h : -9223372036854775808 ≤ a.toInt + b.toInt ∧ a.toInt + b.toInt ≤ 9223372036854775807) : v.toInt = a.toInt + b.toInt := by
  rw [e, Int64.toInt_add, Int.bmod_eq_of_le (by omega) (by omega)]
theorem ll_s {a b v : Int64} (e : v = a - b) (h : -9223372036854775808 ≤ a.toInt - b.toInt ∧ a.toInt - b.toInt ≤ 9223372036854775807) : v.toInt = a.toInt - b.toInt := by
  rw [e, Int64.toInt_sub, Int.bmod_eq_of_le (by omega) (by omega)]
theorem ab_mul {x y A B : Int} (hx : -A ≤ x ∧ x ≤ A) (hy : -B ≤ y ∧ y ≤ B) (hA : 0 ≤ A) : -(A * B) ≤ x * y ∧ x * y ≤ A * B := by
  have h1 : 0 ≤ (A - x) * (B + y) := Int.mul_nonneg (by omega) (by omega)
  have h2 : 0 ≤ (A + x) * (B - y) := Int.mul_nonneg (by omega) (by omega)
  have h3 : 0 ≤ (A - x) * (B - y) := Int.mul_nonneg (by omega) (by omega)
  have h4 : 0 ≤ (A + x) * (B + y) := Int.mul_nonneg (by omega) (by omega)
  rw [Int.sub_mul, Int.mul_add, Int.mul_add] at h1
  rw [Int.add_mul, Int.mul_sub, Int.mul_sub] at h2
  rw [Int.sub_mul, Int.mul_sub, Int.mul_sub] at h3
  rw [Int.add_mul, Int.mul_add, Int.mul_add] at h4
  generalize A * B = u at *
  generalize A * y = v at *
  generalize x * B = w at *
  generalize x * y = z at *
  omega
theorem ll_m {a v : Int64} {b : Int32} (e : v = a * b.toInt64) (h : -1000000000 ≤ a.toInt ∧ a.toInt ≤ 1000000000) : v.toInt = a.toInt * b.toInt ∧ -2147483648000000000 ≤ v.toInt ∧ v.toInt ≤ 2147483648000000000 := by
  have hb := btop b
  have h1 := ab_mul (x := a.toInt) (y := b.toInt) (A := 1000000000) (B := 2147483648) (by omega) (by omega) (by decide)
  have e1 : v.toInt = a.toInt * b.toInt := by
    rw [e, Int64.toInt_mul, Int32.toInt_toInt64, Int.bmod_eq_of_le (by omega) (by omega)]
  rw [e1]
  omega
theorem bcu_b (x : Int) : -1000000000 ≤ bcu x ∧ bcu x ≤ 1000000000 := by
  unfold bcu bgb
  by_cases h : x < -1000000000 ∨ 1000000000 < x
  · rw [if_pos (decide_eq_true h)]; omega
  · rw [if_neg (by rw [decide_eq_false h]; exact Bool.false_ne_true)]; omega
theorem bgb_t {x : Int} (h : x < -1000000000 ∨ 1000000000 < x) : bgb x = true ∧ bcu x = 0 := by
  have e : bgb x = true := decide_eq_true h
  exact ⟨e, by unfold bcu; rw [if_pos e]⟩
theorem bgb_f {x : Int} (h : ¬ (x < -1000000000 ∨ 1000000000 < x)) : bgb x = false ∧ bcu x = x := by
  have e : bgb x = false := decide_eq_false h
  exact ⟨e, by unfold bcu; rw [if_neg (by rw [e]; exact Bool.false_ne_true)]⟩
theorem bo_1 {x b b' : Int} (h : (bgb x = true ∧ b' = 1) ∨ (bgb x = false ∧ b' = b)) : decide (b' = 1) = (decide (b = 1) || bgb x) := by
  rcases h with ⟨h1, h2⟩ | ⟨h1, h2⟩
  · rw [h1, h2, Bool.or_true]; rfl
  · rw [h1, h2, Bool.or_false]
/-- a line's tokens from a on, up to e -/
def tkE (ts : Nat → Int32) : List (Int × Int) → Nat → Nat → Prop
  | [], a, e => e ≤ a
  | (x, j) :: R, a, e => a < e ∧ (ts a).toInt = x ∧ (a + 1 < e → (ts (a + 1)).toInt = j) ∧ (e ≤ a + 1 → j = 2006) ∧ tkE ts R (a + 2) e
def hlI (ts : Nat → Int32) (fa : Nat → Int) (e a0 a : Nat) (l t p s : Int) (mi be : Bool) : Prop := ∀ L0, tkE ts L0 a0 e → wfE L0 0 → ∃ R, tkE ts R a e ∧ (evl fa R l t p s mi be ↔ evl fa L0 0 0 1 2005 false false)
section HLI
variable {ts : Nat → Int32} {fa : Nat → Int} {e a0 a : Nat} {l t p s : Int} {mi be : Bool}
theorem hl_0 (h1 : a = a0) (h2 : l = 0) (h3 : t = 0) (h4 : p = 1) (h5 : s = 2005) (h6 : mi = false) (h7 : be = false) : hlI ts fa e a0 a l t p s mi be := by
  subst h1; subst h2; subst h3; subst h4; subst h5; subst h6; subst h7
  exact fun L0 h _ => ⟨L0, h, Iff.rfl⟩
/-- the token behind a part -/
def tkJ (ts : Nat → Int32) (e a : Nat) (j : Int) : Prop := (a + 1 < e ∧ (ts (a + 1)).toInt = j) ∨ (e ≤ a + 1 ∧ j = 2006)
theorem hl_c {R : List (Int × Int)} {j : Int} (h : tkE ts R a e) (ha : a < e) (hj : tkJ ts e a j) : ∃ R', R = ((ts a).toInt, j) :: R' ∧ tkE ts R' (a + 2) e := by
  cases R with
  | nil => exact absurd (show e ≤ a from h) (by omega)
  | cons y R' =>
    obtain ⟨x, j'⟩ := y
    obtain ⟨h1, h2, h3, h4, h5⟩ := h
    refine ⟨R', ?_, h5⟩
    rw [h2]
    rcases hj with ⟨q1, q2⟩ | ⟨q1, q2⟩
    · rw [← h3 q1, q2]
    · rw [h4 q1, q2]
theorem hl_T {x p' : Int} {a' : Nat} {be' : Bool} (ea : a' = a + 2) (H : hlI ts fa e a0 a l t p s mi be) (ha : a < e) (hj : tkJ ts e a 2002) (hx : evp fa (ts a).toInt = x) (hp : p' = bcu (p * x)) (hb : be' = (be || bgb (p * x))) : hlI ts fa e a0 a' l t p' s mi be' := by
  subst ea; intro L0 q1 q2
  obtain ⟨R, r1, r2⟩ := H L0 q1 q2
  obtain ⟨R', rfl, r3⟩ := hl_c r1 ha hj
  refine ⟨R', r3, ?_⟩
  rw [← r2, evl, if_pos rfl, hx, hp, hb]
theorem hl_J {x t' j p1 : Int} {a' : Nat} {be' mi' : Bool} (ea : a' = a + 2) (h1 : p1 = 1) (H : hlI ts fa e a0 a l t p s mi be) (ha : a < e) (hj : tkJ ts e a j) (j1 : j < 2002) (hx : evp fa (ts a).toInt = x) (ht : t' = bcu (if mi then t - bcu (p * x) else t + bcu (p * x))) (hm : mi' = decide (j = 2001)) (hb : be' = ((be || bgb (p * x)) || bgb (if mi then t - bcu (p * x) else t + bcu (p * x)))) : hlI ts fa e a0 a' l t' p1 s mi' be' := by
  subst ea; subst h1; intro L0 q1 q2
  obtain ⟨R, r1, r2⟩ := H L0 q1 q2
  obtain ⟨R', rfl, r3⟩ := hl_c r1 ha hj
  refine ⟨R', r3, ?_⟩
  rw [← r2, evl, if_neg (show ¬ j = 2002 by omega), if_neg (show ¬ j = 2006 by omega), if_neg (show ¬ 2003 ≤ j by omega), hx, ht, hb, hm]
theorem hl_S {x t' j j' t1 p1 : Int} {a' : Nat} {be' mi' : Bool} (ea : a' = a + 2) (h0 : t1 = 0) (h1 : p1 = 1) (hm : mi' = false) (ej : j' = j) (H : hlI ts fa e a0 a l t p s mi be) (ha : a < e) (hj : tkJ ts e a j) (j1 : 2003 ≤ j) (j2 : j ≠ 2006) (hx : evp fa (ts a).toInt = x) (ht : t' = bcu (if mi then t - bcu (p * x) else t + bcu (p * x))) (hb : be' = ((be || bgb (p * x)) || bgb (if mi then t - bcu (p * x) else t + bcu (p * x)))) : hlI ts fa e a0 a' t' t1 p1 j' mi' be' := by
  subst ea; subst h0; subst h1; subst hm; subst ej; intro L0 q1 q2
  obtain ⟨R, r1, r2⟩ := H L0 q1 q2
  obtain ⟨R', rfl, r3⟩ := hl_c r1 ha hj
  refine ⟨R', r3, ?_⟩
  rw [← r2, evl, if_neg (show ¬ j' = 2002 by omega), if_neg j2, if_pos j1, hx, ht, hb]
theorem hl_A {x t' t1 p1 : Int} {a' : Nat} {be' mi' : Bool} (ea : a' = a + 2) (h0 : t1 = 0) (h1 : p1 = 1) (hm : mi' = false) (H : hlI ts fa e a0 a l t p s mi be) (ha : a < e) (hj : tkJ ts e a 2006) (hx : evp fa (ts a).toInt = x) (ht : t' = bcu (if mi then t - bcu (p * x) else t + bcu (p * x))) (hb : be' = ((be || bgb (p * x)) || bgb (if mi then t - bcu (p * x) else t + bcu (p * x)))) (hf : be' = false) (hs : scp s l t') : hlI ts fa e a0 a' l t1 p1 s mi' be' := by
  subst ea; subst h0; subst h1; subst hm; rw [hf]; rw [hf] at hb; intro L0 q1 q2
  obtain ⟨R, r1, r2⟩ := H L0 q1 q2
  obtain ⟨R', rfl, r3⟩ := hl_c r1 ha hj
  refine ⟨R', r3, ?_⟩
  rw [← r2, evl, if_neg (show ¬ (2006 : Int) = 2002 by decide), if_pos rfl, hx, ← ht]
  exact ⟨fun z => ⟨hb.symm, hs, z⟩, fun z => z.2.2⟩
theorem hl_F {x t' : Int} {be' : Bool} {L0 : List (Int × Int)} (H : hlI ts fa e a0 a l t p s mi be) (ha : a < e) (hj : tkJ ts e a 2006) (hx : evp fa (ts a).toInt = x) (ht : t' = bcu (if mi then t - bcu (p * x) else t + bcu (p * x))) (hb : be' = ((be || bgb (p * x)) || bgb (if mi then t - bcu (p * x) else t + bcu (p * x)))) (hn : be' = true ∨ ¬ scp s l t') (q1 : tkE ts L0 a0 e) (q2 : wfE L0 0) : ¬ evl fa L0 0 0 1 2005 false false := by
  obtain ⟨R, r1, r2⟩ := H L0 q1 q2
  obtain ⟨R', rfl, r3⟩ := hl_c r1 ha hj
  rw [← r2, evl, if_neg (show ¬ (2006 : Int) = 2002 by decide), if_pos rfl, hx, ← ht]
  rintro ⟨z1, z2, _⟩
  rcases hn with h | h
  · rw [← hb, h] at z1; cases z1
  · exact h z2
theorem hl_E {L0 : List (Int × Int)} (H : hlI ts fa e a0 a l t p s mi be) (ha : e ≤ a) (q1 : tkE ts L0 a0 e) (q2 : wfE L0 0) : evl fa L0 0 0 1 2005 false false := by
  obtain ⟨R, r1, r2⟩ := H L0 q1 q2
  cases R with
  | nil => exact r2.mp trivial
  | cons y R' => exact absurd r1.1 (by omega)
theorem hx_p {tk r x : Int32} (e : tk = ts x.toNatClampNeg) (h0 : 0 ≤ x.toInt) (h : r.toInt = evp fa tk.toInt) : evp fa (ts x.toInt.toNat).toInt = r.toInt := by
  have h9 := cl_to (x := x) h0
  rw [h, e, show x.toNatClampNeg = x.toInt.toNat by omega]
theorem tj_1 {v i : Int32} {x y : Int} {j : Int} (e : v = ts i.toNatClampNeg) (q : i.toInt = x + 1) (h0 : 0 ≤ x) (h1 : x + 1 < y) (hj : v.toInt = j) : tkJ ts y.toNat x.toNat j := by
  have h9 := cl_to (x := i) (by omega)
  refine Or.inl ⟨by omega, ?_⟩
  rw [← hj, e, show i.toNatClampNeg = x.toNat + 1 by omega]
theorem tj_2 {x y : Int} (h0 : 0 ≤ x) (h1 : y ≤ x + 1) : tkJ ts y.toNat x.toNat 2006 := Or.inr ⟨by omega, rfl⟩
end HLI
theorem sm_1 {m t v sv q : Int} (h : (m = 1 ∧ sv = t - v) ∨ (m ≠ 1 ∧ sv = t + v)) (hv : v = bcu q) : sv = (if decide (m = 1) then t - bcu q else t + bcu q) := by
  rcases h with ⟨h1, h2⟩ | ⟨h1, h2⟩
  · rw [if_pos (decide_eq_true h1), h2, hv]
  · rw [if_neg (by rw [decide_eq_false h1]; exact Bool.false_ne_true), h2, hv]
theorem bo_2 {x y X Y b0 b1 b2 : Int} (h1 : (bgb x = true ∧ b1 = 1) ∨ (bgb x = false ∧ b1 = b0)) (h2 : (bgb y = true ∧ b2 = 1) ∨ (bgb y = false ∧ b2 = b1)) (ex : x = X) (ey : y = Y) : decide (b2 = 1) = ((decide (b0 = 1) || bgb X) || bgb Y) := by
  rw [← ex, ← ey, ← bo_1 h1, bo_1 h2]
theorem evp_a {fa : Nat → Int} {x : Int} (h : x < 1000) : x = evp fa x := by unfold evp; rw [if_pos h]
theorem evp_b {f : Nat → Int32} {v i : Int32} {x : Int} (h : 1000 ≤ x) (h2 : x < 1005) (e : v = f i.toNatClampNeg) (q : i.toInt = x - 1000) : v.toInt = evp (fun k => (f k).toInt) x := by
  have h9 := cl_to (x := i) (by omega)
  unfold evp
  rw [if_neg (by omega), if_pos (by omega), e, show i.toNatClampNeg = (x - 1000).toNat by omega]
theorem evp_c {fa : Nat → Int} {x z : Int} (h : 1005 ≤ x) (hz : z = 0) : z = evp fa x := by unfold evp; rw [if_neg (by omega), if_neg (by omega), hz]
theorem bd_0 {x : Int} (h : x < -1000000000 ∨ 1000000000 < x) : (0 : Int64).toInt = bcu x := by rw [(bgb_t h).2]; decide
theorem scp_y {s l r : Int} (h : (s = 2003 ∧ r < l) ∨ (s ≠ 2003 ∧ s = 2004 ∧ l < r) ∨ (s ≠ 2003 ∧ s ≠ 2004 ∧ l = r)) : scp s l r := by
  unfold scp
  rcases h with ⟨h1, h2⟩ | ⟨h1, h2, h3⟩ | ⟨h1, h2, h3⟩
  · rw [if_pos h1]; exact h2
  · rw [if_neg h1, if_pos h2]; exact h3
  · rw [if_neg h1, if_neg h2]; exact h3
theorem scp_n {s l r : Int} (h : (s = 2003 ∧ l ≤ r) ∨ (s ≠ 2003 ∧ s = 2004 ∧ r ≤ l) ∨ (s ≠ 2003 ∧ s ≠ 2004 ∧ l ≠ r)) : ¬ scp s l r := by
  unfold scp
  rcases h with ⟨h1, h2⟩ | ⟨h1, h2, h3⟩ | ⟨h1, h2, h3⟩
  · rw [if_pos h1]; omega
  · rw [if_neg h1, if_pos h2]; omega
  · rw [if_neg h1, if_neg h2]; exact h3

/-! lines of the code: which line holds first -/
abbrev LN := Int × Int × Int × List (Int × Int)
def fct (m t d y k : Int) : Nat → Int := fun i => if i = 0 then m else if i = 1 then t else if i = 2 then d else if i = 3 then y else k
def hlL (fa : Nat → Int) (L : List (Int × Int)) : Prop := evl fa L 0 0 1 2005 false false
noncomputable def lnr (p : Int) (fa : Nat → Int) : List LN → Int → Int
  | [], _ => -1
  | x :: R, i => @ite Int (x.1 = p ∧ hlL fa x.2.2.2) (Classical.propDecidable _) i (lnr p fa R (i + 1))
def okL (x : LN) : Prop := (0 ≤ x.1 ∧ x.1 ≤ 3) ∧ (0 ≤ x.2.1 ∧ x.2.1 ≤ 3) ∧ (0 ≤ x.2.2.1 ∧ x.2.2.1 ≤ 99) ∧ wfE x.2.2.2 0
/-- the class's rows, the reference's rows have the lines -/
def lnC (us : Int) (x : LN) (l : Nat) (pa kd wi st sp ts : Nat → Int32) : Prop := (pa l).toInt = x.1 ∧ (kd l).toInt = x.2.1 ∧ (wi l).toInt = x.2.2.1 ∧ (0 ≤ (sp l).toInt ∧ (sp l).toInt ≤ us) ∧ tkE ts x.2.2.2 (st l).toInt.toNat (sp l).toInt.toNat
def cdC (ln us : Int) (pa kd wi st sp ts : Nat → Int32) (C : List LN) : Prop := ln = (C.length : Int) ∧ ∀ (l : Nat) (x : LN), C[l]? = some x → okL x ∧ lnC us x l pa kd wi st sp ts
def lnM (x : LN) (l : Nat) (w : Nat → Int32) : Prop := (w (154 + 5 * l)).toInt = x.1 ∧ (w (155 + 5 * l)).toInt = x.2.1 ∧ (w (156 + 5 * l)).toInt = x.2.2.1 ∧ (w (158 + 5 * l)).toInt = (nts x.2.2.2 : Int) ∧ 0 ≤ (w (157 + 5 * l)).toInt ∧ (w (157 + 5 * l)).toInt + (nts x.2.2.2 : Int) ≤ (w 2).toInt ∧ ∃ p : Nat, (p : Int) + (x.2.2.2.length : Int) ≤ (w 3).toInt ∧ mE w x.2.2.2 (w (157 + 5 * l)).toInt.toNat p p 0
def cdM (w : Nat → Int32) (C : List LN) : Prop := (w 1).toInt = (C.length : Int) ∧ ∀ (l : Nat) (x : LN), C[l]? = some x → okL x ∧ lnM x l w
section LNS
variable {fa fb : Nat → Int} {C P R : List LN} {p i i' ln us : Int} {x : LN} {pa kd wi st sp ts w : Nat → Int32}
theorem evp_fc (h : ∀ k : Nat, k < 5 → fa k = fb k) (x : Int) : evp fa x = evp fb x := by
  unfold evp
  by_cases z : x < 1000
  · rw [if_pos z, if_pos z]
  · rw [if_neg z, if_neg z]
    by_cases y : x - 1000 < 5
    · rw [if_pos y, if_pos y, h _ (by omega)]
    · rw [if_neg y, if_neg y]
theorem evl_fc (h : ∀ k : Nat, k < 5 → fa k = fb k) : ∀ (L : List (Int × Int)) (l t p s : Int) (mi be : Bool), evl fa L l t p s mi be ↔ evl fb L l t p s mi be := by
  intro L
  induction L with
  | nil => intro l t p s mi be; exact Iff.rfl
  | cons xj R ih =>
    obtain ⟨x, j⟩ := xj
    intro l t p s mi be
    unfold evl
    rw [evp_fc h x]
    by_cases j2 : j = 2002
    · rw [if_pos j2, if_pos j2]; exact ih _ _ _ _ _ _
    · rw [if_neg j2, if_neg j2]
      by_cases j6 : j = 2006
      · rw [if_pos j6, if_pos j6]
        exact and_congr Iff.rfl (and_congr Iff.rfl (ih _ _ _ _ _ _))
      · rw [if_neg j6, if_neg j6]
        by_cases j3 : 2003 ≤ j
        · rw [if_pos j3, if_pos j3]; exact ih _ _ _ _ _ _
        · rw [if_neg j3, if_neg j3]; exact ih _ _ _ _ _ _
theorem lnr_y (h : x.1 = p) (h2 : hlL fa x.2.2.2) : lnr p fa (x :: R) i = i := @if_pos _ (Classical.propDecidable _) ⟨h, h2⟩ _ _ _
theorem lnr_n (h : x.1 ≠ p ∨ ¬ hlL fa x.2.2.2) : lnr p fa (x :: R) i = lnr p fa R (i + 1) := @if_neg _ (Classical.propDecidable _) (fun z => h.elim (fun q => q z.1) (fun q => q z.2)) _ _ _
theorem lnr_b : ∀ (C : List LN) (i : Int), 0 ≤ i → lnr p fa C i = -1 ∨ (i ≤ lnr p fa C i ∧ lnr p fa C i < i + (C.length : Int)) := by
  intro C
  induction C with
  | nil => intro i _; exact Or.inl rfl
  | cons x R ih =>
    intro i hi
    rw [List.length_cons]
    by_cases z : x.1 = p ∧ hlL fa x.2.2.2
    · rw [lnr_y z.1 z.2]; omega
    · rw [lnr_n (by by_cases q : x.1 = p; exact Or.inr (fun q2 => z ⟨q, q2⟩); exact Or.inl q)]
      have := ih (i + 1) (by omega)
      omega
/-- the walk over the lines -/
def lnI (p : Int) (fa : Nat → Int) (C : List LN) (i : Int) : Prop := ∃ P R : List LN, C = P ++ R ∧ (P.length : Int) = i ∧ lnr p fa C 0 = lnr p fa R i
theorem li_0 (hi : i = 0) : lnI p fa C i := ⟨[], C, rfl, by rw [hi]; rfl, by rw [hi]⟩
theorem li_q (R : lnI p fa C i) (hi : i < (C.length : Int)) : ∃ (P : List LN) (x : LN) (Q : List LN), C = P ++ x :: Q ∧ (P.length : Int) = i ∧ lnr p fa C 0 = lnr p fa (x :: Q) i ∧ C[i.toNat]? = some x := by
  obtain ⟨P, R, eC, hP, e⟩ := R
  cases R with
  | nil => rw [eC, List.append_nil] at hi; omega
  | cons x Q =>
    refine ⟨P, x, Q, eC, hP, e, ?_⟩
    rw [eC, List.getElem?_append_right (by omega), show i.toNat - P.length = 0 by omega]
    rfl
theorem li_n (R : lnI p fa C i) (hi : i < (C.length : Int)) (h : ∀ x, C[i.toNat]? = some x → x.1 ≠ p ∨ ¬ hlL fa x.2.2.2) (ei : i' = i + 1) : lnI p fa C i' := by
  obtain ⟨P, x, Q, eC, hP, e, h3⟩ := li_q R hi
  rw [lnr_n (h x h3)] at e
  rw [ei]
  exact ⟨P ++ [x], Q, by rw [eC, List.append_assoc]; rfl, by rw [List.length_append]; show ((P.length + 1 : Nat) : Int) = i + 1; omega, e⟩
theorem li_y (R : lnI p fa C i) (hi : i < (C.length : Int)) (h : ∀ x, C[i.toNat]? = some x → x.1 = p ∧ hlL fa x.2.2.2) : i = lnr p fa C 0 := by
  obtain ⟨P, x, Q, eC, hP, e, h3⟩ := li_q R hi
  rw [lnr_y (h x h3).1 (h x h3).2] at e
  exact e.symm
theorem li_e (R : lnI p fa C i) (hi : (C.length : Int) ≤ i) : -1 = lnr p fa C 0 := by
  obtain ⟨P, R, eC, hP, e⟩ := R
  have z : R = [] := by
    cases R with
    | nil => rfl
    | cons x Q => rw [eC, List.length_append, List.length_cons] at hi; omega
  rw [e, z]
  rfl
theorem fct_5 {f : Nat → Int32} {m t d y k : Int} (h0 : (f 0).toInt = m) (h1 : (f 1).toInt = t) (h2 : (f 2).toInt = d) (h3 : (f 3).toInt = y) (h4 : (f 4).toInt = k) : ∀ i : Nat, i < 5 → (fun q : Nat => (f q).toInt) i = fct m t d y k i := by
  intro i hi
  unfold fct
  rcases (show i = 0 ∨ i = 1 ∨ i = 2 ∨ i = 3 ∨ i = 4 by omega) with rfl | rfl | rfl | rfl | rfl
  · exact h0
  · exact h1
  · exact h2
  · exact h3
  · exact h4
/-- the class's: a line's tests hold, or not -/
theorem hc_y {f : Nat → Int32} {l : Nat} (H : cdC ln us pa kd wi st sp ts C) (h : ∀ L0, tkE ts L0 (st l).toInt.toNat (sp l).toInt.toNat → wfE L0 0 → evl (fun q : Nat => (f q).toInt) L0 0 0 1 2005 false false) (hf : ∀ k : Nat, k < 5 → (fun q : Nat => (f q).toInt) k = fb k) (hx : C[l]? = some x) : hlL fb x.2.2.2 := by
  obtain ⟨h1, h2⟩ := H.2 l x hx
  exact (evl_fc hf _ _ _ _ _ _ _).mp (h _ h2.2.2.2.2 h1.2.2.2)
theorem hc_n {f : Nat → Int32} {l : Nat} (H : cdC ln us pa kd wi st sp ts C) (h : ∀ L0, tkE ts L0 (st l).toInt.toNat (sp l).toInt.toNat → wfE L0 0 → ¬ evl (fun q : Nat => (f q).toInt) L0 0 0 1 2005 false false) (hf : ∀ k : Nat, k < 5 → (fun q : Nat => (f q).toInt) k = fb k) (hx : C[l]? = some x) : ¬ hlL fb x.2.2.2 := by
  obtain ⟨h1, h2⟩ := H.2 l x hx
  exact fun z => h _ h2.2.2.2.2 h1.2.2.2 ((evl_fc hf _ _ _ _ _ _ _).mpr z)
theorem pa_C {l : Nat} (H : cdC ln us pa kd wi st sp ts C) (hx : C[l]? = some x) : (pa l).toInt = x.1 := (H.2 l x hx).2.1
theorem li_4 {v0 v1 v2 v3 v4 : Int32} {f f1 f2 f3 f4 f5 : Nat → Int32} (h1 : upd f (0 : Int32).toNatClampNeg v0 = f1) (h2 : upd f1 (1 : Int32).toNatClampNeg v1 = f2) (h3 : upd f2 (2 : Int32).toNatClampNeg v2 = f3) (h4 : upd f3 (3 : Int32).toNatClampNeg v3 = f4) (h5 : upd f4 (4 : Int32).toNatClampNeg v4 = f5) : (f5 0).toInt = v0.toInt ∧ (f5 1).toInt = v1.toInt ∧ (f5 2).toInt = v2.toInt ∧ (f5 3).toInt = v3.toInt ∧ (f5 4).toInt = v4.toInt := by
  have c0 : (0 : Int32).toNatClampNeg = 0 := by decide
  have c1 : (1 : Int32).toNatClampNeg = 1 := by decide
  have c2 : (2 : Int32).toNatClampNeg = 2 := by decide
  have c3 : (3 : Int32).toNatClampNeg = 3 := by decide
  have c4 : (4 : Int32).toNatClampNeg = 4 := by decide
  rw [c0] at h1
  rw [c1] at h2
  rw [c2] at h3
  rw [c3] at h4
  rw [c4] at h5
  subst h1; subst h2; subst h3; subst h4; subst h5
  refine ⟨?_, ?_, ?_, ?_, ?_⟩
  · rw [upd_n (by decide), upd_n (by decide), upd_n (by decide), upd_n (by decide), upd_h rfl]
  · rw [upd_n (by decide), upd_n (by decide), upd_n (by decide), upd_h rfl]
  · rw [upd_n (by decide), upd_n (by decide), upd_h rfl]
  · rw [upd_n (by decide), upd_h rfl]
  · rw [upd_h rfl]
/-- the reference's tests -/
theorem hM_bg {m t d y k : Int} (hm : 0 ≤ m ∧ m ≤ 1000) (ht : 0 ≤ t ∧ t ≤ 1000) (hd : 0 ≤ d ∧ d ≤ 1000) (hy : 0 ≤ y ∧ y ≤ 1000) (hk : 0 ≤ k ∧ k ≤ 1000) (x : Int) (h0 : 0 ≤ x) (h1 : x < 1005) : bgb (evp (fct m t d y k) x) = false := by
  refine (bgb_f ?_).1
  unfold evp fct
  repeat' split
  all_goals omega
theorem hM_a {l : Nat} (H : cdM w C) (hx : C[l]? = some x) (hb : ∀ z : Int, 0 ≤ z → z < 1005 → bgb (evp fa z) = false) : hlL fa x.2.2.2 ↔ ∀ i : Nat, (i : Int) < (w (158 + 5 * l)).toInt → thd w fa ((w (157 + 5 * l)).toInt.toNat + i) := by
  obtain ⟨h1, h2⟩ := H.2 l x hx
  obtain ⟨q, _, hq⟩ := h2.2.2.2.2.2.2
  have e := evl_line (w := w) (l := 0) (s := 2005) hb h1.2.2.2 hq
  unfold hlL
  rw [e, h2.2.2.2.1]
  unfold alt9
  exact ⟨fun z i hi => z i (by omega), fun z i hi => z i (by omega)⟩
end LNS
/-! the reference's way through a test -/
section TST
variable {w : Nat → Int32} {fa : Nat → Int} {T : Option (Int × Int)} {k k' en f f' s u v v' q : Int} {a : Nat}
theorem ll_mm {a b v : Int64} (e : v = a * b) (h : -1000000000 ≤ a.toInt ∧ a.toInt ≤ 1000000000 ∨ (-2147483648 ≤ a.toInt ∧ a.toInt ≤ 2147483647)) (h2 : -2147483648 ≤ b.toInt ∧ b.toInt ≤ 2147483647) : v.toInt = a.toInt * b.toInt ∧ -4611686018427387904 ≤ v.toInt ∧ v.toInt ≤ 4611686018427387904 := by
  have h1 := ab_mul (x := a.toInt) (y := b.toInt) (A := 2147483648) (B := 2147483648) (by omega) (by omega) (by decide)
  have e1 : v.toInt = a.toInt * b.toInt := by
    rw [e, Int64.toInt_mul, Int.bmod_eq_of_le (by omega) (by omega)]
  rw [e1]
  omega
theorem rp_n {x kv : Int32} {k : Nat} (h5 : kv.toInt = 5) (hk : kv.toInt = (w (815 + 3 * k)).toInt) (hv : x.toInt = (w (816 + 3 * k)).toInt) : (x.toInt64).toInt = rvp w fa k := by
  unfold rvp
  rw [Int32.toInt_toInt64, if_pos (by omega), hv]
theorem rp_k {x kv : Int32} {g : Nat → Int32} {k : Nat} (h5 : kv.toInt ≠ 5) (hk : kv.toInt = (w (815 + 3 * k)).toInt) (e : x = g kv.toNatClampNeg) (h0 : 0 ≤ kv.toInt) : (x.toInt64).toInt = rvp w (fun q : Nat => (g q).toInt) k := by
  unfold rvp
  rw [Int32.toInt_toInt64, if_neg (by omega), e, show kv.toNatClampNeg = kv.toInt.toNat by have := cl_to h0; omega, hk]
theorem to_0 {kv ev cv : Int32} (hk : kv.toInt = (w (275 + 3 * a)).toInt) (he : ev.toInt = kv.toInt + cv.toInt) (hc : cv.toInt = (w (276 + 3 * a)).toInt) (hf : f = 0) (hs : s = 0) : trO w fa (ev.toInt - kv.toInt).toNat kv.toInt.toNat f s = trO w fa (w (276 + 3 * a)).toInt.toNat (w (275 + 3 * a)).toInt.toNat 0 0 := by
  rw [hf, hs, hk, show ev.toInt - (w (275 + 3 * a)).toInt = (w (276 + 3 * a)).toInt by omega]
theorem tm_0 (R : trO w fa (en - k).toNat k.toNat f s = T) (hk : 0 ≤ k) (he : k < en) (ej : q = (w (814 + 3 * k.toNat)).toInt) (et : v = rvp w fa k.toNat) (ek : k' = k + 1) : trm w fa (en - k').toNat k'.toNat q v f s = T := by
  rw [← R, ek, ej, et, show (en - k).toNat = (en - (k + 1)).toNat + 1 by omega, show (k + 1).toNat = k.toNat + 1 by omega]
  rfl
theorem trm_s {m c : Nat} : trm w fa (m + 1) c q v f s = if rjn w c = 3 then (if bgb (v * rvp w fa c) then none else trm w fa m (c + 1) q (v * rvp w fa c) f s) else if bgb (if q = 2 then (if q = 4 then 0 else s) - v else (if q = 4 then 0 else s) + v) then none else trm w fa m (c + 1) (rjn w c) (rvp w fa c) (if q = 4 then s else f) (if q = 2 then (if q = 4 then 0 else s) - v else (if q = 4 then 0 else s) + v) := rfl
theorem tm_t (R : trm w fa (en - k).toNat k.toNat q v f s = T) (hk : 0 ≤ k) (he : k < en) (h3 : (w (814 + 3 * k.toNat)).toInt = 3) (ev : v' = v * u) (eu : u = rvp w fa k.toNat) (hb : -1000000000 ≤ v' ∧ v' ≤ 1000000000) (ek : k' = k + 1) : trm w fa (en - k').toNat k'.toNat q v' f s = T := by
  rw [show (en - k).toNat = (en - k').toNat + 1 by omega, trm_s, if_pos (show rjn w k.toNat = 3 from h3), ← eu, ← ev, (bgb_f (by omega)).1, if_neg Bool.false_ne_true, show k.toNat + 1 = k'.toNat by omega] at R
  exact R
theorem tm_x (R : trm w fa (en - k).toNat k.toNat q v f s = T) (hk : 0 ≤ k) (he : k < en) (h3 : (w (814 + 3 * k.toNat)).toInt = 3) (ev : v' = v * u) (eu : u = rvp w fa k.toNat) (hb : v' < -1000000000 ∨ 1000000000 < v') : T = none := by
  rw [show (en - k).toNat = (en - (k + 1)).toNat + 1 by omega, trm_s, if_pos (show rjn w k.toNat = 3 from h3), ← eu, ← ev, (bgb_t hb).1, if_pos rfl] at R
  exact R.symm
theorem tm_e (R : trm w fa (en - k).toNat k.toNat q v f s = T) (hx : en ≤ k ∨ (w (814 + 3 * k.toNat)).toInt ≠ 3) (hu : (q = 2 ∧ u = s - v) ∨ (q = 4 ∧ u = v) ∨ (q ≠ 2 ∧ q ≠ 4 ∧ u = s + v)) (hf : (q = 4 ∧ f' = s) ∨ (q ≠ 4 ∧ f' = f)) (hb : -1000000000 ≤ u ∧ u ≤ 1000000000) : trO w fa (en - k).toNat k.toNat f' u = T := by
  have e : u = if q = 2 then (if q = 4 then 0 else s) - v else (if q = 4 then 0 else s) + v := by
    rcases hu with ⟨h1, h2⟩ | ⟨h1, h2⟩ | ⟨h1, h3, h2⟩
    · rw [if_pos h1, if_neg (show ¬ q = 4 by omega), h2]
    · rw [if_neg (show ¬ q = 2 by omega), if_pos h1, h2]; omega
    · rw [if_neg h1, if_neg h3, h2]
  have ef : f' = if q = 4 then s else f := by
    rcases hf with ⟨h1, h2⟩ | ⟨h1, h2⟩
    · rw [if_pos h1, h2]
    · rw [if_neg h1, h2]
  rw [trm_f e (by rcases hx with h | h; exact Or.inl (by omega); exact Or.inr h), (bgb_f (by omega)).1, if_neg Bool.false_ne_true, ← ef] at R
  exact R
theorem tm_y (R : trm w fa (en - k).toNat k.toNat q v f s = T) (hx : en ≤ k ∨ (w (814 + 3 * k.toNat)).toInt ≠ 3) (hu : (q = 2 ∧ u = s - v) ∨ (q = 4 ∧ u = v) ∨ (q ≠ 2 ∧ q ≠ 4 ∧ u = s + v)) (hb : u < -1000000000 ∨ 1000000000 < u) : T = none := by
  have e : u = if q = 2 then (if q = 4 then 0 else s) - v else (if q = 4 then 0 else s) + v := by
    rcases hu with ⟨h1, h2⟩ | ⟨h1, h2⟩ | ⟨h1, h3, h2⟩
    · rw [if_pos h1, if_neg (show ¬ q = 4 by omega), h2]
    · rw [if_neg (show ¬ q = 2 by omega), if_pos h1, h2]; omega
    · rw [if_neg h1, if_neg h3, h2]
  rw [trm_f e (by rcases hx with h | h; exact Or.inl (by omega); exact Or.inr h), (bgb_t hb).1, if_pos rfl] at R
  exact R.symm
theorem td_f (h : trO w fa (w (276 + 3 * a)).toInt.toNat (w (275 + 3 * a)).toInt.toNat 0 0 = none) : ¬ thd w fa a := by
  rintro ⟨x, y, e, _⟩
  rw [h] at e
  cases e
theorem td_e (R : trO w fa (en - k).toNat k.toNat f s = trO w fa (w (276 + 3 * a)).toInt.toNat (w (275 + 3 * a)).toInt.toNat 0 0) (hk : en ≤ k) : thd w fa a ↔ scp ((w (274 + 3 * a)).toInt + 2003) f s := by
  rw [show (en - k).toNat = 0 by omega] at R
  have e : trO w fa (w (276 + 3 * a)).toInt.toNat (w (275 + 3 * a)).toInt.toNat 0 0 = some (f, s) := R.symm
  unfold thd
  rw [e]
  constructor
  · rintro ⟨x, y, h, h2⟩
    have h3 : (f, s) = (x, y) := Option.some.inj h
    obtain ⟨rfl, rfl⟩ := Prod.mk.inj h3
    exact h2
  · exact fun h => ⟨f, s, rfl, h⟩
/-- the tests of a line, one behind the other -/
def alI (w : Nat → Int32) (fa : Nat → Int) (t0 n i z : Int) : Prop := (z = 1 ∧ ∀ j : Nat, (j : Int) < i → thd w fa (t0.toNat + j)) ∨ (z = 0 ∧ ∃ j : Nat, (j : Int) < n ∧ ¬ thd w fa (t0.toNat + j))
variable {t0 n i i' z z' : Int}
theorem al_0 (hi : i = 0) (hz : z = 1) : alI w fa t0 n i z := Or.inl ⟨hz, fun j hj => by omega⟩
theorem al_y (R : alI w fa t0 n i z) (hz : z = 1) (h : thd w fa (t0 + i).toNat) (h0 : 0 ≤ t0 ∧ 0 ≤ i) (ei : i' = i + 1) (ez : z' = 1) : alI w fa t0 n i' z' := by
  rcases R with ⟨_, h2⟩ | ⟨h1, _⟩
  · refine Or.inl ⟨ez, fun j hj => ?_⟩
    by_cases q : (j : Int) < i
    · exact h2 j q
    · rw [show t0.toNat + j = (t0 + i).toNat by omega]; exact h
  · omega
theorem al_n (h : ¬ thd w fa (t0 + i).toNat) (h0 : 0 ≤ t0 ∧ 0 ≤ i) (hi : i < n) (ez : z' = 0) : alI w fa t0 n i' z' := Or.inr ⟨ez, i.toNat, by omega, by rw [show t0.toNat + i.toNat = (t0 + i).toNat by omega]; exact h⟩
variable {C : List LN} {x : LN} {l : Nat} {m t d y kk : Int} {fb : Nat → Int}
theorem lM_y (R : alI w fb t0 n i z) (hz : z = 1) (hi : n ≤ i) (H : cdM w C) (hx : C[l]? = some x) (e1 : (w (157 + 5 * l)).toInt = t0) (e2 : (w (158 + 5 * l)).toInt = n) (hb : ∀ q : Int, 0 ≤ q → q < 1005 → bgb (evp (fct m t d y kk) q) = false) (hf : ∀ k : Nat, k < 5 → fb k = fct m t d y kk k) : hlL (fct m t d y kk) x.2.2.2 := by
  refine (evl_fc hf x.2.2.2 0 0 1 2005 false false).mp ?_
  refine (hM_a H hx (fun q h0 h1 => by rw [evp_fc hf q]; exact hb q h0 h1)).mpr ?_
  rw [e1, e2]
  intro j hj
  rcases R with ⟨_, h⟩ | ⟨h, _⟩
  · exact h j (by omega)
  · omega
theorem lM_n (R : alI w fb t0 n i z) (hz : z = 0) (H : cdM w C) (hx : C[l]? = some x) (e1 : (w (157 + 5 * l)).toInt = t0) (e2 : (w (158 + 5 * l)).toInt = n) (hb : ∀ q : Int, 0 ≤ q → q < 1005 → bgb (evp (fct m t d y kk) q) = false) (hf : ∀ k : Nat, k < 5 → fb k = fct m t d y kk k) : ¬ hlL (fct m t d y kk) x.2.2.2 := by
  intro h9
  have h := (hM_a H hx (fun q h0 h1 => by rw [evp_fc hf q]; exact hb q h0 h1)).mp ((evl_fc hf x.2.2.2 0 0 1 2005 false false).mpr h9)
  rw [e1, e2] at h
  rcases R with ⟨h1, _⟩ | ⟨_, j, h1, h2⟩
  · omega
  · exact h2 (h j h1)
end TST

theorem rk_b {w : Nat → Int32} {a : Int} (h : RBw w) (ha : 0 ≤ a ∧ a ≤ 15) : 0 ≤ (w (12 + 9 * a.toNat)).toInt ∧ (w (12 + 9 * a.toNat)).toInt ≤ 1000 := by
  have key : ∀ q : Nat, q < 16 → UBw (12 + 9 * q) = 9 ∧ LBw (12 + 9 * q) = 0 := by decide +kernel
  have h1 := h (12 + 9 * a.toNat)
  have h2 := key a.toNat (by omega)
  omega
