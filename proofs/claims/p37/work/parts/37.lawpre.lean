def im1 (y : Nat → ClassId) (o : Option Nat) (t : va_W) : Prop := (o = none ∧ t = []) ∨ ∃ q, o = some q ∧ SI y q t
def IM (y : Nat → ClassId) (f : Nat → Option Nat) (tl : va_W) : Prop := ∃ t0 t1 t2, tl = t0 ++ (t1 ++ t2) ∧ im1 y (f 0) t0 ∧ im1 y (f 1) t1 ∧ im1 y (f 2) t2
def n1 : Option Nat → Nat
  | none => 1
  | some _ => 0
def nn (f : Nat → Option Nat) : Nat := n1 (f 0) + (n1 (f 1) + n1 (f 2))
def sR (fl wi sz : Int32) (mn wd : Int) : Prop := (fl.toInt = 0 ∧ mn = -1) ∨ (fl.toInt = 1 ∧ sz.toInt = mn ∧ 0 ≤ mn ∧ wi.toInt = wd)
def iR (o : Option Nat) (h : Int) : Prop := (o = none ∧ h = 0) ∨ (o ≠ none ∧ h ≠ 0)
def Rel (ts fl0 wi0 sz0 fl1 wi1 sz1 fl2 wi2 sz2 fl3 wi3 sz3 : Int32) (f : Nat → Option Nat) (ta : Int32) (fm fw fh : Nat → Int32) : Prop := ts.toInt = ta.toInt ∧ sR fl0 wi0 sz0 (fm 0).toInt (fw 0).toInt ∧ sR fl1 wi1 sz1 (fm 1).toInt (fw 1).toInt ∧ sR fl2 wi2 sz2 (fm 2).toInt (fw 2).toInt ∧ sR fl3 wi3 sz3 (fm 3).toInt (fw 3).toInt ∧ iR (f 0) (fh 0).toInt ∧ iR (f 1) (fh 1).toInt ∧ iR (f 2) (fh 2).toInt
def LI (s : State) (b : Nat) (A : Nat → Prop) (G : va_G) (y : Nat → ClassId) (x q : Nat) (i : Int32) (H : Heap) (locs : List Loc) (ls : Array Slot) (cells slots : Nat) : Prop := ∃ (w wm tl : va_W) (ts fl0 wi0 sz0 fl1 wi1 sz1 fl2 wi2 sz2 fl3 wi3 sz3 : Int32) (f : Nat → Option Nat) (ta : Int32) (fm fw fh : Nat → Int32), BC y x ts fl0 wi0 sz0 fl1 wi1 sz1 fl2 wi2 sz2 fl3 wi3 sz3 f w ∧ BM y q ta fm fw fh wm ∧ IM y f tl ∧ Rel ts fl0 wi0 sz0 fl1 wi1 sz1 fl2 wi2 sz2 fl3 wi3 sz3 f ta fm fw fh ∧ va_P G vwCl (w ++ (wm ++ tl)) H ∧ va_D A (w ++ (wm ++ tl)) ∧ va_S A s.heap H locs ∧ lv_has ls 4 [(3, .int i), (2, .ref q), (1, .ref x), (0, .ref b)] ∧ cells + 34 * nn f ≤ 600000 ∧ slots + 6716 * nn f ≤ 7302250
theorem upE {f : Nat → Option Nat} {k : Nat} {o : Option Nat} (h : f k = o) : va_up f k o = f := by
  funext j
  unfold va_up
  split
  · next e => rw [e]; exact h.symm
  · rfl
theorem up2 (f : Nat → Option Nat) (k : Nat) (a o : Option Nat) : va_up (va_up f k a) k o = va_up f k o := by
  funext j
  unfold va_up
  split <;> rfl
theorem sl_in {v i : Int32} {L : Nat} {k : Int32} {c : Int} (e : v = i + k) (hk : k.toInt = c) (hc : 0 ≤ c ∧ c ≤ 5) (hi : 0 ≤ i.toInt ∧ i.toInt + 6 ≤ (L : Int)) (hL : L ≤ 3072) : vp_in v L := by
  have q : v.toInt = i.toInt + k.toInt := ba_add (l1 := 0) (h1 := 3066) (l2 := 0) (h2 := 5) e ⟨by omega, by omega⟩ ⟨by omega, by omega⟩ (by decide)
  exact vi_n (by omega) (by omega)
theorem im_c5 (x : Int32) : x = 0 ∨ x = 1 ∨ x = 2 ∨ (-2147483648 ≤ x.toInt ∧ x.toInt ≤ -1) ∨ (3 ≤ x.toInt ∧ x.toInt ≤ 2147483647) := by
  have h := btop x
  rcases (show x.toInt = 0 ∨ x.toInt = 1 ∨ x.toInt = 2 ∨ (-2147483648 ≤ x.toInt ∧ x.toInt ≤ -1) ∨ (3 ≤ x.toInt ∧ x.toInt ≤ 2147483647) by omega) with h | h | h | h | h
  · exact Or.inl (Int32.toInt_inj.mp h)
  · exact Or.inr (Or.inl (Int32.toInt_inj.mp h))
  · exact Or.inr (Or.inr (Or.inl (Int32.toInt_inj.mp h)))
  · exact Or.inr (Or.inr (Or.inr (Or.inl h)))
  · exact Or.inr (Or.inr (Or.inr (Or.inr h)))
theorem so_cases (x : Int32) : x = 0 ∨ x = 1 ∨ x = 2 ∨ x = 3 ∨ (-2147483648 ≤ x.toInt ∧ x.toInt ≤ -1) ∨ (4 ≤ x.toInt ∧ x.toInt ≤ 2147483647) := by
  have h := btop x
  rcases (show x.toInt = 0 ∨ x.toInt = 1 ∨ x.toInt = 2 ∨ x.toInt = 3 ∨ (-2147483648 ≤ x.toInt ∧ x.toInt ≤ -1) ∨ (4 ≤ x.toInt ∧ x.toInt ≤ 2147483647) by omega) with h | h | h | h | h | h
  · exact Or.inl (Int32.toInt_inj.mp h)
  · exact Or.inr (Or.inl (Int32.toInt_inj.mp h))
  · exact Or.inr (Or.inr (Or.inl (Int32.toInt_inj.mp h)))
  · exact Or.inr (Or.inr (Or.inr (Or.inl (Int32.toInt_inj.mp h))))
  · exact Or.inr (Or.inr (Or.inr (Or.inr (Or.inl h))))
  · exact Or.inr (Or.inr (Or.inr (Or.inr (Or.inr h))))
theorem pk_to {w wm tl t u : va_W} (h : tl.Perm (t ++ u)) : (w ++ (wm ++ tl)).Perm ((w ++ t) ++ (wm ++ u)) := by
  rw [List.append_assoc]
  exact List.Perm.append_left w ((List.Perm.append_left wm h).trans (List.perm_append_comm_assoc wm t u))
theorem p_0 (a b c : va_W) : (a ++ (b ++ c)).Perm (a ++ (b ++ c)) := List.Perm.refl _
theorem p_1 (a b c : va_W) : (a ++ (b ++ c)).Perm (b ++ (a ++ c)) := List.perm_append_comm_assoc a b c
theorem p_2 (a b c : va_W) : (a ++ (b ++ c)).Perm (c ++ (a ++ b)) := (List.Perm.append_left a List.perm_append_comm).trans (List.perm_append_comm_assoc a c b)
