/-- what a sum that was read has left -/
def smR (f : Nat → Int32) (n : Int) (s s' : Int × Int × Int) (w : Nat → Int32) (p p' a : Int) : Prop := ∃ (R : List (Int × Int)) (x : Int), (∀ c : Bool, lT f n c s = R ++ l_tp f n (lT f n) x c s') ∧ smM w R x p.toNat a ∧ p + (R.length : Int) + 1 = p'
theorem smR_i {f : Nat → Int32} {n : Int} {s s' : Int × Int × Int} {w : Nat → Int32} {p p' a : Int} (R : List (Int × Int)) (x : Int) (h1 : ∀ c : Bool, lT f n c s = R ++ l_tp f n (lT f n) x c s') (h2 : smM w R x p.toNat a) (h3 : p + (R.length : Int) + 1 = p') : smR f n s s' w p p' a := ⟨R, x, h1, h2, h3⟩
