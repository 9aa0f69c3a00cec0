theorem or_bit {v x y : Int32} (e : v = x ||| y) (hx : 0 ≤ x.toInt) (hy : 0 ≤ y.toInt) (j : Nat) : v.toInt.toNat.testBit j = true ↔ x.toInt.toNat.testBit j = true ∨ y.toInt.toNat.testBit j = true := by
  rw [or_nat e hx hy, Nat.testBit_or, Bool.or_eq_true]
theorem shl_bit {v k : Int32} (e : v = (1 : Int32) <<< (k &&& 31)) (hk : 0 ≤ k.toInt ∧ k.toInt ≤ 30) (j : Nat) : v.toInt.toNat.testBit j = true ↔ j = k.toInt.toNat := by
  rw [(shl_nat e hk).1, Nat.testBit_two_pow, decide_eq_true_iff]
  exact ⟨fun h => h.symm, fun h => h.symm⟩
