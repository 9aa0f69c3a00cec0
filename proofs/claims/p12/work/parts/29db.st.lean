theorem st_lo {f : Nat → Int32} {l : Nat} (h : RBw f) (hl : l < 24) : 0 ≤ (f (157 + 5 * l)).toInt := by
  have k : ∀ l : Nat, l < 24 → LBw (157 + 5 * l) = 0 := by decide
  have h9 := (h (157 + 5 * l)).1
  rw [k l hl] at h9
  exact h9
