section AML
variable {f : Nat → Int32} {n b : Int}
theorem am_l {i : Nat} {l : Int} (e : qam f n b i = if qkd f n b = 1 ∧ qtqB f b (qnx f n b) (qsb i) 0 l = true then 0 else -1) (h : qam f n b i = 0) (hl : 3 ≤ l) : b + 3 ≤ qnx f n b := by
  rw [e] at h
  split at h
  · next q => have := (tqB_iff.mp q.2).1; omega
  · omega
theorem am_l6 (h : 0 ≤ qam f n b 6) : b + 3 ≤ qnx f n b := by
  rw [am_w6] at h
  by_cases h29 : qam f n b 29 = 0
  · exact am_l (am1_29) h29 (by decide)
  rw [if_neg h29] at h
  by_cases h30 : qam f n b 30 = 0
  · exact am_l (am1_30) h30 (by decide)
  rw [if_neg h30] at h
  by_cases h31 : qam f n b 31 = 0
  · exact am_l (am1_31) h31 (by decide)
  rw [if_neg h31] at h
  by_cases h32 : qam f n b 32 = 0
  · exact am_l (am1_32) h32 (by decide)
  rw [if_neg h32] at h
  by_cases h33 : qam f n b 33 = 0
  · exact am_l (am1_33) h33 (by decide)
  rw [if_neg h33] at h
  by_cases h34 : qam f n b 34 = 0
  · exact am_l (am1_34) h34 (by decide)
  rw [if_neg h34] at h
  by_cases h35 : qam f n b 35 = 0
  · exact am_l (am1_35) h35 (by decide)
  rw [if_neg h35] at h
  omega
end AML
