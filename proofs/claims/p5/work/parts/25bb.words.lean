/-! the first word of a line, by the reference's single words -/
section WZ
variable {f : Nat → Int32} {n b : Int}
theorem am_z {i : Nat} (h0 : (0 : Int) < (lenS.getD i 0 : Int)) (hr : qrun qcW (qsb i) (lenS.getD i 0 : Int) 0 = 0 + (lenS.getD i 0 : Int)) (h : 0 ≤ qam f n b i) : qam f n b i = 0 := by
  rcases am_01 (f := f) (n := n) (b := b) i h0 hr with q | q
  · exact q
  · omega
theorem w0_h (h : 0 ≤ qam f n b 17) : qam f n b 0 = 0 := by
  rw [am_w0, if_pos (am_z (i := 17) (by decide) (by decide +kernel) h)]
theorem w0_k (h17 : qam f n b 17 < 0) (h : 0 ≤ qam f n b 18) : qam f n b 0 = 1 := by
  rw [am_w0, if_neg (show ¬ qam f n b 17 = 0 by omega), if_pos (am_z (i := 18) (by decide) (by decide +kernel) h)]
theorem w0_n (h17 : qam f n b 17 < 0) (h18 : qam f n b 18 < 0) (h : 0 ≤ qam f n b 19) : qam f n b 0 = 2 := by
  rw [am_w0, if_neg (show ¬ qam f n b 17 = 0 by omega), if_neg (show ¬ qam f n b 18 = 0 by omega), if_pos (am_z (i := 19) (by decide) (by decide +kernel) h)]
theorem w0_i (h17 : qam f n b 17 < 0) (h18 : qam f n b 18 < 0) (h19 : qam f n b 19 < 0) (h : 0 ≤ qam f n b 20) : qam f n b 0 = 3 := by
  rw [am_w0, if_neg (show ¬ qam f n b 17 = 0 by omega), if_neg (show ¬ qam f n b 18 = 0 by omega), if_neg (show ¬ qam f n b 19 = 0 by omega), if_pos (am_z (i := 20) (by decide) (by decide +kernel) h)]
theorem w0_no (h17 : qam f n b 17 < 0) (h18 : qam f n b 18 < 0) (h19 : qam f n b 19 < 0) (h20 : qam f n b 20 < 0) (h2 : qam f n b 2 < 0) : qam f n b 0 < 0 := by
  have h4 : ¬ 4 ≤ qam f n b 0 := fun q => by have := am_pay.mpr q; omega
  rw [am_w0, if_neg (show ¬ qam f n b 17 = 0 by omega), if_neg (show ¬ qam f n b 18 = 0 by omega), if_neg (show ¬ qam f n b 19 = 0 by omega), if_neg (show ¬ qam f n b 20 = 0 by omega)] at h4 ⊢
  omega
theorem w0_3 (h17 : qam f n b 17 < 0) (h18 : qam f n b 18 < 0) (h19 : qam f n b 19 < 0) (h2 : qam f n b 2 < 0) (h : 0 ≤ qam f n b 0) : qam f n b 0 = 3 := by
  rcases am_01 (f := f) (n := n) (b := b) 20 (by decide) (by decide +kernel) with q | q
  · exact w0_i h17 h18 h19 (by omega)
  · have := w0_no h17 h18 h19 (show qam f n b 20 < 0 by omega) h2
    omega
theorem w0_0 (h : qam f n b 0 = 0) : qam f n b 17 = 0 := by
  rcases am_01 (f := f) (n := n) (b := b) 17 (by decide) (by decide +kernel) with q | q
  · exact q
  · exfalso
    have h4 : ¬ 0 ≤ qam f n b 2 := fun q2 => by have := am_pay.mp q2; omega
    rcases am_01 (f := f) (n := n) (b := b) 18 (by decide) (by decide +kernel) with q1 | q1
    · have := w0_k (show qam f n b 17 < 0 by omega) (show 0 ≤ qam f n b 18 by omega)
      omega
    · rcases am_01 (f := f) (n := n) (b := b) 19 (by decide) (by decide +kernel) with q2 | q2
      · have := w0_n (show qam f n b 17 < 0 by omega) (show qam f n b 18 < 0 by omega) (show 0 ≤ qam f n b 19 by omega)
        omega
      · have := w0_3 (show qam f n b 17 < 0 by omega) (show qam f n b 18 < 0 by omega) (show qam f n b 19 < 0 by omega) (show qam f n b 2 < 0 by omega) (by omega)
        omega
end WZ
