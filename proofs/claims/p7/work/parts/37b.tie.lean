/-! the data of both sides behind a call of the law -/
section TIE2
variable {g h w w' v v' : Nat → Int32} {A B P k1 k2 : Int} {c d : Nat}
theorem da_x (T : tgd g h) (hh : (h 0).toInt ≤ 16) (e1 : gda g A B P = k1) (e2 : gda h A B P = k2) (n : k1 ≠ k2) : False := n (e1.symm.trans ((gda_cg T hh).trans e2))
theorem me_x (T : tgd g h) (hh : (h 0).toInt ≤ 16) (e1 : gme g A B = k1) (e2 : gme h A B = k2) (n : k1 ≠ k2) : False := n (e1.symm.trans ((gme_c2 T hh).trans e2))
theorem kp_i (T : tgd g w) (H : cpE v' v w c 0) : tgd g (fun j => v' (c + j)) := fun j hj => by
  have h1 := H.1 j (by unfold sgd at hj; omega)
  rw [Nat.zero_add] at h1
  exact h1.trans (T j hj)
theorem kp_o (T : tgd g (fun j => v (d + j))) (H : cpE v' v w c 0) (q : d + 9080 ≤ c ∨ c + 9080 ≤ d) : tgd g (fun j => v' (d + j)) := fun j hj => by
  have h1 := H.2 (d + j) (by unfold sgd at hj; omega)
  exact h1.trans (T j hj)
theorem bk_i (T : tgd g (fun j => v (d + j))) (H : cpE w' w v 0 d) : tgd g w' := fun j hj => by
  have h1 := H.1 j (by unfold sgd at hj; omega)
  rw [Nat.zero_add] at h1
  exact h1.trans (T j hj)
theorem bs_i (T : tgd g w) (H : ∀ j : Nat, j < 9080 → w' j = w j) : tgd g w' := fun j hj => (H j (by unfold sgd at hj; omega)).trans (T j hj)
theorem gdn_c {nb nm : Nat → Int64} {z : Int} (N : NT nb nm c) (hz : z ≤ 60) : ∀ (m i : Nat) (g h : Nat → Int32), tgd g h → (h 0).toInt ≤ 16 → tgd (gdn nb z m i g) (gdn (fun q => nm (c + q)) z m i h) ∧ gdc nb z m i g = gdc (fun q => nm (c + q)) z m i h := by
  intro m
  induction m with
  | zero => exact fun i g h T _ => ⟨T, rfl⟩
  | succ m ih =>
    intro i g h T hh
    by_cases q : (i : Int) + 2 < z
    · have f1 : gdn nb z (m + 1) i g = gdn nb z m (i + 3) (gst g (nb i).toInt (nb (i + 1)).toInt (nb (i + 2)).toInt) := if_pos q
      have f2 : gdc nb z (m + 1) i g = gsn g (nb i).toInt (nb (i + 1)).toInt (nb (i + 2)).toInt + gdc nb z m (i + 3) (gst g (nb i).toInt (nb (i + 1)).toInt (nb (i + 2)).toInt) := if_pos q
      have f3 : gdn (fun q => nm (c + q)) z (m + 1) i h = gdn (fun q => nm (c + q)) z m (i + 3) (gst h (nm (c + i)).toInt (nm (c + (i + 1))).toInt (nm (c + (i + 2))).toInt) := if_pos q
      have f4 : gdc (fun q => nm (c + q)) z (m + 1) i h = gsn h (nm (c + i)).toInt (nm (c + (i + 1))).toInt (nm (c + (i + 2))).toInt + gdc (fun q => nm (c + q)) z m (i + 3) (gst h (nm (c + i)).toInt (nm (c + (i + 1))).toInt (nm (c + (i + 2))).toInt) := if_pos q
      have n0 := N i (by omega)
      have n1 := N (i + 1) (by omega)
      have n2 := N (i + 2) (by omega)
      obtain ⟨c1, c2⟩ := gst_c (A := (nm (c + i)).toInt) (B := (nm (c + (i + 1))).toInt) (P := (nm (c + (i + 2))).toInt) T hh
      obtain ⟨k1, k2⟩ := ih (i + 3) _ _ c1 (by rw [gst_0 hh]; exact hh)
      rw [f1, f2, f3, f4, n0, n1, n2]
      exact ⟨k1, by rw [c2, k2]⟩
    · have f1 : gdn nb z (m + 1) i g = g := if_neg q
      have f2 : gdc nb z (m + 1) i g = 0 := if_neg q
      have f3 : gdn (fun q => nm (c + q)) z (m + 1) i h = h := if_neg q
      have f4 : gdc (fun q => nm (c + q)) z (m + 1) i h = 0 := if_neg q
      rw [f1, f2, f3, f4]
      exact ⟨T, rfl⟩
end TIE2
theorem sdt_0 : sdt (upd (fun _ => 0) 5 3) 0 0 3 0 0 (fun _ => 0) (fun _ => 0) (fun _ => 0) (fun _ => 0) (fun _ => 0) (fun _ => 0) (fun _ => 0) (fun _ => 0) (fun _ => 0) (fun _ => 0) (fun _ => 0) (fun _ => 0) (fun _ => 0) (fun _ => 0) := by
  have z0 : Int32.toInt 0 = 0 := by decide
  exact ⟨⟨rfl, rfl, rfl, rfl, rfl⟩, ⟨fun h hh => by omega, fun h _ _ => ⟨rfl, upd_n (by omega)⟩⟩, fun h _ => (show upd (fun _ => 0) 5 3 (1864 + h) = (0 : Int32) from upd_n (by omega)).symm, fun i hi => by omega⟩
theorem nt_0 {c : Nat} : NT (fun _ => 0) (fun _ => 0) c := fun _ _ => rfl
