def lk {α : Type} (d : α) : List α → Nat → α
  | [], _ => d
  | a :: _, 0 => a
  | _ :: r, n + 1 => lk d r n
theorem P_td {D : va_G} {cl : List vw_C} {Y pl : va_W} {H : Heap} (n : Nat) (h : va_P D cl (Y ++ pl) H) : va_P D cl ((Y.take n ++ Y.drop n) ++ pl) H := by
  rw [List.take_append_drop]
  exact h
theorem D_td {A : Nat → Prop} {Y pl : va_W} (n : Nat) (h : va_D A (Y ++ pl)) : va_D A ((Y.take n ++ Y.drop n) ++ pl) := by
  rw [List.take_append_drop]
  exact h
