/-! cells whose contents are said by another function that agrees below the length -/
theorem z_arrI (cA : ClassId) (n : Nat) {f g : Nat → Nat} (h : ∀ j, j < n → f j = g j) : vp_cell cA (n, .inl (fun j => nI (f j))) = vp_cell cA (n, .inl (fun j => nI (g j))) := by
  rw [vp_cell_i, vp_cell_i]
  unfold arrV
  congr 1
  apply Array.ext
  · simp
  · intro i h1 h2
    have hi : i < n := by simpa using h1
    simp [h i hi]
theorem z_arrL (cA : ClassId) (n : Nat) {f g : Nat → Nat} (h : ∀ j, j < n → f j = g j) : vp_cell cA (n, .inr (.inl (fun j => lN (f j)))) = vp_cell cA (n, .inr (.inl (fun j => lN (g j)))) := by
  rw [vp_cell_l, vp_cell_l]
  unfold arrV
  congr 1
  apply Array.ext
  · simp
  · intro i h1 h2
    have hi : i < n := by simpa using h1
    simp [h i hi]
theorem z_sw {D : va_G} {cl : List vw_C} {ws : va_W} {H : Heap} {k a : Nat} {e e' : va_E} (hP : va_P D cl ws H) (he : ws[k]? = some (a, e)) (h : va_at D cl (a, e) H → va_at D cl (a, e') H) : va_P D cl (ws.set k (a, e')) H := by
  have hl := (List.getElem?_eq_some_iff.mp he).1
  intro i q hi
  by_cases hik : i = k
  · subst hik
    rw [List.getElem?_set_self hl] at hi
    cases hi
    exact h (hP _ _ he)
  · rw [List.getElem?_set_ne (Ne.symm hik)] at hi
    exact hP i q hi
theorem z_fI {D : va_G} {cl : List vw_C} {ws : va_W} {H : Heap} {k a n : Nat} {cA : ClassId} {f : Nat → Nat} (g : Nat → Nat) (hP : va_P D cl ws H) (he : ws[k]? = some (a, .inl (cA, n, .inl (fun j => nI (f j))))) (h : ∀ j, j < n → f j = g j) : va_P D cl (ws.set k (a, .inl (cA, n, .inl (fun j => nI (g j))))) H :=
  z_sw hP he (fun x => by
    show H[a]? = some (vp_cell cA (n, .inl (fun j => nI (g j))))
    rw [← z_arrI cA n h]
    exact x)
theorem z_fL {D : va_G} {cl : List vw_C} {ws : va_W} {H : Heap} {k a n : Nat} {cA : ClassId} {f : Nat → Nat} (g : Nat → Nat) (hP : va_P D cl ws H) (he : ws[k]? = some (a, .inl (cA, n, .inr (.inl (fun j => lN (f j)))))) (h : ∀ j, j < n → f j = g j) : va_P D cl (ws.set k (a, .inl (cA, n, .inr (.inl (fun j => lN (g j)))))) H :=
  z_sw hP he (fun x => by
    show H[a]? = some (vp_cell cA (n, .inr (.inl (fun j => lN (g j)))))
    rw [← z_arrL cA n h]
    exact x)
theorem up_at (f : Nat → Nat) (k v : Nat) : va_up f k v k = v := if_pos rfl
theorem up_ne (f : Nat → Nat) {k j : Nat} (v : Nat) (h : j ≠ k) : va_up f k v j = f j := if_neg h
theorem up_lt {f : Nat → Nat} {k v M : Nat} (hf : ∀ j, f j < M) (hv : v < M) : ∀ j, va_up f k v j < M := fun j => by
  unfold va_up
  split
  · exact hv
  · exact hf j
