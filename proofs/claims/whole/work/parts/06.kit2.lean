-- MY KIT, 2
theorem k_arrE {cI : ClassId} {N : Nat} {f f' : Nat → Value} (h : ∀ j, j < N → f j = f' j) : arrV cI N f = arrV cI N f' := by
  unfold arrV
  congr 1
  refine Array.ext (by simp) fun i h1 h2 => ?_
  simp only [Array.getElem_ofFn]
  exact h i (by simpa using h1)
theorem k_swap {D : va_G} {A : Nat → Prop} {ws : va_W} {H : Heap} {q0 a n : Nat} {cA : ClassId} {f f' : Nat → Int32} (hP : va_P D vwCl ws H) (hD : va_D A ws) (hq : ws[q0]? = some (a, .inl (cA, n, .inl f))) (hf : ∀ j, j < n → f j = f' j) : va_P D vwCl (ws.set q0 (a, .inl (cA, n, .inl f'))) H ∧ va_D A (ws.set q0 (a, .inl (cA, n, .inl f'))) := by
  refine ⟨fun k q hk => ?_, hD.set hq⟩
  by_cases h : k = q0
  · subst h
    have hl : k < ws.length := (List.getElem?_eq_some_iff.mp hq).1
    rw [List.getElem?_set_self hl] at hk
    cases hk
    have h1 : H[a]? = some (vp_cell cA (n, .inl f)) := hP k _ hq
    show H[a]? = some (vp_cell cA (n, .inl f'))
    rw [h1, vp_cell_i, vp_cell_i]
    exact congrArg some (k_arrE (fun j hj => by rw [hf j hj]))
  · rw [List.getElem?_set_ne (fun e => h e.symm)] at hk
    exact hP k q hk
theorem k_full {D : va_G} {A : Nat → Prop} {ws : va_W} {H : Heap} {q0 a n : Nat} {cA : ClassId} {f f' : Nat → Int32} (hP : va_P D vwCl ws H) (hD : va_D A ws) (hq : ws[q0]? = some (a, .inl (cA, n, .inl (va_cpy f f' 0 0 n)))) : va_P D vwCl (ws.set q0 (a, .inl (cA, n, .inl f))) H ∧ va_D A (ws.set q0 (a, .inl (cA, n, .inl f))) :=
  k_swap hP hD hq (fun j hj => by rw [pk_cpy_in (Nat.zero_le _) (by omega)]; congr 1; omega)
