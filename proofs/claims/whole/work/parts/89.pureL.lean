-- THE PURE PART, 21: texts, of both: shapes
noncomputable section
section TX
variable {ss : Nat} {sc : Nat → Int32}
theorem shp {sh k : Nat} {c d : Int32} (e : kCh sh k = c) (h : c = d ∨ (c = 100 ∧ d = 57)) (x : Int32) : f_X6_fits x (kCh sh k) = f_X6_fits x d := by
  rw [e]
  rcases h with rfl | ⟨rfl, rfl⟩
  · rfl
  · exact fits_d x
theorem fe_n (b : Nat) : feIn ss sc 5 6 0 b = fIn ss sc [115, 48, 57, 115, 57, 57] b := feIn_eq [115, 48, 57, 115, 57, 57] 0 b (fun i c hi x => by
  have hl := (List.getElem?_eq_some_iff.mp hi).1
  have hl2 : i < 6 := hl
  rcases (show i = 0 ∨ i = 1 ∨ i = 2 ∨ i = 3 ∨ i = 4 ∨ i = 5 by omega) with rfl | rfl | rfl | rfl | rfl | rfl
  · obtain rfl : 115 = c := Option.some.inj hi; exact shp (c := 115) (by decide) (Or.inl rfl) x
  · obtain rfl : 48 = c := Option.some.inj hi; exact shp (c := 48) (by decide) (Or.inl rfl) x
  · obtain rfl : 57 = c := Option.some.inj hi; exact shp (c := 100) (by decide) (Or.inr ⟨rfl, rfl⟩) x
  · obtain rfl : 115 = c := Option.some.inj hi; exact shp (c := 115) (by decide) (Or.inl rfl) x
  · obtain rfl : 57 = c := Option.some.inj hi; exact shp (c := 100) (by decide) (Or.inr ⟨rfl, rfl⟩) x
  · obtain rfl : 57 = c := Option.some.inj hi; exact shp (c := 100) (by decide) (Or.inr ⟨rfl, rfl⟩) x)
theorem fe_k (b : Nat) : feIn ss sc 8 3 0 b = fIn ss sc [115, 57, 57] b := feIn_eq [115, 57, 57] 0 b (fun i c hi x => by
  have hl := (List.getElem?_eq_some_iff.mp hi).1
  have hl2 : i < 3 := hl
  rcases (show i = 0 ∨ i = 1 ∨ i = 2 by omega) with rfl | rfl | rfl
  · obtain rfl : 115 = c := Option.some.inj hi; exact shp (c := 115) (by decide) (Or.inl rfl) x
  · obtain rfl : 57 = c := Option.some.inj hi; exact shp (c := 100) (by decide) (Or.inr ⟨rfl, rfl⟩) x
  · obtain rfl : 57 = c := Option.some.inj hi; exact shp (c := 100) (by decide) (Or.inr ⟨rfl, rfl⟩) x)
theorem fe_x (b : Nat) : feIn ss sc 9 1 0 b = fIn ss sc [57] b := feIn_eq [57] 0 b (fun i c hi x => by
  have hl := (List.getElem?_eq_some_iff.mp hi).1
  have hl2 : i < 1 := hl
  obtain rfl : i = 0 := by omega
  obtain rfl : 57 = c := Option.some.inj hi
  exact shp (c := 100) (by decide) (Or.inr ⟨rfl, rfl⟩) x)
end TX
end
