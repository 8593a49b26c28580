-- THE PURE PART, 22: texts, of both: shapes, 2; a command of both
noncomputable section
section TX
variable {ss : Nat} {sc : Nat → Int32} {v : KPV} {rw : Nat → Int32}
theorem fe_s (b : Nat) : feIn ss sc 6 5 0 b = fIn ss sc [57, 57, 115, 57, 57] b := feIn_eq [57, 57, 115, 57, 57] 0 b (fun i c hi x => by
  have hl := (List.getElem?_eq_some_iff.mp hi).1
  have hl2 : i < 5 := hl
  rcases (show i = 0 ∨ i = 1 ∨ i = 2 ∨ i = 3 ∨ i = 4 by omega) with rfl | rfl | rfl | rfl | rfl
  · obtain rfl : 57 = c := Option.some.inj hi; exact shp (c := 100) (by decide) (Or.inr ⟨rfl, rfl⟩) x
  · obtain rfl : 57 = c := Option.some.inj hi; exact shp (c := 100) (by decide) (Or.inr ⟨rfl, rfl⟩) x
  · obtain rfl : 115 = c := Option.some.inj hi; exact shp (c := 115) (by decide) (Or.inl rfl) x
  · obtain rfl : 57 = c := Option.some.inj hi; exact shp (c := 100) (by decide) (Or.inr ⟨rfl, rfl⟩) x
  · obtain rfl : 57 = c := Option.some.inj hi; exact shp (c := 100) (by decide) (Or.inr ⟨rfl, rfl⟩) x)
theorem fe_o (b : Nat) : feIn ss sc 7 13 0 b = fIn ss sc [57, 115, 57, 57, 115, 57, 57, 115, 57, 57, 115, 57, 57] b := feIn_eq [57, 115, 57, 57, 115, 57, 57, 115, 57, 57, 115, 57, 57] 0 b (fun i c hi x => by
  have hl := (List.getElem?_eq_some_iff.mp hi).1
  have hl2 : i < 13 := hl
  rcases (show i = 0 ∨ i = 1 ∨ i = 2 ∨ i = 3 ∨ i = 4 ∨ i = 5 ∨ i = 6 ∨ i = 7 ∨ i = 8 ∨ i = 9 ∨ i = 10 ∨ i = 11 ∨ i = 12 by omega) with rfl | rfl | rfl | rfl | rfl | rfl | rfl | rfl | rfl | rfl | rfl | rfl | rfl
  · obtain rfl : 57 = c := Option.some.inj hi; exact shp (c := 100) (by decide) (Or.inr ⟨rfl, rfl⟩) x
  · obtain rfl : 115 = c := Option.some.inj hi; exact shp (c := 115) (by decide) (Or.inl rfl) x
  · obtain rfl : 57 = c := Option.some.inj hi; exact shp (c := 100) (by decide) (Or.inr ⟨rfl, rfl⟩) x
  · obtain rfl : 57 = c := Option.some.inj hi; exact shp (c := 100) (by decide) (Or.inr ⟨rfl, rfl⟩) x
  · obtain rfl : 115 = c := Option.some.inj hi; exact shp (c := 115) (by decide) (Or.inl rfl) x
  · obtain rfl : 57 = c := Option.some.inj hi; exact shp (c := 100) (by decide) (Or.inr ⟨rfl, rfl⟩) x
  · obtain rfl : 57 = c := Option.some.inj hi; exact shp (c := 100) (by decide) (Or.inr ⟨rfl, rfl⟩) x
  · obtain rfl : 115 = c := Option.some.inj hi; exact shp (c := 115) (by decide) (Or.inl rfl) x
  · obtain rfl : 57 = c := Option.some.inj hi; exact shp (c := 100) (by decide) (Or.inr ⟨rfl, rfl⟩) x
  · obtain rfl : 57 = c := Option.some.inj hi; exact shp (c := 100) (by decide) (Or.inr ⟨rfl, rfl⟩) x
  · obtain rfl : 115 = c := Option.some.inj hi; exact shp (c := 115) (by decide) (Or.inl rfl) x
  · obtain rfl : 57 = c := Option.some.inj hi; exact shp (c := 100) (by decide) (Or.inr ⟨rfl, rfl⟩) x
  · obtain rfl : 57 = c := Option.some.inj hi; exact shp (c := 100) (by decide) (Or.inr ⟨rfl, rfl⟩) x)
/-- where a command goes wrong, in the class -/
def feN (ss : Nat) (sc : Nat → Int32) (a : Nat) : Option Nat := if f_J0_isEmpty_aae02 (fShape (f_X6_codeAt ss sc a)) = 0 then feIn ss sc (fShape (f_X6_codeAt ss sc a)) (kLen.getD (fShape (f_X6_codeAt ss sc a)) 0) 0 (a + 1) else some a
/-- what a command comes to, of both -/
def cmdR (ss : Nat) (sc : Nat → Int32) (a : Nat) (v : KPV) (lo : Int32) (r : KRd) : Prop := (∃ e, feN ss sc a = some e ∧ r.1 = 0 ∧ r.2.1 = e) ∨ (feN ss sc a = none ∧ r.1 = 1 ∧ r.2.1 = (kStep ss sc a v).2.1 ∧ r.2.2.1 = (if (kStep ss sc a v).1 = 0 then lo + 1 else lo) ∧ pPlan (kStep ss sc a v).2.2 r.2.2.2.1)
theorem cmd_n (h : pPlan v rw) {a : Nat} (ha : a < ss) (hc : sc a = 110) (lo : Int32) (cp cn : Nat → Int32) : cmdR ss sc a v lo (rdStep ss sc (1, a, lo, rw, cp, cn)) := by
  have hcc : f_X6_codeAt ss sc a = 110 := by
    unfold f_X6_codeAt
    rw [if_neg (by omega), hc]
  have hs : fShape (110 : Int32) = 5 := by decide
  have hN : feN ss sc a = fIn ss sc [115, 48, 57, 115, 57, 57] (a + 1) := by
    unfold feN
    rw [hcc, hs, if_pos (by decide)]
    exact fe_n (a + 1)
  have er : rdStep ss sc (1, a, lo, rw, cp, cn) = ((f_X8_readPart ss (a + 1) 1 lo sc rw (rw 0).toNatClampNeg).1, (f_X8_readPart ss (a + 1) 1 lo sc rw (rw 0).toNatClampNeg).2.1, (f_X8_readPart ss (a + 1) 1 lo sc rw (rw 0).toNatClampNeg).2.2.1, (f_X8_readPart ss (a + 1) 1 lo sc rw (rw 0).toNatClampNeg).2.2.2, cp, cn) := by
    show h_X8_readCommand ss a 1 lo sc rw cp cn (rw 0).toNatClampNeg = _
    rw [h_X8_readCommand_eq, f_X8_readCommand, h_X8_readPart_eq]
    try dsimp only
    rw [tA_prog (by decide), if_pos hc, if_neg (show ¬ ((1 : Int32), a + 1).1 = 0 by show ¬ (1 : Int32) = 0; decide)]
  rw [er]
  obtain ⟨k1, k2⟩ := step_n (ss := ss) (sc := sc) h hcc
  rcases readPart_rel (ss := ss) (sc := sc) (a + 1) lo rw (rw 0).toNatClampNeg with ⟨e, f, r1, r2⟩ | ⟨f, r⟩
  · exact Or.inl ⟨e, hN.trans f, r1, r2⟩
  · rw [r]
    refine Or.inr ⟨hN.trans f, rfl, k1.symm, ?_, ?_⟩
    · rcases k2 with ⟨c, z, _⟩ | ⟨c, z, _⟩
      · rw [if_pos c, z, if_pos rfl]
      · rw [if_neg c, z, if_neg (by decide)]
        exact Int32.add_zero lo
    · rcases k2 with ⟨c, _, z⟩ | ⟨c, _, z⟩
      · rw [if_pos c]; exact z
      · rw [if_neg c]; exact z
end TX
end
