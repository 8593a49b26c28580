-- THE PURE PART, 23: texts, of both: further commands
noncomputable section
section TX
variable {ss : Nat} {sc : Nat → Int32} {v : KPV} {rw : Nat → Int32}
theorem cmd_k (h : pPlan v rw) {a : Nat} (ha : a < ss) (hc : sc a = 107) (lo : Int32) (cp cn : Nat → Int32) : cmdR ss sc a v lo (rdStep ss sc (1, a, lo, rw, cp, cn)) := by
  have hcc : f_X6_codeAt ss sc a = 107 := by
    unfold f_X6_codeAt
    rw [if_neg (by omega), hc]
  have hs : fShape (107 : Int32) = 8 := by decide
  have hN : feN ss sc a = fIn ss sc [115, 57, 57] (a + 1) := by
    unfold feN
    rw [hcc, hs, if_pos (by decide)]
    exact fe_k (a + 1)
  have er : rdStep ss sc (1, a, lo, rw, cp, cn) = f_X8_readCall ss (a + 1) 1 lo sc rw cp cn (rw 0).toNatClampNeg := by
    show h_X8_readCommand ss a 1 lo sc rw cp cn (rw 0).toNatClampNeg = _
    rw [h_X8_readCommand_eq, f_X8_readCommand, h_X8_readCall_eq]
    try dsimp only
    rw [tA_prog (by decide), if_neg (show ¬ sc a = 110 by rw [hc]; decide), if_neg (show ¬ sc a = 115 by rw [hc]; decide), if_neg (show ¬ sc a = 111 by rw [hc]; decide), if_pos hc, if_neg (show ¬ ((1 : Int32), a + 1).1 = 0 by show ¬ (1 : Int32) = 0; decide)]
  rw [er]
  obtain ⟨k1, k2⟩ := step_k (ss := ss) (sc := sc) h hcc cp cn
  rcases readCall_rel (ss := ss) (sc := sc) (a + 1) lo rw cp cn (rw 0).toNatClampNeg with ⟨e, f, r1, r2⟩ | ⟨f, r⟩
  · exact Or.inl ⟨e, hN.trans f, r1, r2⟩
  · rw [r]
    refine Or.inr ⟨hN.trans f, rfl, k1.symm, ?_, ?_⟩
    · rcases k2 with ⟨c, z, _⟩ | ⟨c, z, _⟩
      · rw [if_pos c, z, if_pos rfl]
      · rw [if_neg c, z, if_neg (by decide)]
        exact Int32.add_zero lo
    · rcases k2 with ⟨c, _, z⟩ | ⟨c, _, z⟩
      · rw [if_pos c]; exact z
      · rw [if_neg c]; exact z
end TX
end
