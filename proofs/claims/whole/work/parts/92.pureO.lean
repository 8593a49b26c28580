-- THE PURE PART, 24: texts, of both: further commands, 2
noncomputable section
section TX
variable {ss : Nat} {sc : Nat → Int32} {v : KPV} {rw : Nat → Int32}
theorem cmd_x (h : pPlan v rw) {a : Nat} (ha : a < ss) (hc : sc a = 120) (lo : Int32) (cp cn : Nat → Int32) : cmdR ss sc a v lo (rdStep ss sc (1, a, lo, rw, cp, cn)) := by
  have hcc : f_X6_codeAt ss sc a = 120 := by
    unfold f_X6_codeAt
    rw [if_neg (by omega), hc]
  have hs : fShape (120 : Int32) = 9 := by decide
  have hN : feN ss sc a = fIn ss sc [57] (a + 1) := by
    unfold feN
    rw [hcc, hs, if_pos (by decide)]
    exact fe_x (a + 1)
  have er : rdStep ss sc (1, a, lo, rw, cp, cn) = ((f_X8_readDrop ss (a + 1) 1 lo sc rw).1, (f_X8_readDrop ss (a + 1) 1 lo sc rw).2.1, (f_X8_readDrop ss (a + 1) 1 lo sc rw).2.2.1, (f_X8_readDrop ss (a + 1) 1 lo sc rw).2.2.2, cp, cn) := by
    show h_X8_readCommand ss a 1 lo sc rw cp cn (rw 0).toNatClampNeg = _
    rw [h_X8_readCommand_eq, f_X8_readCommand, h_X8_readDrop_eq]
    try dsimp only
    rw [tA_prog (by decide), if_neg (show ¬ sc a = 110 by rw [hc]; decide), if_neg (show ¬ sc a = 115 by rw [hc]; decide), if_neg (show ¬ sc a = 111 by rw [hc]; decide), if_neg (show ¬ sc a = 107 by rw [hc]; decide), if_pos hc, if_neg (show ¬ ((1 : Int32), a + 1).1 = 0 by show ¬ (1 : Int32) = 0; decide)]
  rw [er]
  rcases readDrop_rel (ss := ss) (sc := sc) (a + 1) lo rw with ⟨e, f, r1, r2⟩ | ⟨f, hf, r⟩
  · exact Or.inl ⟨e, hN.trans f, r1, r2⟩
  · obtain ⟨d, hd9, hd⟩ := dig_N hf
    rw [hd, nI_clamp (by omega)] at r
    obtain ⟨k1, k2⟩ := step_x (ss := ss) (sc := sc) h hcc hd9 hd
    rw [r]
    refine Or.inr ⟨hN.trans f, rfl, k1.symm, ?_, ?_⟩
    · rcases k2 with ⟨c, z, _⟩ | ⟨c, c2, z, _⟩
      · rw [z, if_pos rfl]
        by_cases c1 : f_X8_isRead rw (nI d) = 0
        · rw [if_pos c1]
        · rw [if_neg c1, if_pos (c.resolve_left c1)]
      · rw [if_neg c, if_neg c2, z, if_neg (by decide)]
        exact Int32.add_zero lo
    · rcases k2 with ⟨c, _, z⟩ | ⟨c, c2, _, z⟩
      · by_cases c1 : f_X8_isRead rw (nI d) = 0
        · rw [if_pos c1]; exact z
        · rw [if_neg c1, if_pos (c.resolve_left c1)]; exact z
      · rw [if_neg c, if_neg c2]; exact z
theorem cmd_s (h : pPlan v rw) {a : Nat} (ha : a < ss) (hc : sc a = 115) (lo : Int32) (cp cn : Nat → Int32) : cmdR ss sc a v lo (rdStep ss sc (1, a, lo, rw, cp, cn)) := by
  have hcc : f_X6_codeAt ss sc a = 115 := by
    unfold f_X6_codeAt
    rw [if_neg (by omega), hc]
  have hs : fShape (115 : Int32) = 6 := by decide
  have hN : feN ss sc a = fIn ss sc [57, 57, 115, 57, 57] (a + 1) := by
    unfold feN
    rw [hcc, hs, if_pos (by decide)]
    exact fe_s (a + 1)
  have er : rdStep ss sc (1, a, lo, rw, cp, cn) = ((f_X8_readChain ss (a + 1) 1 lo sc rw).1, (f_X8_readChain ss (a + 1) 1 lo sc rw).2.1, (f_X8_readChain ss (a + 1) 1 lo sc rw).2.2.1, (f_X8_readChain ss (a + 1) 1 lo sc rw).2.2.2, cp, cn) := by
    show h_X8_readCommand ss a 1 lo sc rw cp cn (rw 0).toNatClampNeg = _
    rw [h_X8_readCommand_eq, f_X8_readCommand, h_X8_readChain_eq]
    try dsimp only
    rw [tA_prog (by decide), if_neg (show ¬ sc a = 110 by rw [hc]; decide), if_pos hc, if_neg (show ¬ ((1 : Int32), a + 1).1 = 0 by show ¬ (1 : Int32) = 0; decide)]
  rw [er]
  rcases readChain_rel (ss := ss) (sc := sc) (a + 1) lo rw with ⟨e, f, r1, r2⟩ | ⟨f, hf, hf2, r⟩
  · exact Or.inl ⟨e, hN.trans f, r1, r2⟩
  · obtain ⟨p, hp9, hd⟩ := dig_N hf
    obtain ⟨q, hq9, hd2⟩ := dig_N hf2
    rw [hd, hd2, nI_clamp (n := p) (by omega), nI_clamp (n := q) (by omega)] at r
    obtain ⟨k1, k2⟩ := step_s (ss := ss) (sc := sc) h hcc hp9 hq9 hd hd2
    rw [r]
    refine Or.inr ⟨hN.trans f, rfl, k1.symm, ?_, ?_⟩
    · rcases k2 with ⟨c, z, _⟩ | ⟨c, c2, z, _⟩
      · rw [z, if_pos rfl]
        by_cases c1 : f_X8_isRead rw (nI p) = 0
        · rw [if_pos c1]
        · rw [if_neg c1, if_pos (c.resolve_left c1)]
      · rw [if_neg c, if_neg c2, z, if_neg (by decide)]
        exact Int32.add_zero lo
    · rcases k2 with ⟨c, _, z⟩ | ⟨c, c2, _, z⟩
      · by_cases c1 : f_X8_isRead rw (nI p) = 0
        · rw [if_pos c1]; exact z
        · rw [if_neg c1, if_pos (c.resolve_left c1)]; exact z
      · rw [if_neg c, if_neg c2]; exact z
end TX
end
