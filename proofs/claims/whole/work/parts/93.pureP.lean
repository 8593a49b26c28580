-- THE PURE PART, 25: texts, of both: own contracts
noncomputable section
section TX
variable {ss : Nat} {sc : Nat → Int32} {v : KPV} {rw : Nat → Int32}
theorem fIn_none : ∀ (L : List Int32) (b : Nat), fIn ss sc L b = none → ∀ (i : Nat) (c : Int32), L[i]? = some c → ¬ f_X6_fits (f_X6_codeAt ss sc (b + i)) c = 0 := by
  intro L
  induction L with
  | nil => intro b _ i c hi; cases hi
  | cons d L ih =>
    intro b h i c hi
    rw [fIn] at h
    by_cases z : f_X6_fits (f_X6_codeAt ss sc b) d = 0
    · rw [if_pos z] at h; cases h
    · rw [if_neg z] at h
      cases i with
      | zero =>
        obtain rfl : d = c := Option.some.inj hi
        exact z
      | succ i =>
        have := ih (b + 1) h i c hi
        rw [show b + 1 + i = b + (i + 1) by omega] at this
        exact this
theorem sgn_fit {a : Nat} (h1 : ¬ f_X6_fits (f_X6_codeAt ss sc (a + 1)) 57 = 0) (h2 : ¬ f_X6_fits (f_X6_codeAt ss sc (a + 2)) 57 = 0) : -99 ≤ (kSgn ss sc a).toInt ∧ (kSgn ss sc a).toInt ≤ 99 := by
  obtain ⟨d1, k1, e1⟩ := dig_N h1
  obtain ⟨d2, k2, e2⟩ := dig_N h2
  exact sgn_small k1 k2 e1 e2
theorem cmd_o (h : pPlan v rw) {a : Nat} (ha : a < ss) (hc : sc a = 111) (lo : Int32) (cp cn : Nat → Int32) : cmdR ss sc a v lo (rdStep ss sc (1, a, lo, rw, cp, cn)) := by
  have hcc : f_X6_codeAt ss sc a = 111 := by
    unfold f_X6_codeAt
    rw [if_neg (by omega), hc]
  have hs : fShape (111 : Int32) = 7 := by decide
  have hN : feN ss sc a = fIn ss sc [57, 115, 57, 57, 115, 57, 57, 115, 57, 57, 115, 57, 57] (a + 1) := by
    unfold feN
    rw [hcc, hs, if_pos (by decide)]
    exact fe_o (a + 1)
  have er : rdStep ss sc (1, a, lo, rw, cp, cn) = ((f_X8_readOwn ss (a + 1) 1 lo sc rw).1, (f_X8_readOwn ss (a + 1) 1 lo sc rw).2.1, (f_X8_readOwn ss (a + 1) 1 lo sc rw).2.2.1, (f_X8_readOwn ss (a + 1) 1 lo sc rw).2.2.2, cp, cn) := by
    show h_X8_readCommand ss a 1 lo sc rw cp cn (rw 0).toNatClampNeg = _
    rw [h_X8_readCommand_eq, f_X8_readCommand, h_X8_readOwn_eq]
    try dsimp only
    rw [tA_prog (by decide), if_neg (show ¬ sc a = 110 by rw [hc]; decide), if_neg (show ¬ sc a = 115 by rw [hc]; decide), if_pos hc, if_neg (show ¬ ((1 : Int32), a + 1).1 = 0 by show ¬ (1 : Int32) = 0; decide)]
  rw [er]
  rcases readOwn_rel (ss := ss) (sc := sc) (a + 1) lo rw with ⟨e, f, r1, r2⟩ | ⟨f, hf, r⟩
  · exact Or.inl ⟨e, hN.trans f, r1, r2⟩
  · obtain ⟨p, hp9, hd⟩ := dig_N hf
    have ft := fIn_none _ _ f
    rw [hd, nI_clamp (by omega)] at r
    obtain ⟨k1, k2⟩ := step_o (ss := ss) (sc := sc) h hcc hp9 hd (sgn_fit (ft 2 57 rfl) (ft 3 57 rfl)) (sgn_fit (ft 5 57 rfl) (ft 6 57 rfl)) (sgn_fit (ft 8 57 rfl) (ft 9 57 rfl)) (sgn_fit (ft 11 57 rfl) (ft 12 57 rfl))
    rw [r]
    refine Or.inr ⟨hN.trans f, rfl, k1.symm, ?_, ?_⟩
    · rcases k2 with ⟨c, z, _⟩ | ⟨c, c2, c3, z, _⟩
      · rw [z, if_pos rfl]
        by_cases c1 : f_X8_isRead rw (nI p) = 0
        · rw [if_pos c1]
        · rw [if_neg c1]
          by_cases c2 : kSgn ss sc (a + 1 + 4) < kSgn ss sc (a + 1 + 1)
          · rw [if_pos c2]
          · rw [if_neg c2, if_pos (show kSgn ss sc (a + 1 + 10) < kSgn ss sc (a + 1 + 7) from (c.resolve_left c1).resolve_left c2)]
      · rw [if_neg c, if_neg (show ¬ kSgn ss sc (a + 1 + 4) < kSgn ss sc (a + 1 + 1) from c2), if_neg (show ¬ kSgn ss sc (a + 1 + 10) < kSgn ss sc (a + 1 + 7) from c3), z, if_neg (by decide)]
        exact Int32.add_zero lo
    · rcases k2 with ⟨c, _, z⟩ | ⟨c, c2, c3, _, z⟩
      · by_cases c1 : f_X8_isRead rw (nI p) = 0
        · rw [if_pos c1]; exact z
        · rw [if_neg c1]
          by_cases c2 : kSgn ss sc (a + 1 + 4) < kSgn ss sc (a + 1 + 1)
          · rw [if_pos c2]; exact z
          · rw [if_neg c2, if_pos (show kSgn ss sc (a + 1 + 10) < kSgn ss sc (a + 1 + 7) from (c.resolve_left c1).resolve_left c2)]; exact z
      · rw [if_neg c, if_neg (show ¬ kSgn ss sc (a + 1 + 4) < kSgn ss sc (a + 1 + 1) from c2), if_neg (show ¬ kSgn ss sc (a + 1 + 10) < kSgn ss sc (a + 1 + 7) from c3)]; exact z
end TX
end
