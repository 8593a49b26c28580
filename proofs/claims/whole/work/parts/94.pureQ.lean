-- THE PURE PART, 26: texts, of both: no command
noncomputable section
section TX
variable {ss : Nat} {sc : Nat → Int32} {v : KPV} {rw : Nat → Int32}
theorem cmd_bad {a : Nat} (ha : a < ss) (n1 : ¬ sc a = 110) (n2 : ¬ sc a = 115) (n3 : ¬ sc a = 111) (n4 : ¬ sc a = 107) (n5 : ¬ sc a = 120) (lo : Int32) (cp cn : Nat → Int32) : cmdR ss sc a v lo (rdStep ss sc (1, a, lo, rw, cp, cn)) := by
  have hcc : f_X6_codeAt ss sc a = sc a := by
    unfold f_X6_codeAt
    rw [if_neg (by omega)]
  have hs : fShape (sc a) = 10 := by
    unfold fShape
    rw [if_neg n4, if_neg n1, if_neg n3, if_neg n2, if_neg n5]
  have hN : feN ss sc a = some a := by
    unfold feN
    rw [hcc, hs, if_neg (by decide)]
  have er : rdStep ss sc (1, a, lo, rw, cp, cn) = (0, a, lo, rw, cp, cn) := by
    show h_X8_readCommand ss a 1 lo sc rw cp cn (rw 0).toNatClampNeg = _
    rw [h_X8_readCommand_eq, f_X8_readCommand]
    try dsimp only
    rw [if_neg n1, if_neg n2, if_neg n3, if_neg n4, if_neg n5, tA_0, if_pos (show ((0 : Int32), a).1 = 0 from rfl)]
  rw [er]
  exact Or.inl ⟨a, hN, rfl, rfl⟩
/-- a command, of both -/
theorem cmd_rel (h : pPlan v rw) {a : Nat} (ha : a < ss) (lo : Int32) (cp cn : Nat → Int32) : cmdR ss sc a v lo (rdStep ss sc (1, a, lo, rw, cp, cn)) := by
  by_cases n1 : sc a = 110
  · exact cmd_n h ha n1 lo cp cn
  · by_cases n2 : sc a = 115
    · exact cmd_s h ha n2 lo cp cn
    · by_cases n3 : sc a = 111
      · exact cmd_o h ha n3 lo cp cn
      · by_cases n4 : sc a = 107
        · exact cmd_k h ha n4 lo cp cn
        · by_cases n5 : sc a = 120
          · exact cmd_x h ha n5 lo cp cn
          · exact cmd_bad ha n1 n2 n3 n4 n5 lo cp cn
end TX
end
