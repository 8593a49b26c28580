-- THE PURE PART, 20: texts, of both: a call in a text
noncomputable section
section TX
variable {ss : Nat} {sc : Nat → Int32} {v : KPV} {rw : Nat → Int32}
theorem step_k (h : pPlan v rw) {a : Nat} (hc : f_X6_codeAt ss sc a = 107) (cp cn : Nat → Int32) : (kStep ss sc a v).2.1 = a + 4 ∧ (((rw 0).toNatClampNeg ≤ 0 ∧ (kStep ss sc a v).1 = 0 ∧ pPlan (kStep ss sc a v).2.2 rw) ∨ (¬ (rw 0).toNatClampNeg ≤ 0 ∧ (kStep ss sc a v).1 = 1 ∧ pPlan (kStep ss sc a v).2.2 (h_X8_callIn cp cn rw ((rw 0).toNatClampNeg - 1) (kSgn ss sc (a + 1))).2.1)) := by
  have hv := h
  obtain ⟨mn, e, R⟩ := h
  have hm := R.1
  have e1 : 0 < mn → nI mn - 1 = nI (mn - 1) := fun h0 => pk_sub (a := mn) (b := 1) (by omega)
  unfold kStep
  rw [if_pos hc]
  dsimp only
  rw [R.2.1, nI_clamp (n := mn) (by omega)]
  refine ⟨rfl, ?_⟩
  unfold f_X2_isCalled
  rw [e]
  by_cases c : mn ≤ 0
  · have h0 : f_X4_hasPart (nI mn) (nI mn - 1) = 0 := by
      rw [show mn = 0 by omega]
      decide
    left
    rw [if_pos h0]
    exact ⟨c, rfl, mn, rfl, R⟩
  · right
    have h1 : f_X4_hasPart (nI mn) (nI mn - 1) = 1 := by
      rw [e1 (by omega)]
      exact part_of hm (by omega)
    rw [if_neg (by rw [h1]; decide), e1 (by omega)]
    obtain ⟨c1, c2, c3, _⟩ := call_rel (cp := cp) (cn := cn) (x := kSgn ss sc (a + 1)) e (show mn - 1 < mn by omega) R
    refine ⟨c, rfl, ?_⟩
    rw [gCall_eq] at c3
    unfold gCall0 at c3
    rw [h_X4_callFromOutside_eq, e] at c3
    exact c3
end TX
end
