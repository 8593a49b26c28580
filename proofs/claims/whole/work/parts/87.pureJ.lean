-- THE PURE PART, 19: texts, of both: more commands that are done
noncomputable section
section TX
variable {ss : Nat} {sc : Nat → Int32} {v : KPV} {rw : Nat → Int32}
theorem may_if {p q : Nat} (hp : p ≤ 9) (hq : q ≤ 9) : f_X4_mayChainTo (nI p) (nI q) = if p ≤ q then 0 else 1 := by
  unfold f_X4_mayChainTo
  rw [if_neg (nI_nn (by omega))]
  by_cases c : p ≤ q
  · rw [if_pos (show nI p ≤ nI q from (nI_leI (by omega) (by omega)).mpr c), if_pos c]
  · rw [if_neg (show ¬ nI p ≤ nI q from fun z => c ((nI_leI (by omega) (by omega)).mp z)), if_neg c]
theorem step_s (h : pPlan v rw) {a : Nat} (hc : f_X6_codeAt ss sc a = 115) {p q : Nat} (hp : p ≤ 9) (hq : q ≤ 9) (hd : f_X6_codeAt ss sc (a + 1) - 48 = nI p) (hd2 : f_X6_codeAt ss sc (a + 2) - 48 = nI q) : (kStep ss sc a v).2.1 = a + 6 ∧ (((f_X8_isRead rw (nI p) = 0 ∨ p ≤ q) ∧ (kStep ss sc a v).1 = 0 ∧ pPlan (kStep ss sc a v).2.2 rw) ∨ (¬ f_X8_isRead rw (nI p) = 0 ∧ ¬ p ≤ q ∧ (kStep ss sc a v).1 = 1 ∧ pPlan (kStep ss sc a v).2.2 (f_X8_chainIn rw p (nI q) (kSgn ss sc (a + 3))))) := by
  obtain ⟨mn, e, R⟩ := h
  have hm := R.1
  unfold kStep
  rw [if_neg (show ¬ f_X6_codeAt ss sc a = 107 by rw [hc]; decide), if_neg (show ¬ f_X6_codeAt ss sc a = 110 by rw [hc]; decide), if_neg (show ¬ f_X6_codeAt ss sc a = 111 by rw [hc]; decide), if_pos hc]
  dsimp only
  refine ⟨rfl, ?_⟩
  unfold f_X2_isChained
  rw [hd, show a + 1 + 1 = a + 2 from rfl, hd2, e, hasPart_if hm (by omega), may_if hp hq, isRead_if hm hp R.2.1]
  by_cases c : mn ≤ p
  · rw [if_pos c, if_pos rfl]
    exact Or.inl ⟨Or.inl rfl, rfl, mn, rfl, R⟩
  · rw [if_neg c, if_neg (show ¬ (1 : Int32) = 0 by decide)]
    by_cases d : p ≤ q
    · rw [if_pos d, if_pos rfl]
      exact Or.inl ⟨Or.inr d, rfl, mn, rfl, R⟩
    · rw [if_neg d, if_neg (show ¬ (1 : Int32) = 0 by decide)]
      exact Or.inr ⟨by decide, d, rfl, mn, rfl, pRel_chain (by omega) (Or.inr ⟨q, by omega, rfl⟩) R⟩
/-- numbers of two digits with their sign are small -/
theorem sgn_small {a : Nat} {d1 d2 : Nat} (h1 : d1 ≤ 9) (h2 : d2 ≤ 9) (e1 : f_X6_codeAt ss sc (a + 1) - 48 = nI d1) (e2 : f_X6_codeAt ss sc (a + 2) - 48 = nI d2) : -99 ≤ (kSgn ss sc a).toInt ∧ (kSgn ss sc a).toInt ≤ 99 := by
  have en : 10 * nI d1 + nI d2 = nI (10 * d1 + d2) := by
    rw [show (10 : Int32) = nI 10 from rfl, pk_mul, nI_add]
  obtain ⟨D, hD⟩ : ∃ D, D = 10 * d1 + d2 := ⟨_, rfl⟩
  have hD9 : D ≤ 99 := by omega
  have et := nI_toInt (n := D) (by omega)
  have eb : (-(D : Int)).bmod (2 ^ 32) = -(D : Int) := by
    rw [Int.bmod_def]
    clear en et hD
    split <;> omega
  unfold kSgn
  rw [e1, e2, en, ← hD]
  by_cases c : f_X6_codeAt ss sc a = 45
  · rw [if_pos c, Int32.toInt_neg, et, eb]
    omega
  · rw [if_neg c, et]
    omega
theorem range_sgn {x y : Int32} (hx : -99 ≤ x.toInt ∧ x.toInt ≤ 99) (hy : -99 ≤ y.toInt ∧ y.toInt ≤ 99) : f_X7_isRange x y = if y < x then 0 else 1 := by
  unfold f_X7_isRange
  have e1 : (-9999 : Int32).toInt = -9999 := by decide
  have e2 : (9999 : Int32).toInt = 9999 := by decide
  rw [if_neg (show ¬ x < -9999 from fun q => by have := Int32.lt_iff_toInt_lt.mp q; omega)]
  by_cases c : y < x
  · rw [if_pos c, if_pos c]
  · rw [if_neg c, if_neg c, if_neg (show ¬ 9999 < y from fun q => by have := Int32.lt_iff_toInt_lt.mp q; omega)]
theorem step_o (h : pPlan v rw) {a : Nat} (hc : f_X6_codeAt ss sc a = 111) {p : Nat} (hp : p ≤ 9) (hd : f_X6_codeAt ss sc (a + 1) - 48 = nI p) (s1 : -99 ≤ (kSgn ss sc (a + 2)).toInt ∧ (kSgn ss sc (a + 2)).toInt ≤ 99) (s2 : -99 ≤ (kSgn ss sc (a + 5)).toInt ∧ (kSgn ss sc (a + 5)).toInt ≤ 99) (s3 : -99 ≤ (kSgn ss sc (a + 8)).toInt ∧ (kSgn ss sc (a + 8)).toInt ≤ 99) (s4 : -99 ≤ (kSgn ss sc (a + 11)).toInt ∧ (kSgn ss sc (a + 11)).toInt ≤ 99) : (kStep ss sc a v).2.1 = a + 14 ∧ (((f_X8_isRead rw (nI p) = 0 ∨ kSgn ss sc (a + 5) < kSgn ss sc (a + 2) ∨ kSgn ss sc (a + 11) < kSgn ss sc (a + 8)) ∧ (kStep ss sc a v).1 = 0 ∧ pPlan (kStep ss sc a v).2.2 rw) ∨ (¬ f_X8_isRead rw (nI p) = 0 ∧ ¬ kSgn ss sc (a + 5) < kSgn ss sc (a + 2) ∧ ¬ kSgn ss sc (a + 11) < kSgn ss sc (a + 8) ∧ (kStep ss sc a v).1 = 1 ∧ pPlan (kStep ss sc a v).2.2 (f_X8_promise rw 0 p (kSgn ss sc (a + 2)) (kSgn ss sc (a + 5)) (kSgn ss sc (a + 8)) (kSgn ss sc (a + 11))))) := by
  obtain ⟨mn, e, R⟩ := h
  have hm := R.1
  have k11 : kSd 11 = 0 := rfl
  unfold kStep
  rw [if_neg (show ¬ f_X6_codeAt ss sc a = 107 by rw [hc]; decide), if_neg (show ¬ f_X6_codeAt ss sc a = 110 by rw [hc]; decide), if_pos hc]
  dsimp only
  refine ⟨rfl, ?_⟩
  have eo : f_X2_isOwned (a + 1) ss sc v.1 v.2.2.2.2.2.2.2.1 = if f_X4_hasPart v.1 (nI p) = 0 then (0, v.2.2.2.2.2.2.2.1) else if f_X7_isRange (kSgn ss sc (a + 2)) (kSgn ss sc (a + 5)) = 0 then (0, v.2.2.2.2.2.2.2.1) else if f_X7_isRange (kSgn ss sc (a + 8)) (kSgn ss sc (a + 11)) = 0 then (0, v.2.2.2.2.2.2.2.1) else (1, f_X1_put v.2.2.2.2.2.2.2.1 (kSgn ss sc (a + 2)) (kSgn ss sc (a + 5)) (kSgn ss sc (a + 8)) (kSgn ss sc (a + 11)) (110 + p)) := by
    unfold f_X2_isOwned
    rw [hd, nI_clamp (by omega)]
  rw [eo, e, hasPart_if hm (by omega), range_sgn s1 s2, range_sgn s3 s4, isRead_if hm hp R.2.1]
  by_cases c : mn ≤ p
  · rw [if_pos c, if_pos rfl]
    exact Or.inl ⟨Or.inl rfl, rfl, mn, rfl, R⟩
  · rw [if_neg c, if_neg (show ¬ (1 : Int32) = 0 by decide)]
    by_cases d : kSgn ss sc (a + 5) < kSgn ss sc (a + 2)
    · rw [if_pos d, if_pos rfl]
      exact Or.inl ⟨Or.inr (Or.inl d), rfl, mn, rfl, R⟩
    · rw [if_neg d, if_neg (show ¬ (1 : Int32) = 0 by decide)]
      by_cases d2 : kSgn ss sc (a + 11) < kSgn ss sc (a + 8)
      · rw [if_pos d2, if_pos rfl]
        exact Or.inl ⟨Or.inr (Or.inr d2), rfl, mn, rfl, R⟩
      · rw [if_neg d2, if_neg (show ¬ (1 : Int32) = 0 by decide)]
        have hal : ¬ kSgn ss sc (a + 2) = -10000 := fun q => by
          have := s1.1
          rw [q, show (-10000 : Int32).toInt = -10000 by decide] at this
          omega
        have n1 := pRel_put (row := 11) (al := kSgn ss sc (a + 2)) (ah := kSgn ss sc (a + 5)) (gl := kSgn ss sc (a + 8)) (gh := kSgn ss sc (a + 11)) (show p < mn by omega) (by omega) (Or.inl (by omega)) hal R
        exact Or.inr ⟨by decide, d, d2, rfl, mn, rfl, n1⟩
end TX
end
