-- THE PURE PART, 18: texts, of both: a command that is done
noncomputable section
section TX
variable {ss : Nat} {sc : Nat → Int32} {v : KPV} {rw : Nat → Int32}
/-- a digit's number -/
theorem dig_N {x : Int32} (h : ¬ f_X6_fits x 57 = 0) : ∃ d : Nat, d ≤ 9 ∧ x - 48 = nI d := by
  unfold f_X6_fits at h
  rw [if_neg (show ¬ (57 : Int32) = 48 by decide), if_neg (show ¬ (57 : Int32) = 115 by decide)] at h
  by_cases a : x < 48
  · rw [if_pos a] at h; exact absurd rfl h
  · rw [if_neg a] at h
    by_cases b : 57 < x
    · rw [if_pos b] at h; exact absurd rfl h
    · have ha : ¬ x.toInt < (48 : Int32).toInt := fun q => a (Int32.lt_iff_toInt_lt.mpr q)
      have hb : ¬ (57 : Int32).toInt < x.toInt := fun q => b (Int32.lt_iff_toInt_lt.mpr q)
      have q48 : (48 : Int32).toInt = 48 := by decide
      have q57 : (57 : Int32).toInt = 57 := by decide
      have z := (sub48 x).1.mpr ⟨by omega, by omega⟩
      have e0 : (0 : Int32).toInt = 0 := by decide
      obtain ⟨j, hj, ej⟩ := nI_of (x := x - 48) (fun q => by have := Int32.lt_iff_toInt_lt.mp q; omega)
      have e2 := nI_toInt hj
      rw [← ej] at e2
      exact ⟨j, by omega, ej⟩
theorem step_n (h : pPlan v rw) {a : Nat} (hc : f_X6_codeAt ss sc a = 110) : (kStep ss sc a v).2.1 = a + 7 ∧ ((10 ≤ (rw 0).toNatClampNeg ∧ (kStep ss sc a v).1 = 0 ∧ pPlan (kStep ss sc a v).2.2 rw) ∨ (¬ 10 ≤ (rw 0).toNatClampNeg ∧ (kStep ss sc a v).1 = 1 ∧ pPlan (kStep ss sc a v).2.2 (f_X8_addIn rw (kSgn ss sc (a + 1)) (kSgn ss sc (a + 4)) (rw 0).toNatClampNeg))) := by
  obtain ⟨mn, e, R⟩ := h
  have hm := R.1
  unfold kStep
  rw [if_neg (show ¬ f_X6_codeAt ss sc a = 107 by rw [hc]; decide), if_pos hc]
  dsimp only
  rw [R.2.1, nI_clamp (n := mn) (by omega)]
  refine ⟨rfl, ?_⟩
  unfold f_X2_isAdded f_X4_hasRoom
  rw [e]
  by_cases c : 10 ≤ mn
  · left
    rw [if_pos (show (10 : Int32) ≤ nI mn from (nI_leI (a := 10) (b := mn) (by decide) (by omega)).mpr c), if_pos rfl]
    exact ⟨c, rfl, mn, rfl, R⟩
  · right
    obtain ⟨r1, r2⟩ := pRel_add (factor := kSgn ss sc (a + 1)) (more := kSgn ss sc (a + 4)) (show mn < 10 by omega) R
    rw [if_neg (show ¬ (10 : Int32) ≤ nI mn from fun q => c ((nI_leI (a := 10) (b := mn) (by decide) (by omega)).mp q)), if_neg (show ¬ (1 : Int32) = 0 by decide)]
    exact ⟨c, rfl, mn + 1, r1, r2⟩
theorem isRead_if {mn p : Nat} (hm : mn ≤ 10) (hp : p ≤ 9) (h0 : rw 0 = nI mn) : f_X8_isRead rw (nI p) = if mn ≤ p then 0 else 1 := by
  unfold f_X8_isRead
  rw [h0]
  by_cases c : mn ≤ p
  · rw [if_pos c, if_pos (show nI mn ≤ nI p from (nI_leI (by omega) (by omega)).mpr c)]
  · rw [if_neg c, if_neg (show ¬ nI mn ≤ nI p from fun q => c ((nI_leI (by omega) (by omega)).mp q))]
theorem step_x (h : pPlan v rw) {a : Nat} (hc : f_X6_codeAt ss sc a = 120) {p : Nat} (hp : p ≤ 9) (hd : f_X6_codeAt ss sc (a + 1) - 48 = nI p) : (kStep ss sc a v).2.1 = a + 2 ∧ (((f_X8_isRead rw (nI p) = 0 ∨ f_X8_hasContract rw 0 p = 0) ∧ (kStep ss sc a v).1 = 0 ∧ pPlan (kStep ss sc a v).2.2 rw) ∨ (¬ f_X8_isRead rw (nI p) = 0 ∧ ¬ f_X8_hasContract rw 0 p = 0 ∧ (kStep ss sc a v).1 = 1 ∧ pPlan (kStep ss sc a v).2.2 (upd rw (81 + 5 * (10 * 0 + p) + 0) 0))) := by
  have hv := h
  obtain ⟨mn, e, R⟩ := h
  have hm := R.1
  obtain ⟨d1, d2⟩ := dropOwn_rel hv e hm (show p < 10 by omega)
  rw [gRem_eq] at d1 d2
  unfold kStep
  rw [if_neg (show ¬ f_X6_codeAt ss sc a = 107 by rw [hc]; decide), if_neg (show ¬ f_X6_codeAt ss sc a = 110 by rw [hc]; decide), if_neg (show ¬ f_X6_codeAt ss sc a = 111 by rw [hc]; decide), if_neg (show ¬ f_X6_codeAt ss sc a = 115 by rw [hc]; decide), hd]
  refine ⟨rfl, ?_⟩
  have d3 : (f_X1_remove v.2.2.2.2.2.2.2.1 (-10001) (nI p)).1 = (f_X8_drops rw 0 p).1 := d1
  unfold f_X8_drops at d3 d2
  rw [trial_if hm R.2.1] at d3 d2
  rw [isRead_if hm hp R.2.1]
  by_cases c : mn ≤ p
  · rw [if_pos c, if_pos rfl] at d3 d2
    rw [if_pos c]
    exact Or.inl ⟨Or.inl rfl, d3, d2⟩
  · rw [if_neg c, if_neg (show ¬ (1 : Int32) = 0 by decide)] at d3 d2
    rw [if_neg c]
    by_cases t : f_X8_hasContract rw 0 p = 0
    · rw [if_pos t] at d3 d2
      exact Or.inl ⟨Or.inr t, d3, d2⟩
    · rw [if_neg t] at d3 d2
      exact Or.inr ⟨by decide, t, d3, d2⟩
end TX
end
