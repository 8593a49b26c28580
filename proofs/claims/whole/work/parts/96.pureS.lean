-- THE PURE PART, 28: errorPosition and load of both
noncomputable section
section TX
variable {ss : Nat} {sc : Nat → Int32}
theorem gNew_plan (v : KPV) : pPlan (gNew v) (fun _ => 0) := by
  rw [gNew_eq]
  exact ⟨0, rfl, pRel_new⟩
theorem tR_rel (v : KPV) (cp cn : Nat → Int32) : ((if f_X6_codeAt ss sc 0 = 67 then feOut ss sc ss 1 else 0) = -10000 ∧ (tR ss sc cp cn).1 = 1 ∧ (tR ss sc cp cn).2.2.1 = (gLoad ss sc (gNew v)).1 ∧ pPlan (gLoad ss sc (gNew v)).2.2 (tR ss sc cp cn).2.2.2.1) ∨
    ((tR ss sc cp cn).1 = 0 ∧ (if f_X6_codeAt ss sc 0 = 67 then feOut ss sc ss 1 else 0) = nI (tR ss sc cp cn).2.1) := by
  rw [tR_eq, gLoad_eq]
  have hn := nxt_eq (ss := ss) (sp := 0) (sc := sc) (c := 67) (by decide)
  by_cases c : f_X6_codeAt ss sc 0 = 67
  · rw [if_pos c] at hn
    have hV : rdV0 ss sc cp cn = (1, 1, 0, fun _ => 0, cp, cn) := by
      unfold rdV0
      rw [hn, tA_prog (by decide)]
    rw [if_pos c, hV]
    exact txt_rel ss (ss + 1) 1 (gNew v) 0 (fun _ => 0) cp cn (gNew_plan v) (by omega) (by omega)
  · rw [if_neg c] at hn
    have hV : rdV0 ss sc cp cn = (0, 0, 0, fun _ => 0, cp, cn) := by
      unfold rdV0
      rw [hn, tA_0]
    rw [if_neg c, hV, rdOut_end (Or.inl rfl)]
    exact Or.inr ⟨rfl, rfl⟩
theorem ans_errorPosition (hs : ss ≤ 120) (cp cn : Nat → Int32) : f_X7_errorPosition ss sc = (f_X8_errorPosition ss sc cp cn).1 := by
  unfold f_X7_errorPosition f_X8_errorPosition
  dsimp only
  rcases tR_rel (ss := ss) (sc := sc) kNew cp cn with ⟨h1, h2, _⟩ | ⟨h1, h2⟩
  · rw [h1, h2, if_neg (by decide)]
  · rw [h1, h2, if_pos rfl]
theorem kd_load (hs : ss ≤ 120) (cp cn : Nat → Int32) : kd_X7_load ss sc = kc_X8_load ss sc cp cn := by
  unfold kd_X7_load kc_X8_load
  dsimp only
  rcases tR_rel (ss := ss) (sc := sc) kNew cp cn with ⟨h1, h2, _⟩ | ⟨h1, h2⟩
  · rw [h1, h2, if_pos rfl, if_neg (show ¬ (1 : Int32) = 0 by decide), if_pos rfl]
  · rw [h1, h2, if_pos (show (0 : Int32) = 0 from rfl)]
theorem ans_load (hs : ss ≤ 120) (v : KPV) (cp cn fl : Nat → Int32) (hk : kd_X7_load ss sc = 0) : (f_X7_load ss sc v fl).1 = (f_X8_load ss sc cp cn fl).1 ∧ pPlan (f_X7_load ss sc v fl).2.1 (f_X8_load ss sc cp cn fl).2.2.2.2.2.2.2.1 ∧ (f_X7_load ss sc v fl).2.2 = (f_X8_load ss sc cp cn fl).2.2.2.2.2.2.2.2 ∧ pBd 3000 (f_X8_load ss sc cp cn fl).2.2.2.2.2.2.2.1 := by
  unfold f_X7_load f_X8_load
  dsimp only
  have hb := tR_bd (ss := ss) (sc := sc) cp cn hs
  have hp := (tR_ok ss sc cp cn).2
  rcases tR_rel (ss := ss) (sc := sc) v cp cn with ⟨h1, h2, h3, h4⟩ | ⟨h1, h2⟩
  · exact ⟨h3.symm, h4, rfl, hb⟩
  · unfold kd_X7_load at hk
    rw [h2, if_neg (nI_ne (by omega))] at hk
    exact absurd hk (by decide)
end TX
end
