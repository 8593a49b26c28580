-- THE PURE PART, 9: answers of the methods that look, of both
noncomputable section
theorem there_at {mn : Nat} {bnd rw : Nat → Int32} {caller pa : Int32} (hm : mn ≤ 10) (h : pBnd mn bnd rw) (hf : ¬ f_X1_find bnd caller pa = -10000) : ∃ row p : Nat, p < mn ∧ pa = nI p ∧ kCal caller row p ∧ (10 ≤ row ∨ row < mn) ∧ ¬ bnd ((row * 10 + p) * 4) = -10000 ∧ f_X1_find bnd caller pa = nI ((row * 10 + p) * 4) := by
  refine Classical.byContradiction fun hn => hf (find_none hm h fun p row hp ep hc ho => ?_)
  subst ep
  have hp10 : p < 10 := by omega
  have hb : ¬ bnd ((row * 10 + p) * 4) = -10000 := fun q => hf ((find_ne hc hp10).mpr q)
  exact hn ⟨row, p, hp, rfl, hc, ho, hb, by rw [find_N hc hp10, if_neg hb]⟩
theorem there_ne {bnd : Nat → Int32} {caller pa : Int32} (h : ¬ f_X1_isThere bnd caller pa = 0) : ¬ f_X1_find bnd caller pa = -10000 := isThere_find h
section PA
variable {v : KPV} {nw : Nat → Int32}
theorem ans_about (h : pPlan v nw) {what : Int32} (hk : ¬ f_X7_isWithin what 0 8 = 0) : f_X7_about v what = f_X8_about nw what := by
  obtain ⟨e, hw⟩ := within_N (K := 8) (by decide) hk
  obtain ⟨w, hw2⟩ : ∃ w, w = what.toNatClampNeg := ⟨_, rfl⟩
  rw [← hw2] at e hw
  subst e
  obtain ⟨mn, hv, a1, a2, a3, a4, a5, a6, a7, a8, a9, ⟨kn, b1, b2, b3, b4, b5⟩, a11⟩ := h
  unfold f_X8_about
  dsimp only
  rw [a2, nI_clamp (n := mn) (by omega), nI_clamp (n := w) (by omega)]
  rcases (show w = 0 ∨ w = 1 ∨ w = 2 ∨ w = 3 ∨ w = 4 ∨ w = 5 ∨ w = 6 ∨ w = 7 ∨ w = 8 by omega) with rfl | rfl | rfl | rfl | rfl | rfl | rfl | rfl | rfl
  · exact hv
  · exact own_eq a1 a9
  · exact links_eq a1 a9
  · exact a3
  · exact a4
  · exact a5
  · exact a6
  · exact a7
  · exact b4.symm
theorem ans_part (h : pPlan v nw) {pa what : Int32} (hp : ¬ f_X4_hasPart v.1 pa = 0) (hk : ¬ f_X7_isWithin what 0 8 = 0) : f_X7_part v pa what = f_X8_part nw pa what := by
  obtain ⟨e, hw⟩ := within_N (K := 8) (by decide) hk
  obtain ⟨w, hw2⟩ : ∃ w, w = what.toNatClampNeg := ⟨_, rfl⟩
  rw [← hw2] at e hw
  subst e
  obtain ⟨mn, hv, a1, a2, a3, a4, a5, a6, a7, a8, a9, a10, a11⟩ := h
  rw [hv] at hp
  obtain ⟨p, hp2, rfl⟩ := part_N a1 hp
  obtain ⟨e0, e1, e2, e3, e4, e5, e6, e7⟩ := a8 p hp2
  have hp10 : p < 10 := by omega
  obtain ⟨j, hj, ej⟩ := a11 p hp10
  have hlen := len_rel a1 a8 a11 9 p 1 hp2 (by omega) (by omega) 10 (by omega)
  unfold f_X7_part f_X8_part
  dsimp only
  rw [nI_clamp (n := w) (by omega), nI_clamp (n := p) (by omega), hlen]
  have o : ∀ k, f_X4_ofPart v.2.2.2.2.2.2.1 (nI p) k = v.2.2.2.2.2.2.1 (p * 8 + k) := fun k => ofPart_N hp10
  rw [o w]
  have nx : (f_X8_next nw p < 0 ∧ nw (1 + 8 * p + 2) = 0) ∨ (¬ f_X8_next nw p < 0 ∧ ¬ nw (1 + 8 * p + 2) = 0) := by
    unfold f_X8_next
    cases j with
    | zero =>
      have e9 : nw (1 + 8 * p + 2) = 0 := ej
      rw [e9]
      exact Or.inl ⟨by decide, rfl⟩
    | succ j =>
      rw [ej, show nI (j + 1) - 1 = nI j from pk_sub (a := j + 1) (b := 1) (by omega)]
      refine Or.inr ⟨nI_nn (by omega), fun e9 => ?_⟩
      have := (nI_eq (a := j + 1) (b := 0) (by omega) (by decide)).mp e9
      omega
  rcases nx with ⟨n1, n2⟩ | ⟨n1, n2⟩
  · rw [if_pos n1]
    rw [n2, if_pos rfl] at e2 e3
    rcases (show w = 0 ∨ w = 1 ∨ w = 2 ∨ w = 3 ∨ w = 4 ∨ w = 5 ∨ w = 6 ∨ w = 7 ∨ w = 8 by omega) with rfl | rfl | rfl | rfl | rfl | rfl | rfl | rfl | rfl
    · exact e0
    · exact e1
    · exact e2
    · exact e3
    · exact e4
    · exact e5
    · exact e6
    · exact e7
    · rfl
  · rw [if_neg n1]
    rw [if_neg n2] at e2 e3
    rcases (show w = 0 ∨ w = 1 ∨ w = 2 ∨ w = 3 ∨ w = 4 ∨ w = 5 ∨ w = 6 ∨ w = 7 ∨ w = 8 by omega) with rfl | rfl | rfl | rfl | rfl | rfl | rfl | rfl | rfl
    · exact e0
    · exact e1
    · exact e2
    · exact e3
    · exact e4
    · exact e5
    · exact e6
    · exact e7
    · rfl
theorem ans_contract (h : pPlan v nw) {caller pa what : Int32} (ht : ¬ f_X1_isThere v.2.2.2.2.2.2.2.1 caller pa = 0) (hk : ¬ f_X7_isWithin what 0 3 = 0) : f_X7_contract v caller pa what = f_X8_contract nw caller pa what := by
  obtain ⟨e, hw⟩ := within_N (K := 3) (by decide) hk
  obtain ⟨w, hw2⟩ : ∃ w, w = what.toNatClampNeg := ⟨_, rfl⟩
  rw [← hw2] at e hw
  subst e
  obtain ⟨mn, hv, a1, a2, a3, a4, a5, a6, a7, a8, a9, a10, a11⟩ := h
  obtain ⟨row, p, hp, rfl, hc, ho, hb, hf⟩ := there_at a1 a9 (there_ne ht)
  have hr := kCal_lt hc
  unfold f_X7_contract f_X8_contract f_X1_bound
  dsimp only
  rw [hf, nI_clamp (n := w) (by omega), nI_clamp (n := p) (by omega), nI_clamp (by omega), kCal_side hc]
  rcases a9 row p hr (by omega) with ⟨_, _, c0, c1, c2, c3, _⟩ | ⟨_, q⟩
  · rcases (show w = 0 ∨ w = 1 ∨ w = 2 ∨ w = 3 by omega) with rfl | rfl | rfl | rfl
    · exact c0
    · exact c1
    · exact c2
    · exact c3
  · exact absurd q hb
theorem ans_blame (h : pPlan v nw) {k what : Int32} (hk : ¬ f_X7_isWithin k 0 9 = 0) (hw : ¬ f_X7_isWithin what 0 5 = 0) : f_X7_blame v k what = f_X8_blame nw k what := by
  obtain ⟨e, hk2⟩ := within_N (K := 9) (by decide) hk
  obtain ⟨e2, hw2⟩ := within_N (K := 5) (by decide) hw
  obtain ⟨mn, hv, a1, a2, a3, a4, a5, a6, a7, a8, a9, ⟨kn, b1, b2, b3, b4, b5⟩, a11⟩ := h
  unfold f_X7_blame f_X8_blame f_X0_tell
  dsimp only
  rw [b2, b3]
  by_cases c : nI kn ≤ nI k.toNatClampNeg
  · rw [if_pos c, if_pos c]
  · have c2 : ¬ kn ≤ k.toNatClampNeg := fun q => c ((nI_leI (by omega) (by omega)).mpr q)
    rw [if_neg c, if_neg c, b5 _ (by omega)]
    congr 1
    omega
theorem ans_stands (h : pPlan v nw) {caller pa other qa : Int32} (ht : ¬ f_X1_isThere v.2.2.2.2.2.2.2.1 caller pa = 0) (ht2 : ¬ f_X1_isThere v.2.2.2.2.2.2.2.1 other qa = 0) : f_X7_stands v caller pa other qa = f_X8_stands nw caller pa other qa := by
  obtain ⟨mn, hv, a1, a2, a3, a4, a5, a6, a7, a8, a9, a10, a11⟩ := h
  obtain ⟨r1, p1, hp1, rfl, hc1, ho1, hb1, hf1⟩ := there_at a1 a9 (there_ne ht)
  obtain ⟨r2, p2, hp2, rfl, hc2, ho2, hb2, hf2⟩ := there_at a1 a9 (there_ne ht2)
  unfold f_X7_stands f_X8_stands
  dsimp only
  rw [hf1, hf2, nI_clamp (n := p1) (by omega), nI_clamp (n := p2) (by omega), kCal_side hc1, kCal_side hc2, stand_eq a9 (kCal_lt hc1) (by omega) (kCal_lt hc2) (by omega) hb1 hb2]
theorem ans_holes (h : pPlan v nw) : f_X7_holes v = rHs nw (nw 0).toNatClampNeg 11 := by
  obtain ⟨mn, hv, a1, a2, a3, a4, a5, a6, a7, a8, a9, a10, a11⟩ := h
  rw [a2, nI_clamp (by omega)]
  exact holes_eq a1 a9
end PA
end
