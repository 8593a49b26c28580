-- THE PURE PART, 4: what changes a plan, of both
noncomputable section
theorem setNumber_N {num : Nat → Int32} {p w : Nat} {y : Int32} (hp : p < 10) : f_X4_setNumber num (nI p) w y = upd num (p * 8 + w) y := by
  unfold f_X4_setNumber
  rw [if_neg (nI_nn (by omega)), if_neg (nI_lt10 hp), nI_clamp (by omega)]
theorem kSd_inj {a b : Nat} (ha : a < 12) (hb : b < 12) (h : kSd a = kSd b) : a = b := by
  unfold kSd at h
  by_cases a1 : a = 11
  · by_cases b1 : b = 11
    · omega
    · rw [if_pos a1, if_neg b1] at h
      by_cases b2 : b = 10
      · rw [if_pos b2] at h; omega
      · rw [if_neg b2] at h; omega
  · by_cases b1 : b = 11
    · rw [if_neg a1, if_pos b1] at h
      by_cases a2 : a = 10
      · rw [if_pos a2] at h; omega
      · rw [if_neg a2] at h; omega
    · rw [if_neg a1, if_neg b1] at h
      by_cases a2 : a = 10
      · by_cases b2 : b = 10
        · omega
        · rw [if_pos a2, if_neg b2] at h; omega
      · by_cases b2 : b = 10
        · rw [if_neg a2, if_pos b2] at h; omega
        · rw [if_neg a2, if_neg b2] at h; omega
/-- a new plan -/
theorem pRel_new {num blm : Nat → Int32} : pRel 0 0 0 0 0 0 num (fun _ => -10000) 0 blm (fun _ => 0) := by
  refine ⟨by omega, rfl, rfl, rfl, rfl, rfl, rfl, fun p hp => absurd hp (Nat.not_lt_zero _), fun row p _ _ => Or.inr ⟨rfl, rfl⟩, ⟨0, by omega, rfl, rfl, ?_, fun i hi => absurd hi (by omega)⟩, fun q _ => ⟨0, by omega, rfl⟩⟩
  unfold f_X0_lastKind
  rw [if_pos (by decide)]
/-- one more part -/
theorem pRel_add {mn : Nat} {cl cf ar co ct : Int32} {num bnd : Nat → Int32} {kp : Int32} {blm rw : Nat → Int32} {factor more : Int32} (hm : mn < 10) (h : pRel mn cl cf ar co ct num bnd kp blm rw) : (f_X4_addPart (nI mn) num factor more).1 = nI (mn + 1) ∧ pRel (mn + 1) cl cf ar co ct (f_X4_addPart (nI mn) num factor more).2 bnd kp blm (f_X8_addIn rw factor more mn) := by
  obtain ⟨a1, a2, a3, a4, a5, a6, a7, a8, a9, a10, a11⟩ := h
  have lo : ∀ i, i < 1 + 8 * mn → clr rw mn 8 i = rw i := fun i hi => if_neg (by omega)
  have hi : ∀ i, 1 + 8 * mn + 8 ≤ i → clr rw mn 8 i = rw i := fun i hi => if_neg (by omega)
  have md : ∀ w, w < 8 → clr rw mn 8 (1 + 8 * mn + w) = 0 := fun w hw => if_pos (by omega)
  have ot : ∀ i, (81 ≤ i ∨ (1 ≤ i ∧ i < 1 + 8 * mn)) → f_X8_addIn rw factor more mn i = rw i := by
    intro i hi9
    unfold f_X8_addIn
    rw [pk_un (by omega), pk_un (by omega), pk_un (by omega), pk_un (by omega)]
    rcases Nat.lt_or_ge i (1 + 8 * mn) with h9 | h9
    · exact lo i h9
    · exact hi i (by omega)
  have en : (f_X4_addPart (nI mn) num factor more).2 = upd (upd (upd (upd (upd (upd (upd (upd num (mn * 8 + 0) factor) (mn * 8 + 1) more) (mn * 8 + 2) (-10000)) (mn * 8 + 3) (-10000)) (mn * 8 + 4) (-10000)) (mn * 8 + 5) 0) (mn * 8 + 6) 0) (mn * 8 + 7) 0 := by
    unfold f_X4_addPart f_X4_setNet f_X4_chainTo
    rw [if_pos rfl]
    rw [setNumber_N hm, setNumber_N hm, setNumber_N hm, setNumber_N hm, setNumber_N hm, setNumber_N hm, setNumber_N hm, setNumber_N hm]
  refine ⟨nI_1 mn, by omega, ?_, ?_, ?_, ?_, ?_, ?_, ?_, ?_, ?_, ?_⟩
  · unfold f_X8_addIn
    rw [pk_us, lo 0 (by omega), a2, nI_1]
  · rw [ot _ (Or.inl (by omega))]; exact a3
  · rw [ot _ (Or.inl (by omega))]; exact a4
  · rw [ot _ (Or.inl (by omega))]; exact a5
  · rw [ot _ (Or.inl (by omega))]; exact a6
  · rw [ot _ (Or.inl (by omega))]; exact a7
  · intro p hp
    rw [en]
    rcases Nat.lt_or_ge p mn with h9 | h9
    · have eo : ∀ w, w < 8 → f_X8_addIn rw factor more mn (1 + 8 * p + w) = rw (1 + 8 * p + w) := fun w hw => ot _ (Or.inr (by omega))
      have ec : ∀ w, w < 8 → upd (upd (upd (upd (upd (upd (upd (upd num (mn * 8 + 0) factor) (mn * 8 + 1) more) (mn * 8 + 2) (-10000)) (mn * 8 + 3) (-10000)) (mn * 8 + 4) (-10000)) (mn * 8 + 5) 0) (mn * 8 + 6) 0) (mn * 8 + 7) 0 (p * 8 + w) = num (p * 8 + w) := fun w hw => by
        rw [pk_un (by omega), pk_un (by omega), pk_un (by omega), pk_un (by omega), pk_un (by omega), pk_un (by omega), pk_un (by omega), pk_un (by omega)]
      rw [ec 0 (by omega), ec 1 (by omega), ec 2 (by omega), ec 3 (by omega), ec 4 (by omega), ec 5 (by omega), ec 6 (by omega), ec 7 (by omega), eo 0 (by omega), eo 1 (by omega), eo 2 (by omega), eo 3 (by omega), eo 4 (by omega), eo 5 (by omega), eo 6 (by omega), eo 7 (by omega)]
      exact a8 p h9
    · obtain rfl : p = mn := by omega
      have z : ∀ w, w < 8 → ¬ w = 0 → ¬ w = 1 → ¬ w = 4 → f_X8_addIn rw factor more p (1 + 8 * p + w) = 0 := fun w hw h0 h1 h4 => by
        unfold f_X8_addIn
        rw [pk_un (by omega), pk_un (by omega), pk_un (by omega), pk_un (by omega)]
        exact md w hw
      rw [z 2 (by omega) (by omega) (by omega) (by omega), z 5 (by omega) (by omega) (by omega) (by omega), z 6 (by omega) (by omega) (by omega) (by omega), z 7 (by omega) (by omega) (by omega) (by omega), if_pos rfl, if_pos rfl]
      refine ⟨?_, ?_, ?_, ?_, ?_, ?_, ?_, ?_⟩
      · unfold f_X8_addIn
        rw [pk_un (by omega), pk_un (by omega), pk_un (by omega), pk_un (by omega), pk_un (by omega), pk_un (by omega), pk_un (by omega), pk_us, pk_un (by omega), pk_un (by omega), pk_un (by omega), pk_us]
      · unfold f_X8_addIn
        rw [pk_un (by omega), pk_un (by omega), pk_un (by omega), pk_un (by omega), pk_un (by omega), pk_un (by omega), pk_us, pk_un (by omega), pk_un (by omega), pk_us]
      · rw [pk_un (by omega), pk_un (by omega), pk_un (by omega), pk_un (by omega), pk_un (by omega), pk_us]
      · rw [pk_un (by omega), pk_un (by omega), pk_un (by omega), pk_un (by omega), pk_us]
      · unfold f_X8_addIn
        rw [pk_un (by omega), pk_un (by omega), pk_un (by omega), pk_us, pk_un (by omega), pk_us]
      · rw [pk_un (by omega), pk_un (by omega), pk_us]
      · rw [pk_un (by omega), pk_us]
      · rw [pk_us]
  · intro row p hr hp
    have hs := kSd_lt hr
    rw [ot _ (Or.inl (by omega)), ot _ (Or.inl (by omega)), ot _ (Or.inl (by omega)), ot _ (Or.inl (by omega)), ot _ (Or.inl (by omega))]
    rcases a9 row p hr hp with ⟨h1, h2, b0, b1, b2, b3, b4, b5⟩ | h1
    · exact Or.inl ⟨h1, h2, b0, b1, b2, b3, by omega, by omega⟩
    · exact Or.inr h1
  · exact pBlm_out a10 (fun i _ _ => ot _ (Or.inl (by omega)))
  · intro q hq
    rcases Nat.lt_or_ge q mn with h9 | h9
    · rw [ot _ (Or.inr (by omega))]
      exact a11 q hq
    · unfold f_X8_addIn
      rw [pk_un (by omega), pk_un (by omega), pk_un (by omega), pk_un (by omega)]
      by_cases e : q = mn
      · subst e
        exact ⟨0, by omega, md 2 (by omega)⟩
      · rw [hi _ (by omega)]
        exact a11 q hq
/-- a chain's next part -/
theorem pRel_chain {mn p : Nat} {cl cf ar co ct : Int32} {num bnd : Nat → Int32} {kp : Int32} {blm rw : Nat → Int32} {next step : Int32} (hp : p < mn) (hq : next = -10000 ∨ ∃ q : Nat, q < p ∧ next = nI q) (h : pRel mn cl cf ar co ct num bnd kp blm rw) : pRel mn cl cf ar co ct (f_X4_chainTo num (nI p) next step) bnd kp blm (f_X8_chainIn rw p next step) := by
  obtain ⟨a1, a2, a3, a4, a5, a6, a7, a8, a9, a10, a11⟩ := h
  -- what stands at NEXT afterwards, in both
  have main : ∀ z1 z2 z3 : Int32, z1 = (if z2 = 0 then -10000 else z2 - 1) → z3 = (if z2 = 0 then -10000 else step) → (∃ j : Nat, j ≤ p ∧ z2 = nI j) → pRel mn cl cf ar co ct (upd (upd num (p * 8 + 2) z1) (p * 8 + 3) z3) bnd kp blm (upd (upd rw (1 + 8 * p + 2) z2) (1 + 8 * p + 3) step) := by
    intro z1 z2 z3 hz hz3 hj
    have ot : ∀ i, (i < 1 + 8 * p + 2 ∨ 1 + 8 * p + 4 ≤ i) → upd (upd rw (1 + 8 * p + 2) z2) (1 + 8 * p + 3) step i = rw i := fun i hi => by
      rw [pk_un (by omega), pk_un (by omega)]
    refine ⟨a1, by rw [ot _ (by omega)]; exact a2, by rw [ot _ (by omega)]; exact a3, by rw [ot _ (by omega)]; exact a4, by rw [ot _ (by omega)]; exact a5, by rw [ot _ (by omega)]; exact a6, by rw [ot _ (by omega)]; exact a7, ?_, pBnd_out a9 (fun i _ _ => ot _ (by omega)), pBlm_out a10 (fun i _ _ => ot _ (by omega)), ?_⟩
    · intro r hr
      obtain ⟨e0, e1, e2, e3, e4, e5, e6, e7⟩ := a8 r hr
      by_cases e : r = p
      · subst e
        refine ⟨?_, ?_, ?_, ?_, ?_, ?_, ?_, ?_⟩
        · rw [pk_un (by omega), pk_un (by omega), ot _ (by omega)]; exact e0
        · rw [pk_un (by omega), pk_un (by omega), ot _ (by omega)]; exact e1
        · rw [pk_un (by omega), pk_us, pk_un (k := 1 + 8 * r + 3) (by omega), pk_us]; exact hz
        · rw [pk_us, pk_us, pk_un (k := 1 + 8 * r + 3) (by omega), pk_us]; exact hz3
        · rw [pk_un (by omega), pk_un (by omega), ot _ (by omega)]; exact e4
        · rw [pk_un (by omega), pk_un (by omega), ot _ (by omega)]; exact e5
        · rw [pk_un (by omega), pk_un (by omega), ot _ (by omega)]; exact e6
        · rw [pk_un (by omega), pk_un (by omega), ot _ (by omega)]; exact e7
      · have ec : ∀ w, w < 8 → upd (upd num (p * 8 + 2) z1) (p * 8 + 3) z3 (r * 8 + w) = num (r * 8 + w) := fun w hw => by
          rw [pk_un (by omega), pk_un (by omega)]
        rw [ec 0 (by omega), ec 1 (by omega), ec 2 (by omega), ec 3 (by omega), ec 4 (by omega), ec 5 (by omega), ec 6 (by omega), ec 7 (by omega), ot _ (by omega), ot _ (by omega), ot _ (by omega), ot _ (by omega), ot _ (by omega), ot _ (by omega), ot _ (by omega), ot _ (by omega)]
        exact ⟨e0, e1, e2, e3, e4, e5, e6, e7⟩
    · intro r hr
      by_cases e : r = p
      · subst e
        obtain ⟨j, h1, h2⟩ := hj
        exact ⟨j, h1, by rw [pk_un (by omega), pk_us]; exact h2⟩
      · obtain ⟨j, h1, h2⟩ := a11 r hr
        exact ⟨j, h1, by rw [ot _ (by omega)]; exact h2⟩
  unfold f_X4_chainTo f_X8_chainIn
  rcases hq with hq | ⟨q, hq, rfl⟩
  · rw [if_pos hq, if_pos hq, setNumber_N (by omega), setNumber_N (by omega), hq]
    exact main _ _ _ (if_pos rfl).symm (if_pos rfl).symm ⟨0, by omega, rfl⟩
  · have n0 : ¬ nI q + 1 = 0 := by
      rw [nI_1]
      intro e9
      have := (nI_eq (a := q + 1) (b := 0) (by omega) (by decide)).mp e9
      omega
    rw [if_neg (nI_ne (by omega)), if_neg (nI_ne (by omega)), setNumber_N (by omega), setNumber_N (by omega)]
    exact main _ _ _ (by rw [if_neg n0, Int32.add_sub_cancel]) (by rw [if_neg n0]) ⟨q + 1, by omega, nI_1 q⟩
theorem pRel_net {mn p : Nat} {cl cf ar co ct : Int32} {num bnd : Nat → Int32} {kp : Int32} {blm rw : Nat → Int32} {net : Int32} (hp : p < mn) (h : pRel mn cl cf ar co ct num bnd kp blm rw) : pRel mn cl cf ar co ct (f_X4_setNet num (nI p) net) bnd kp blm (upd rw (1 + 8 * p + 4) net) := by
  have := h.1
  unfold f_X4_setNet
  rw [setNumber_N (by omega)]
  exact pRel_part (p := p) (w := 4) (by omega) (by omega) (by omega) h
/-- a contract is put -/
theorem pRel_put {mn row p : Nat} {cl cf ar co ct : Int32} {num bnd : Nat → Int32} {kp : Int32} {blm rw : Nat → Int32} {al ah gl gh : Int32} (hp : p < mn) (hr : row < 12) (ho : 10 ≤ row ∨ p < row ∧ row < mn) (hal : ¬ al = -10000) (h : pRel mn cl cf ar co ct num bnd kp blm rw) : pRel mn cl cf ar co ct num (f_X1_put bnd al ah gl gh (row * 10 + p)) kp blm (f_X8_promise rw (kSd row) p al ah gl gh) := by
  obtain ⟨a1, a2, a3, a4, a5, a6, a7, a8, a9, a10, a11⟩ := h
  have hs := kSd_lt hr
  have ot : ∀ i, (i < 81 + 5 * (10 * kSd row + p) ∨ 81 + 5 * (10 * kSd row + p) + 5 ≤ i) → f_X8_promise rw (kSd row) p al ah gl gh i = rw i := fun i hi => by
    unfold f_X8_promise
    rw [pk_un (by omega), pk_un (by omega), pk_un (by omega), pk_un (by omega), pk_un (by omega)]
  refine ⟨a1, by rw [ot _ (by omega)]; exact a2, by rw [ot _ (by omega)]; exact a3, by rw [ot _ (by omega)]; exact a4, by rw [ot _ (by omega)]; exact a5, by rw [ot _ (by omega)]; exact a6, by rw [ot _ (by omega)]; exact a7, pNum_out a1 a8 (fun i _ _ => ot _ (by omega)), ?_, pBlm_out a10 (fun i _ _ => ot _ (by omega)), rNx_out a11 (fun i _ _ => ot _ (by omega))⟩
  intro r q hr2 hq2
  have hs2 := kSd_lt hr2
  by_cases e : r = row ∧ q = p
  · obtain ⟨rfl, rfl⟩ := e
    left
    unfold f_X8_promise f_X1_put
    refine ⟨?_, ?_, ?_, ?_, ?_, ?_, hp, ho⟩
    · rw [pk_un (by omega), pk_un (by omega), pk_un (by omega), pk_un (by omega), pk_us]
    · rw [pk_un (by omega), pk_un (by omega), pk_un (by omega), show (r * 10 + q) * 4 = 4 * (r * 10 + q) + 0 by omega, pk_us]; exact hal
    · rw [pk_un (by omega), pk_un (by omega), pk_un (by omega), show (r * 10 + q) * 4 + 0 = 4 * (r * 10 + q) + 0 by omega, pk_us, pk_un (by omega), pk_un (by omega), pk_un (by omega), pk_us]
    · rw [pk_un (by omega), pk_un (by omega), show (r * 10 + q) * 4 + 1 = 4 * (r * 10 + q) + 1 by omega, pk_us, pk_un (by omega), pk_un (by omega), pk_us]
    · rw [pk_un (by omega), show (r * 10 + q) * 4 + 2 = 4 * (r * 10 + q) + 2 by omega, pk_us, pk_un (by omega), pk_us]
    · rw [show (r * 10 + q) * 4 + 3 = 4 * (r * 10 + q) + 3 by omega, pk_us, pk_us]
  · have hne : ¬ (kSd r = kSd row ∧ q = p) := fun z => e ⟨kSd_inj hr2 hr z.1, z.2⟩
    have oc : ∀ w, w < 4 → f_X1_put bnd al ah gl gh (row * 10 + p) ((r * 10 + q) * 4 + w) = bnd ((r * 10 + q) * 4 + w) := fun w hw => by
      unfold f_X1_put
      rw [pk_un (by omega), pk_un (by omega), pk_un (by omega), pk_un (by omega)]
    have o0 : f_X1_put bnd al ah gl gh (row * 10 + p) ((r * 10 + q) * 4) = bnd ((r * 10 + q) * 4) := oc 0 (by omega)
    rw [o0, oc 0 (by omega), oc 1 (by omega), oc 2 (by omega), oc 3 (by omega), ot _ (by omega), ot _ (by omega), ot _ (by omega), ot _ (by omega), ot _ (by omega)]
    exact a9 r q hr2 hq2
/-- a contract is taken away -/
theorem pRel_rem {mn row p : Nat} {cl cf ar co ct : Int32} {num bnd : Nat → Int32} {kp : Int32} {blm rw : Nat → Int32} (hp : p < 10) (hr : row < 12) (h : pRel mn cl cf ar co ct num bnd kp blm rw) : pRel mn cl cf ar co ct num (upd bnd ((row * 10 + p) * 4) (-10000)) kp blm (upd rw (81 + 5 * (10 * kSd row + p) + 0) 0) := by
  obtain ⟨a1, a2, a3, a4, a5, a6, a7, a8, a9, a10, a11⟩ := h
  have hs := kSd_lt hr
  refine ⟨a1, by rw [pk_un (by omega)]; exact a2, by rw [pk_un (by omega)]; exact a3, by rw [pk_un (by omega)]; exact a4, by rw [pk_un (by omega)]; exact a5, by rw [pk_un (by omega)]; exact a6, by rw [pk_un (by omega)]; exact a7, pNum_out a1 a8 (fun i _ _ => pk_un (by omega)), ?_, pBlm_out a10 (fun i _ _ => pk_un (by omega)), rNx_out a11 (fun i _ _ => pk_un (by omega))⟩
  intro r q hr2 hq2
  have hs2 := kSd_lt hr2
  by_cases e : r = row ∧ q = p
  · obtain ⟨rfl, rfl⟩ := e
    right
    exact ⟨pk_us, pk_us⟩
  · have hne : ¬ (kSd r = kSd row ∧ q = p) := fun z => e ⟨kSd_inj hr2 hr z.1, z.2⟩
    rw [pk_un (by omega), pk_un (by omega), pk_un (by omega), pk_un (by omega), pk_un (by omega), pk_un (by omega), pk_un (by omega), pk_un (by omega), pk_un (by omega), pk_un (by omega)]
    exact a9 r q hr2 hq2
end
