-- THE PURE PART, 12: would, firstBad, reach, mostBlamed, of both
noncomputable section
theorem pPlan.at {v : KPV} {rw : Nat → Int32} {mn : Nat} (h : pPlan v rw) (e : v.1 = nI mn) (hm : mn ≤ 10) : pRel mn v.2.1 v.2.2.1 v.2.2.2.1 v.2.2.2.2.1 v.2.2.2.2.2.1 v.2.2.2.2.2.2.1 v.2.2.2.2.2.2.2.1 v.2.2.2.2.2.2.2.2.1 v.2.2.2.2.2.2.2.2.2 rw := by
  obtain ⟨m2, e2, R⟩ := h
  have h9 := R.1
  rw [e] at e2
  have e3 : mn = m2 := (nI_eq (by omega) (by omega)).mp e2
  rw [e3]
  exact R
section TR
variable {v : KPV} {nw : Nat → Int32} {mn p : Nat}
/-- a call on a plan whose fixed part is the row's -/
theorem call_on {u : KPV} {r cp cn : Nat → Int32} (hm : mn ≤ 10) (hp : p < mn) (hu : pPlan u r) (e : u.1 = nI mn) (hs : kSame nw r) (hR : rNx nw) (x : Int32) : (gCall u (nI p) x).1 = (h_X8_callIn cp cn nw p x).1 ∧ (gCall u (nI p) x).2.1 = nI mn ∧ pPlan (gCall u (nI p) x).2 (h_X8_callIn cp cn r p x).2.1 ∧ kSame nw (h_X8_callIn cp cn r p x).2.1 := by
  obtain ⟨c1, c2, c3, _⟩ := call_rel (cp := cp) (cn := cn) (x := x) e hp (hu.at e hm)
  refine ⟨?_, c2, c3, hs.trans (callIn_same (rNx_same hs hR) (by omega))⟩
  rw [c1]
  exact callIn_kf hs hR (by omega)
theorem isBad_0 {cp cn : Nat → Int32} {x : Int32} : (h_X8_isBad nw cp cn p x).1 = 0 ↔ ¬ (h_X8_callIn cp cn nw p x).1 = -10000 := by
  rw [h_X8_isBad_eq]
  unfold f_X8_isBad
  dsimp only
  by_cases h : (h_X8_callIn cp cn nw p x).1 = -10000
  · rw [if_pos h]
    exact ⟨fun q => absurd (show (1 : Int32) = 0 from q) (by decide), fun q => absurd h q⟩
  · rw [if_neg h]
    exact ⟨fun _ => h, fun _ => rfl⟩
theorem fb_rel (hm : mn ≤ 10) (hp : p < mn) (hR : rNx nw) (low : Int32) : ∀ (f k : Nat) (u : KPV) (r : Nat → Int32) (t : KT), pPlan u r → u.1 = nI mn → kSame nw r → (cFb (nI p) low f k u).1 = (rFb nw p low f k t).1 := by
  intro f
  induction f with
  | zero => intro k u r t _ _ _; rfl
  | succ f ih =>
    intro k u r t hu e hs
    obtain ⟨c1, c2, c3, c4⟩ := call_on (cp := t.2.1) (cn := t.2.2) hm hp hu e hs hR (low + nI k)
    rw [cFb, rFb]
    by_cases hb : (h_X8_callIn t.2.1 t.2.2 nw p (low + nI k)).1 = -10000
    · rw [if_pos (c1.trans hb), if_neg (fun q => isBad_0.mp q hb)]
    · rw [if_neg (fun q => hb (c1.symm.trans q)), if_pos (isBad_0.mpr hb)]
      exact ih (k + 1) _ _ _ c3 c2 c4
theorem re_rel (hm : mn ≤ 10) (hp : p < mn) (hR : rNx nw) (x b : Int32) : ∀ (f a : Nat) (u : KPV) (r : Nat → Int32) (t : KT), pPlan u r → u.1 = nI mn → kSame nw r → (cRe (nI p) x b f (a + 1) (rAt x b a) u).1 = (rRe nw p x b f a t).1 := by
  intro f
  induction f with
  | zero => intro a u r t _ _ _; rfl
  | succ f ih =>
    intro a u r t hu e hs
    obtain ⟨c1, c2, c3, c4⟩ := call_on (cp := t.2.1) (cn := t.2.2) hm hp hu e hs hR (rAt x b (a + 1))
    rw [cRe, rRe]
    by_cases hb : (h_X8_callIn t.2.1 t.2.2 nw p (rAt x b (a + 1))).1 = -10000
    · rw [if_pos (c1.trans hb), if_neg (fun q => isBad_0.mp q hb)]
    · rw [if_neg (fun q => hb (c1.symm.trans q)), if_pos (isBad_0.mpr hb)]
      exact ih (a + 1) _ _ _ c3 c2 c4
theorem rAtZ (x b : Int32) : rAt x b 0 = x := by
  unfold rAt
  rw [show nI 0 = 0 from rfl, Int32.mul_zero, Int32.add_zero]
theorem ans_firstBad {cp cn tr : Nat → Int32} (h : pPlan v nw) {pa low many : Int32} (hpa : ¬ f_X4_hasPart v.1 pa = 0) : (cFb pa low many.toNatClampNeg 0 v).1 = (rFb nw pa.toNatClampNeg low many.toNatClampNeg 0 (tr, cp, cn)).1 := by
  have hv := h
  obtain ⟨mn, e, R⟩ := h
  rw [e] at hpa
  have hm := R.1
  obtain ⟨p, hp, rfl⟩ := part_N hm hpa
  rw [nI_clamp (n := p) (by omega)]
  exact fb_rel hm hp R.2.2.2.2.2.2.2.2.2.2 low _ 0 v nw _ hv e kSame.rf
theorem ans_reach {cp cn : Nat → Int32} (h : pPlan v nw) {pa x high : Int32} (hpa : ¬ f_X4_hasPart v.1 pa = 0) : (cReach v pa x high).1 = (rReach nw cp cn pa.toNatClampNeg x high).1 := by
  have hv := h
  obtain ⟨mn, e, R⟩ := h
  rw [e] at hpa
  have hm := R.1
  have hR := R.2.2.2.2.2.2.2.2.2.2
  obtain ⟨p, hp, rfl⟩ := part_N hm hpa
  rw [nI_clamp (n := p) (by omega)]
  obtain ⟨c1, c2, c3, c4⟩ := call_on (cp := cp) (cn := cn) hm hp hv e (kSame.rf (rw := nw)) hR x
  have one : ∀ b : Int32, ∀ t : KT, (cRe (nI p) x b 201 0 (-10000) v).1 = if (h_X8_callIn cp cn nw p x).1 = -10000 then -10000 else (rRe nw p x b 200 0 t).1 := by
    intro b t
    rw [cRe, rAtZ]
    by_cases hb : (h_X8_callIn cp cn nw p x).1 = -10000
    · rw [if_pos (c1.trans hb), if_pos hb]
    · rw [if_neg (fun q => hb (c1.symm.trans q)), if_neg hb]
      have := re_rel hm hp hR x b 200 0 _ _ t c3 c2 c4
      rw [rAtZ] at this
      exact this
  unfold cReach rReach
  by_cases hb : (h_X8_callIn cp cn nw p x).1 = -10000
  · rw [if_neg (fun q => isBad_0.mp q hb)]
    by_cases hh : high = 0
    · rw [if_pos hh, one _ (nw, cp, cn), if_pos hb]
    · rw [if_neg hh, one _ (nw, cp, cn), if_pos hb]
  · rw [if_pos (isBad_0.mpr hb)]
    by_cases hh : high = 0
    · rw [if_pos hh, if_pos hh, one _ (h_X8_isBad nw cp cn p x).2, if_neg hb]
    · rw [if_neg hh, if_neg hh, one _ (h_X8_isBad nw cp cn p x).2, if_neg hb]
theorem calls_rel {cp cn : Nat → Int32} (hm : mn ≤ 10) (hp : p < mn) (h : pPlan v nw) (e : v.1 = nI mn) (low : Int32) : ∀ k, pPlan (cCalls (nI p) low k v) (rCalls p low k (nw, cp, cn)).1 ∧ (cCalls (nI p) low k v).1 = nI mn := by
  intro k
  induction k with
  | zero => exact ⟨h, e⟩
  | succ k ih =>
    obtain ⟨i1, i2⟩ := ih
    obtain ⟨c1, c2, c3, _⟩ := call_rel (cp := (rCalls p low k (nw, cp, cn)).2.1) (cn := (rCalls p low k (nw, cp, cn)).2.2) (x := low + nI k) i2 hp (i1.at i2 hm)
    rw [cCalls, rCalls]
    exact ⟨c3, c2⟩
theorem since_eq {u : KPV} {tr : Nat → Int32} {q : Nat} (hm : mn ≤ 10) (h : pPlan v nw) (e : v.1 = nI mn) (hu : pPlan u tr) (eu : u.1 = nI mn) (hq : q < mn) : gSince u v (nI q) = tr (1 + 8 * q + 6) - nw (1 + 8 * q + 6) := by
  unfold gSince
  rw [ofPart_N (by omega), ofPart_N (by omega), ((h.at e hm).2.2.2.2.2.2.2.1 q hq).2.2.2.2.2.2.1, ((hu.at eu hm).2.2.2.2.2.2.2.1 q hq).2.2.2.2.2.2.1]
theorem mb_rel {u : KPV} {tr : Nat → Int32} (hm : mn ≤ 10) (h : pPlan v nw) (e : v.1 = nI mn) (hu : pPlan u tr) (eu : u.1 = nI mn) : ∀ k, k ≤ mn → cMb u v k = ((rMb tr nw k).2, (rMb tr nw k).1) := by
  intro k
  induction k with
  | zero => intro _; rfl
  | succ k ih =>
    intro hk
    rw [cMb, rMb, ih (by omega), since_eq hm h e hu eu (show k < mn by omega)]
    dsimp only
    by_cases c : tr (1 + 8 * k + 6) - nw (1 + 8 * k + 6) ≤ (rMb tr nw k).2
    · rw [if_pos c, if_pos c, if_pos c]
    · rw [if_neg c, if_neg c, if_neg c]
theorem ans_mostBlamed {cp cn : Nat → Int32} (h : pPlan v nw) {pa low many : Int32} (hpa : ¬ f_X4_hasPart v.1 pa = 0) : (cMb (cCalls pa low many.toNatClampNeg v) v v.1.toNatClampNeg).2 = (rMb (rCalls pa.toNatClampNeg low many.toNatClampNeg (nw, cp, cn)).1 nw (nw 0).toNatClampNeg).1 := by
  have hv := h
  obtain ⟨mn, e, R⟩ := h
  have hm := R.1
  rw [e] at hpa
  obtain ⟨p, hp, rfl⟩ := part_N hm hpa
  obtain ⟨i1, i2⟩ := calls_rel (cp := cp) (cn := cn) hm hp hv e low many.toNatClampNeg
  rw [nI_clamp (n := p) (by omega), R.2.1, e, nI_clamp (n := mn) (by omega), mb_rel hm hv e i1 i2 mn (Nat.le_refl _)]
theorem ans_would {cp cn : Nat → Int32} (h : pPlan v nw) {pa x what : Int32} (hpa : ¬ f_X4_hasPart v.1 pa = 0) (hk : ¬ f_X7_isWithin what 0 4 = 0) : (f_X7_would v pa x what).1 = (f_X8_would nw cp cn pa x what).1 := by
  obtain ⟨ew, hw⟩ := within_N (K := 4) (by decide) hk
  obtain ⟨w, hw2⟩ : ∃ w, w = what.toNatClampNeg := ⟨_, rfl⟩
  rw [← hw2] at ew hw
  subst ew
  have hv := h
  obtain ⟨mn, e, R⟩ := h
  have hm := R.1
  have hR := R.2.2.2.2.2.2.2.2.2.2
  rw [e] at hpa
  obtain ⟨p, hp, rfl⟩ := part_N hm hpa
  obtain ⟨c1, c2, c3, c4⟩ := call_rel (cp := cp) (cn := cn) (x := x) e hp R
  have hkO := callIn_none (cp := cp) (cn := cn) (x := x) hR (show p < 10 by omega)
  unfold f_X7_would f_X8_would
  dsimp only
  rw [nI_clamp (n := w) (by omega), nI_clamp (n := p) (by omega)]
  obtain ⟨G, hG⟩ : ∃ G, G = gCall v (nI p) x := ⟨_, rfl⟩
  obtain ⟨C, hC⟩ : ∃ C, C = h_X8_callIn cp cn nw p x := ⟨_, rfl⟩
  rw [← hG, ← hC] at c1 c3
  rw [← hG] at c2
  rw [← hC] at c4 hkO
  rw [← hG, ← hC]
  obtain ⟨b1, b2, b3, b4, b5, b6, b7, b8, b9, ⟨kn, k1, k2, k3, k4, k5⟩, b11⟩ := c3.at c2 hm
  have ect : G.2.2.2.2.2.2.1 - v.2.2.2.2.2.1 = C.2.1 685 - nw 685 := by rw [b7, R.2.2.2.2.2.2.1]
  by_cases hb : C.1 = -10000
  · rw [if_pos hb, if_pos (c1.trans hb)]
    obtain ⟨k9, m1, m2, m3⟩ := c4 hb
    have ek : k9 = kn := (nI_eq (by omega) (by omega)).mp (m3.symm.trans k3)
    have kn1 : 1 ≤ kn := by omega
    have np : ¬ G.2.2.2.2.2.2.2.2.2.1 ≤ 0 := fun q => by
      rw [k2] at q
      have := (nI_leI (a := kn) (b := 0) (by omega) (by decide)).mp q
      omega
    have l0 : f_X0_lastKind G.2.2.2.2.2.2.2.2.2.1 G.2.2.2.2.2.2.2.2.2.2 = C.2.1 688 := by
      unfold f_X0_lastKind
      rw [if_neg np]
      exact k5 0 (by omega)
    have g1 : G.2.2.2.2.2.2.2.2.2.2 1 = C.2.1 689 := k5 1 (by omega)
    have g2 : G.2.2.2.2.2.2.2.2.2.2 2 = C.2.1 690 := k5 2 (by omega)
    have g4 : G.2.2.2.2.2.2.2.2.2.2 4 = C.2.1 692 := k5 4 (by omega)
    rcases (show w = 0 ∨ w = 1 ∨ w = 2 ∨ w = 3 ∨ w = 4 by omega) with rfl | rfl | rfl | rfl | rfl
    · exact c1
    · exact l0
    · show f_X0_lastBlamedPart G.2.2.2.2.2.2.2.2.2.1 G.2.2.2.2.2.2.2.2.2.2 = (if C.2.1 688 = 3 then ((-10000 : Int32), C.2.1, C.2.2.1, C.2.2.2) else (C.2.1 (688 + (C.2.1 688).toNatClampNeg), C.2.1, C.2.2.1, C.2.2.2)).1
      unfold f_X0_lastBlamedPart f_X0_blamedPart
      rw [l0, g1, g2]
      rcases hkO hb with q | q | q
      · rw [q, if_pos rfl, if_neg (by decide)]; rfl
      · rw [q, if_neg (by decide), if_pos rfl, if_neg (by decide)]; rfl
      · rw [q, if_neg (by decide), if_neg (by decide), if_pos rfl]
    · show f_X0_tell G.2.2.2.2.2.2.2.2.2.1 G.2.2.2.2.2.2.2.2.2.2 0 4 = C.2.1 692
      unfold f_X0_tell
      rw [if_neg (show ¬ G.2.2.2.2.2.2.2.2.2.1 ≤ nI 0 from np)]
      exact g4
    · exact ect
  · rw [if_neg hb, if_neg (fun q => hb (c1.symm.trans q))]
    rcases (show w = 0 ∨ w = 1 ∨ w = 2 ∨ w = 3 ∨ w = 4 by omega) with rfl | rfl | rfl | rfl | rfl
    · exact c1
    · rfl
    · rfl
    · rfl
    · exact ect
end TR
end
