-- THE PURE PART, 13: scripts, of both
noncomputable section
theorem hasPart_if {mn p : Nat} (hm : mn ≤ 10) (hp : p < 10) : f_X4_hasPart (nI mn) (nI p) = if mn ≤ p then 0 else 1 := by
  unfold f_X4_hasPart
  rw [if_neg (nI_nn (by omega))]
  by_cases h : mn ≤ p
  · rw [if_pos (show nI mn ≤ nI p from (nI_leI (by omega) (by omega)).mpr h), if_pos h]
  · rw [if_neg (show ¬ nI mn ≤ nI p from fun q => h ((nI_leI (by omega) (by omega)).mp q)), if_neg h]
theorem trial_if {mn p : Nat} {tr : Nat → Int32} (hm : mn ≤ 10) (h0 : tr 0 = nI mn) : f_X8_isTrial tr p = if mn ≤ p then 0 else 1 := by
  unfold f_X8_isTrial
  dsimp only
  rw [h0, nI_clamp (by omega)]
theorem gRem_none {v : KPV} {caller pa : Int32} (h : f_X1_find v.2.2.2.2.2.2.2.1 caller pa = -10000) : gRem v caller pa = (0, v) := by
  rw [gRem_eq]
  unfold gRem0 f_X1_remove
  rw [if_pos h]
section SC
variable {v w : KPV} {tr be cp cn : Nat → Int32} {mn p : Nat}
theorem chained_rel (h : pPlan v tr) (e : v.1 = nI mn) (hm : mn ≤ 10) (hp : p < 10) {q : Nat} (hq : q < 10) : (f_X5_isChained v (nI p) (nI q)).1 = (f_X8_chains tr p q).1 ∧ pPlan (f_X5_isChained v (nI p) (nI q)).2 (f_X8_chains tr p q).2 := by
  have R := h.at e hm
  unfold f_X5_isChained f_X8_chains
  dsimp only
  rw [e, hasPart_if hm hp, trial_if hm R.2.1]
  by_cases a : mn ≤ p
  · rw [if_pos a, if_pos rfl, if_pos rfl]
    exact ⟨rfl, h⟩
  · rw [if_neg a, if_neg (show ¬ (1 : Int32) = 0 by decide), if_neg (show ¬ (1 : Int32) = 0 by decide)]
    unfold f_X4_mayChainTo
    rw [if_neg (nI_nn (by omega))]
    by_cases b : q < p
    · rw [if_neg (show ¬ nI p ≤ nI q from fun z => by have := (nI_leI (a := p) (b := q) (by omega) (by omega)).mp z; omega), if_neg (show ¬ (1 : Int32) = 0 by decide), if_pos b]
      refine ⟨rfl, ?_⟩
      rw [gChain_eq]
      exact ⟨mn, e, pRel_chain (by omega) (Or.inr ⟨q, b, rfl⟩) R⟩
    · rw [if_pos (show nI p ≤ nI q from (nI_leI (a := p) (b := q) (by omega) (by omega)).mpr (by omega)), if_pos rfl, if_neg b]
      exact ⟨rfl, h⟩
theorem netted_rel (h : pPlan v tr) (e : v.1 = nI mn) (hm : mn ≤ 10) (hp : p < 10) (net : Int32) : (f_X5_isNetted v (nI p) net).1 = (f_X8_nets tr p net).1 ∧ pPlan (f_X5_isNetted v (nI p) net).2 (f_X8_nets tr p net).2 := by
  have R := h.at e hm
  unfold f_X5_isNetted f_X8_nets
  dsimp only
  rw [e, hasPart_if hm hp, trial_if hm R.2.1]
  by_cases a : mn ≤ p
  · rw [if_pos a, if_pos rfl, if_pos rfl]
    exact ⟨rfl, h⟩
  · rw [if_neg a, if_neg (show ¬ (1 : Int32) = 0 by decide), if_neg (show ¬ (1 : Int32) = 0 by decide)]
    refine ⟨rfl, ?_⟩
    rw [gNet_eq]
    exact ⟨mn, e, pRel_net (by omega) R⟩
theorem dropOwn_rel (h : pPlan v tr) (e : v.1 = nI mn) (hm : mn ≤ 10) (hp : p < 10) : (gRem v (-10001) (nI p)).1 = (f_X8_drops tr 0 p).1 ∧ pPlan (gRem v (-10001) (nI p)).2 (f_X8_drops tr 0 p).2 := by
  have R := h.at e hm
  have hB := R.2.2.2.2.2.2.2.2.1
  have o := hasT hB (kCal_own p) hp
  rw [side_own] at o
  unfold f_X8_drops
  rw [trial_if hm R.2.1]
  by_cases f : f_X1_find v.2.2.2.2.2.2.2.1 (-10001) (nI p) = -10000
  · rw [gRem_none f, if_pos (o.mpr f)]
    by_cases a : mn ≤ p
    · rw [if_pos a, if_pos rfl]; exact ⟨rfl, h⟩
    · rw [if_neg a, if_neg (show ¬ (1 : Int32) = 0 by decide)]; exact ⟨rfl, h⟩
  · obtain ⟨row, q, hq, eq, hc, ho, hb, hf⟩ := there_at hm hB f
    have epq : p = q := (nI_eq (by omega) (by omega)).mp eq
    obtain ⟨r1, r2, r3⟩ := remR e R hp (kCal_own p) f
    rw [side_own] at r3
    rw [if_neg (show ¬ mn ≤ p by omega), if_neg (show ¬ (1 : Int32) = 0 by decide), if_neg (fun z => f (o.mp z))]
    exact ⟨r1, r3⟩
theorem dropLink_rel (h : pPlan v tr) (e : v.1 = nI mn) (hm : mn ≤ 10) (hp : p < 10) {q : Nat} (hq : q < 10) : (gRem v (nI p) (nI q)).1 = (if f_X8_isTrial tr p = 0 then 0 else (f_X8_drops tr (2 + p) q).1) ∧ pPlan (gRem v (nI p) (nI q)).2 (if f_X8_isTrial tr p = 0 then tr else (f_X8_drops tr (2 + p) q).2) := by
  have R := h.at e hm
  have hB := R.2.2.2.2.2.2.2.2.1
  have hs : kSide (nI p) = 2 + p := by
    unfold kSide
    rw [if_neg (nI_ne1 (by omega)), if_neg (nI_ne (by omega)), nI_clamp (by omega)]
  have hk : kSd p = 2 + p := by
    unfold kSd
    rw [if_neg (by omega), if_neg (by omega)]
    omega
  unfold f_X8_drops
  rw [trial_if hm R.2.1, trial_if hm R.2.1]
  by_cases f : f_X1_find v.2.2.2.2.2.2.2.1 (nI p) (nI q) = -10000
  · have t : f_X8_hasContract tr (2 + p) q = 0 := by
      by_cases l : q < p
      · have := (hasT hB (show kCal (nI p) p q from Or.inr (Or.inr ⟨rfl, l, hp⟩)) hq).mpr f
        rw [hs] at this
        exact this
      · rw [← hk]
        refine (hasC_N hB (by omega) hq).mpr ?_
        rcases hB p q (by omega) hq with ⟨_, _, _, _, _, _, _, h8⟩ | ⟨_, h2⟩
        · omega
        · exact h2
    rw [gRem_none f, if_pos t]
    by_cases a : mn ≤ p
    · rw [if_pos a, if_pos rfl, if_pos rfl]; exact ⟨rfl, h⟩
    · rw [if_neg a, if_neg (show ¬ (1 : Int32) = 0 by decide), if_neg (show ¬ (1 : Int32) = 0 by decide)]
      by_cases b : mn ≤ q
      · rw [if_pos b, if_pos rfl]; exact ⟨rfl, h⟩
      · rw [if_neg b, if_neg (show ¬ (1 : Int32) = 0 by decide)]; exact ⟨rfl, h⟩
  · obtain ⟨row, q2, hq2, eq, hc, ho, hb, hf⟩ := there_at hm hB f
    have eqq : q = q2 := (nI_eq (by omega) (by omega)).mp eq
    subst eqq
    have hpr : row = p ∧ q < p ∧ p < mn := by
      rcases hc with ⟨z, _⟩ | ⟨z, _⟩ | ⟨z, z2, z3⟩
      · exact absurd z (nI_ne1 (by omega))
      · exact absurd z (nI_ne (by omega))
      · have : p = row := (nI_eq (by omega) (by omega)).mp z
        omega
    obtain ⟨rfl, l, lm⟩ := hpr
    obtain ⟨r1, r2, r3⟩ := remR e R hq hc f
    have t : ¬ f_X8_hasContract tr (2 + row) q = 0 := fun z => by
      rw [← hs] at z
      exact f ((hasT hB hc hq).mp z)
    rw [hs] at r3
    rw [if_neg (show ¬ mn ≤ row by omega), if_neg (show ¬ mn ≤ q by omega), if_neg (show ¬ (1 : Int32) = 0 by decide), if_neg (show ¬ (1 : Int32) = 0 by decide), if_neg (show ¬ (1 : Int32) = 0 by decide), if_neg t]
    exact ⟨r1, r3⟩
/-- one group of a script -/
theorem does_rel (h : pPlan v tr) {gr : Nat} (hg : gr ≤ 99999) : (h_X5_succeeds v w gr).1 = (h_X8_does tr be cp cn gr).1 ∧ pPlan (h_X5_succeeds v w gr).2.1 (h_X8_does tr be cp cn gr).2.1 := by
  have hv := h
  obtain ⟨mn, e, R⟩ := h
  have hm := R.1
  rw [h_X5_succeeds_eq, h_X8_does_eq]
  unfold f_X5_succeeds f_X8_does
  dsimp only
  obtain ⟨p, hp9⟩ : ∃ p, p = gr / 1000 % 10 := ⟨_, rfl⟩
  obtain ⟨q, hq9⟩ : ∃ q, q = gr / 100 % 10 := ⟨_, rfl⟩
  obtain ⟨n, hn9⟩ : ∃ n, n = gr % 100 := ⟨_, rfl⟩
  obtain ⟨xyz, hx9⟩ : ∃ xyz, xyz = gr % 1000 := ⟨_, rfl⟩
  obtain ⟨wd, hw9⟩ : ∃ wd, wd = gr / 10000 := ⟨_, rfl⟩
  have hxq : xyz = 0 ↔ q = 0 ∧ n = 0 := by omega
  have hp : p < 10 := by omega
  have hq : q < 10 := by omega
  rw [← hp9, ← hq9, ← hn9, ← hx9, ← hw9, e, hasPart_if hm hp, trial_if hm R.2.1]
  clear hp9 hq9 hn9 hx9 hw9
  have hcall : ¬ mn ≤ p → ∀ x : Int32, (gCall v (nI p) x).1 = (h_X8_callIn cp cn tr p x).1 ∧ pPlan (gCall v (nI p) x).2 (h_X8_callIn cp cn tr p x).2.1 := fun a x => by
    obtain ⟨c1, c2, c3, _⟩ := call_rel (cp := cp) (cn := cn) (x := x) e (show p < mn by omega) R
    exact ⟨c1, c3⟩
  by_cases w1 : wd = 1
  · rw [if_pos w1, if_pos w1]
    by_cases a : mn ≤ p
    · rw [if_pos a, if_pos rfl, if_pos rfl]; exact ⟨rfl, hv⟩
    · rw [if_neg a, if_neg (show ¬ (1 : Int32) = 0 by decide), if_neg (show ¬ (1 : Int32) = 0 by decide)]
      obtain ⟨c1, c3⟩ := hcall a (nI xyz - 500)
      by_cases b : (h_X8_callIn cp cn tr p (nI xyz - 500)).1 = -10000
      · rw [if_pos (c1.trans b), if_pos b]; exact ⟨rfl, c3⟩
      · rw [if_neg (fun z => b (c1.symm.trans z)), if_neg b]; exact ⟨rfl, c3⟩
  rw [if_neg w1, if_neg w1]
  by_cases w2 : wd = 2
  · rw [if_pos w2, if_pos w2]
    by_cases a : mn ≤ p
    · rw [if_pos a, if_pos rfl, if_pos rfl]; exact ⟨rfl, hv⟩
    · rw [if_neg a, if_neg (show ¬ (1 : Int32) = 0 by decide), if_neg (show ¬ (1 : Int32) = 0 by decide)]
      obtain ⟨c1, c3⟩ := hcall a (nI xyz - 500)
      by_cases b : (h_X8_callIn cp cn tr p (nI xyz - 500)).1 = -10000
      · rw [if_pos (c1.trans b), if_pos b]; exact ⟨rfl, c3⟩
      · rw [if_neg (fun z => b (c1.symm.trans z)), if_neg b]; exact ⟨rfl, c3⟩
  rw [if_neg w2, if_neg w2]
  by_cases w3 : wd = 3
  · rw [if_pos w3, if_pos w3]
    by_cases b : n = 0
    · rw [if_pos b, if_pos b]
      obtain ⟨c1, c3⟩ := chained_rel hv e hm hp hq
      by_cases c : (f_X8_chains tr p q).1 = 0
      · rw [if_pos (c1.trans c), if_pos c]; exact ⟨rfl, c3⟩
      · rw [if_neg (fun z => c (c1.symm.trans z)), if_neg c]; exact ⟨rfl, c3⟩
    · rw [if_neg b, if_neg b]; exact ⟨rfl, hv⟩
  rw [if_neg w3, if_neg w3]
  by_cases w4 : wd = 4
  · rw [if_pos w4, if_pos w4]
    by_cases b : q = 0
    · rw [if_pos b, if_pos b]
      obtain ⟨c1, c3⟩ := netted_rel hv e hm hp (nI n)
      by_cases c : (f_X8_nets tr p (nI n)).1 = 0
      · rw [if_pos (c1.trans c), if_pos c]; exact ⟨rfl, c3⟩
      · rw [if_neg (fun z => c (c1.symm.trans z)), if_neg c]; exact ⟨rfl, c3⟩
    · rw [if_neg b, if_neg b]; exact ⟨rfl, hv⟩
  rw [if_neg w4, if_neg w4]
  by_cases w5 : wd = 5
  · rw [if_pos w5, if_pos w5]
    by_cases b : xyz = 0
    · rw [if_pos b, if_pos (hxq.mp b).1, if_pos (hxq.mp b).2]
      obtain ⟨c1, c3⟩ := dropOwn_rel hv e hm hp
      by_cases c : (f_X8_drops tr 0 p).1 = 0
      · rw [if_pos (c1.trans c), if_pos c]; exact ⟨rfl, c3⟩
      · rw [if_neg (fun z => c (c1.symm.trans z)), if_neg c]; exact ⟨rfl, c3⟩
    · rw [if_neg b]
      by_cases b1 : q = 0
      · rw [if_pos b1, if_neg (fun z => b (hxq.mpr ⟨b1, z⟩))]; exact ⟨rfl, hv⟩
      · rw [if_neg b1]; exact ⟨rfl, hv⟩
  rw [if_neg w5, if_neg w5]
  by_cases w6 : wd = 6
  · rw [if_pos w6, if_pos w6]
    by_cases b : n = 0
    · rw [if_pos b, if_pos b]
      obtain ⟨c1, c3⟩ := dropLink_rel hv e hm hp hq
      rw [trial_if hm R.2.1] at c1 c3
      by_cases a : mn ≤ p
      · rw [if_pos a, if_pos rfl] at c1 c3
        rw [if_pos c1, if_pos a, if_pos rfl]; exact ⟨rfl, c3⟩
      · rw [if_neg a, if_neg (show ¬ (1 : Int32) = 0 by decide)] at c1 c3
        rw [if_neg a, if_neg (show ¬ (1 : Int32) = 0 by decide)]
        by_cases c : (f_X8_drops tr (2 + p) q).1 = 0
        · rw [if_pos (c1.trans c), if_pos c]; exact ⟨rfl, c3⟩
        · rw [if_neg (fun z => c (c1.symm.trans z)), if_neg c]; exact ⟨rfl, c3⟩
    · rw [if_neg b, if_neg b]; exact ⟨rfl, hv⟩
  rw [if_neg w6, if_neg w6]
  by_cases w7 : wd = 7
  · rw [if_pos w7, if_pos w7]
    by_cases b : q = 0
    · rw [if_pos b, if_pos b]
      by_cases a : mn ≤ p
      · rw [if_pos a, if_pos rfl, if_pos rfl]; exact ⟨rfl, hv⟩
      · rw [if_neg a, if_neg (show ¬ (1 : Int32) = 0 by decide), if_neg (show ¬ (1 : Int32) = 0 by decide), ofPart_N hp, (R.2.2.2.2.2.2.2.1 p (by omega)).2.2.2.2.2.2.1]
        by_cases c : nI n < tr (1 + 8 * p + 6)
        · rw [if_pos c, if_pos c]; exact ⟨rfl, hv⟩
        · rw [if_neg c, if_neg c]; exact ⟨rfl, hv⟩
    · rw [if_neg b, if_neg b]; exact ⟨rfl, hv⟩
  rw [if_neg w7, if_neg w7]
  by_cases w8 : wd = 8
  · rw [if_pos w8, if_pos w8, R.2.2.2.2.1]
    by_cases b : p = 0
    · rw [if_pos b, if_pos b]
      by_cases b2 : q = 0
      · rw [if_pos b2, if_pos b2]
        by_cases c : nI n < tr 683
        · rw [if_pos c, if_pos c]; exact ⟨rfl, hv⟩
        · rw [if_neg c, if_neg c]; exact ⟨rfl, hv⟩
      · rw [if_neg b2, if_neg b2]; exact ⟨rfl, hv⟩
    · rw [if_neg b, if_neg b]; exact ⟨rfl, hv⟩
  rw [if_neg w8, if_neg w8]
  by_cases w9 : wd = 9
  · rw [if_pos w9, if_pos w9]
    by_cases a : mn ≤ p
    · rw [if_pos a, if_pos rfl, if_pos rfl]; exact ⟨rfl, hv⟩
    · rw [if_neg a, if_neg (show ¬ (1 : Int32) = 0 by decide), if_neg (show ¬ (1 : Int32) = 0 by decide)]
      obtain ⟨c1, c3⟩ := hcall a 0
      have d1 : (f_X5_wouldGive v (nI p)).1 = (f_X8_asked tr cp cn p 0).1 := c1
      by_cases c : (f_X8_asked tr cp cn p 0).1 = nI xyz - 500
      · rw [if_pos (d1.trans c), if_pos c]; exact ⟨rfl, hv⟩
      · rw [if_neg (fun z => c (d1.symm.trans z)), if_neg c]; exact ⟨rfl, hv⟩
  · rw [if_neg w9, if_neg w9]; exact ⟨rfl, hv⟩
theorem run_rel {n t : Nat} : ∀ (f k : Nat) (v w : KPV) (s : KS), pPlan v s.1 → (cRun n t f k v w).1 = (rRun n t f k s).1 := by
  intro f
  induction f with
  | zero => intro k v w s _; rfl
  | succ f ih =>
    intro k v w s h
    have e5 : t / 100000 ^ (n - 1 - k) % 100000 = t / 10 ^ (5 * (n - 1 - k)) % 100000 := by rw [Nat.pow_mul]
    rw [cRun, rRun, e5]
    obtain ⟨d1, d2⟩ := does_rel (w := w) (be := s.2.1) (cp := s.2.2.1) (cn := s.2.2.2) h (gr := t / 10 ^ (5 * (n - 1 - k)) % 100000) (Nat.le_of_lt_succ (Nat.mod_lt _ (by decide)))
    by_cases c : (h_X8_does s.1 s.2.1 s.2.2.1 s.2.2.2 (t / 10 ^ (5 * (n - 1 - k)) % 100000)).1 = 0
    · rw [if_pos (d1.trans c), if_pos c]
    · rw [if_neg (fun z => c (d1.symm.trans z)), if_neg c]
      exact ih (k + 1) _ _ _ d2
theorem kd_runScript (many : Int32) (script : Int64) : kd_X7_runScript many script = kc_X8_runScript many script := by
  have i1 : f_X8_in (Int32.toInt64 many) 1 3 = f_X7_isWithin many 1 3 := in_c (by decide) (by decide)
  unfold kd_X7_runScript kc_X8_runScript
  dsimp only
  rw [i1]
  by_cases a : f_X7_isWithin many 1 3 = 0
  · rw [if_pos a, if_pos a]
  · rw [if_neg a, if_neg a]
    obtain ⟨en, n1, n3⟩ := within_N1 (K := 3) (by decide) a
    unfold f_X8_in
    by_cases b : script < 0
    · rw [if_pos b, if_pos b, if_pos rfl]
    · rw [if_neg b, if_neg b]
      obtain ⟨t, ht, rfl⟩ := pk_lOf b
      have hg := gf_0 ht many.toNatClampNeg n3
      have hp := (kTen_pos (k := 5 * many.toNatClampNeg) (by omega))
      have e1 : (kTen (5 * many.toNatClampNeg) - 1).toInt = (10 ^ (5 * many.toNatClampNeg) : Nat) - 1 := by
        rw [kTen_l _ (by omega), show (1 : Int64) = lN 1 from rfl]
        have h2 : lN (10 ^ (5 * many.toNatClampNeg)) - lN 1 = lN (10 ^ (5 * many.toNatClampNeg) - 1) := by
          have h3 : lN (10 ^ (5 * many.toNatClampNeg)) = lN (10 ^ (5 * many.toNatClampNeg) - 1) + lN 1 := by
            have h4 : (10 ^ (5 * many.toNatClampNeg) - 1) + 1 = 10 ^ (5 * many.toNatClampNeg) := by omega
            conv => lhs; rw [← h4]
            exact Int64.ofNat_add ..
          rw [h3, Int64.add_sub_cancel]
        rw [h2, pk_lT (by omega)]
        omega
      have e2 := pk_lT ht
      by_cases c : gf (lN t) many.toNatClampNeg = 0
      · have hc := hg.mp c
        rw [if_pos c, if_neg (show ¬ kTen (5 * many.toNatClampNeg) - 1 < lN t from fun z => by have := Int64.lt_iff_toInt_lt.mp z; omega), if_neg (by decide)]
      · have hc : ¬ t < 10 ^ (5 * many.toNatClampNeg) := fun z => c (hg.mpr z)
        rw [if_neg c, if_pos (show kTen (5 * many.toNatClampNeg) - 1 < lN t from Int64.lt_iff_toInt_lt.mpr (by omega)), if_pos rfl]
end SC
end
