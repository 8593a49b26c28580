-- THE PURE PART, 14: how often a part can be blamed; simulations, slots, of both
noncomputable section
/-- blames of the parts grow by at most k -/
def kGrow (k : Nat) (a b : Nat → Int32) : Prop := ∀ p, p < 10 → ∃ d : Nat, d ≤ k ∧ b (1 + 8 * p + 6) = a (1 + 8 * p + 6) + nI d
theorem kGrow.same {k : Nat} {a b : Nat → Int32} (h : ∀ p, p < 10 → b (1 + 8 * p + 6) = a (1 + 8 * p + 6)) : kGrow k a b := fun p hp => ⟨0, by omega, by rw [h p hp, show nI 0 = 0 from rfl, Int32.add_zero]⟩
theorem kGrow.trans {j k : Nat} {a b c : Nat → Int32} (h1 : kGrow j a b) (h2 : kGrow k b c) : kGrow (j + k) a c := fun p hp => by
  obtain ⟨d, hd, e⟩ := h1 p hp
  obtain ⟨d2, hd2, e2⟩ := h2 p hp
  exact ⟨d + d2, by omega, by rw [e2, e, Int32.add_assoc, nI_add]⟩
theorem kGrow.le {j k : Nat} {a b : Nat → Int32} (h : kGrow j a b) (hjk : j ≤ k) : kGrow k a b := fun p hp => by
  obtain ⟨d, hd, e⟩ := h p hp
  exact ⟨d, by omega, e⟩
theorem arise_grow (rw : Nat → Int32) (kind caller : Int32) (pa : Nat) (x : Int32) : kGrow 1 rw (f_X8_arise rw kind caller pa x) := by
  have base : ∀ c : Nat, kGrow 1 rw (upd (rW rw kind caller pa x (if 10 ≤ (shK rw 5) 687 then 0 else 1)) (1 + 8 * c + 6) ((shK rw 5) (1 + 8 * c + 6) + 1)) := fun c p hp => by
    by_cases e : p = c
    · subst e
      exact ⟨1, by omega, by rw [pk_us, shK_low (by omega)]; rfl⟩
    · exact ⟨0, by omega, by rw [pk_un (by omega), rW_low (by omega), show nI 0 = 0 from rfl, Int32.add_zero]⟩
  have none : kGrow 1 rw (rW rw kind caller pa x (if 10 ≤ (shK rw 5) 687 then 0 else 1)) := kGrow.same fun p hp => rW_low (by omega)
  rw [arise_W]
  by_cases h1 : kind = 1
  · rw [if_pos h1]
    by_cases h2 : caller = -10000
    · rw [if_pos h2]; exact none
    · rw [if_neg h2]; exact base _
  · rw [if_neg h1]
    by_cases h2 : kind = 2
    · rw [if_pos h2]; exact base _
    · rw [if_neg h2]; exact none
theorem begins_grow (rw : Nat → Int32) (caller : Int32) (p : Nat) (x : Int32) : kGrow 1 rw (f_X8_begins rw caller p x).2 := by
  have h0 : kGrow 0 rw (upd (upd rw 681 (rw 681 + 1)) (1 + 8 * p + 5) (rw (1 + 8 * p + 5) + 1)) := kGrow.same fun q hq => by rw [pk_un (by omega), pk_un (by omega)]
  unfold f_X8_begins
  repeat' split
  · exact (h0.trans (arise_grow _ _ _ _ _)).le (by omega)
  · exact (h0.trans (arise_grow _ _ _ _ _)).le (by omega)
  · exact (h0.trans (arise_grow _ _ _ _ _)).le (by omega)
  · exact h0.le (by omega)
theorem rEnd1_grow (rw : Nat → Int32) (caller : Int32) (p : Nat) (v : Int32) : kGrow 1 rw (rEnd1 caller p rw v).1 := by
  unfold rEnd1 f_X8_ends
  dsimp only
  repeat' split
  · exact arise_grow _ _ _ _ _
  · exact arise_grow _ _ _ _ _
  · exact arise_grow _ _ _ _ _
  · exact kGrow.same fun q hq => rfl
theorem rSt_grow (t : KUp) (caller : Int32) (p : Nat) : kGrow 1 t.1 (rSt caller p t).1 := by
  unfold rSt
  by_cases t1 : t.2.2 = 0
  · rw [if_pos t1]; exact rEnd1_grow _ _ _ _
  · rw [if_neg t1]
    by_cases t2 : t.1 (1 + 8 * p + 4) = -10000
    · rw [if_pos t2]
      exact kGrow.same fun q hq => pk_un (by omega)
    · rw [if_neg t2]
      have h0 : kGrow 0 t.1 (upd (upd (upd t.1 693 1) 685 (t.1 685 + 1)) (1 + 8 * p + 7) (t.1 (1 + 8 * p + 7) + 1)) := kGrow.same fun q hq => by rw [pk_un (by omega), pk_un (by omega), pk_un (by omega)]
      exact (h0.trans (rEnd1_grow _ _ _ _)).le (by omega)
theorem rTr_grow : ∀ (F : Nat) (rw : Nat → Int32) (caller : Int32) (p : Nat) (x b : Int32), kGrow (2 * F + 1) rw (rTr F rw caller p x b).1 := by
  intro F
  induction F with
  | zero =>
    intro rw caller p x b
    by_cases h0 : b = 0
    · rw [rTr, if_pos h0]; exact (rEnd1_grow _ _ _ _).le (by omega)
    · rw [rTr_bad h0]; exact kGrow.same fun q hq => rfl
  | succ F ih =>
    intro rw caller p x b
    by_cases h0 : b = 0
    · subst h0
      by_cases hn : f_X8_next rw p < 0
      · rw [rTr_none hn]; exact (rEnd1_grow _ _ _ _).le (by omega)
      · rw [rTr, if_pos rfl, if_neg hn]
        exact (((begins_grow rw (nI p) (f_X8_next rw p).toNatClampNeg (x + rw (1 + 8 * p + 3))).trans (ih _ _ _ _ _)).trans (rSt_grow _ _ _)).le (by omega)
    · rw [rTr_bad h0]; exact kGrow.same fun q hq => rfl
theorem callIn_grow (cp cn rw : Nat → Int32) {p : Nat} (x : Int32) (hp : p < 10) : kGrow 22 rw (h_X8_callIn cp cn rw p x).2.1 := by
  rw [(callIn_tr cp cn rw x hp).2]
  have h0 : kGrow 0 rw (upd rw 682 (rw 682 + 1)) := kGrow.same fun q hq => pk_un (by omega)
  have h1 : kGrow 22 rw (rCall rw p x).1 := by
    unfold rCall
    exact ((h0.trans (begins_grow _ _ _ _)).trans (rTr_grow 10 _ _ _ _ _)).le (by omega)
  exact (h1.trans (kGrow.same (k := 0) fun q hq => pk_un (by omega))).le (by omega)
/-- no part was blamed more than N times -/
def pBd (N : Nat) (rw : Nat → Int32) : Prop := ∀ p, p < 10 → ∃ j : Nat, j ≤ N ∧ rw (1 + 8 * p + 6) = nI j
theorem pBd.grow {N k : Nat} {a b : Nat → Int32} (h : pBd N a) (g : kGrow k a b) : pBd (N + k) b := fun p hp => by
  obtain ⟨j, hj, e⟩ := h p hp
  obtain ⟨d, hd, e2⟩ := g p hp
  exact ⟨j + d, by omega, by rw [e2, e, nI_add]⟩
theorem pBd.le {N M : Nat} {a : Nat → Int32} (h : pBd N a) (hM : N ≤ M) : pBd M a := fun p hp => by
  obtain ⟨j, hj, e⟩ := h p hp
  exact ⟨j, by omega, e⟩
section SI
variable {v : KPV} {nw cp cn : Nat → Int32} {mn : Nat}
theorem sim_rel (hm : mn ≤ 10) (h0 : 0 < mn) (h : pPlan v nw) (e : v.1 = nI mn) (seed : Int64) : ∀ k, (cSim mn seed v k).1 = (rSim mn seed (nw, cp, cn) k).1 ∧ pPlan (cSim mn seed v k).2 (rSim mn seed (nw, cp, cn) k).2.1 ∧ (cSim mn seed v k).2.1 = nI mn ∧ kGrow (22 * k) nw (rSim mn seed (nw, cp, cn) k).2.1 := by
  intro k
  induction k with
  | zero => exact ⟨rfl, h, e, kGrow.same fun _ _ => rfl⟩
  | succ k ih =>
    obtain ⟨i1, i2, i3, i4⟩ := ih
    rw [cSim, rSim, i1]
    obtain ⟨y, hy⟩ : ∃ y, y = (rSim mn seed (nw, cp, cn) k).1 * 6364136223846793005 + 1442695040888963407 := ⟨_, rfl⟩
    rw [← hy]
    have hlt : (kShr y).toNatClampNeg % mn < mn := Nat.mod_lt _ h0
    obtain ⟨c1, c2, c3, _⟩ := call_rel (cp := (rSim mn seed (nw, cp, cn) k).2.2.1) (cn := (rSim mn seed (nw, cp, cn) k).2.2.2) (x := nI ((kShr y).toNatClampNeg / 16 % 201) - 100) i3 hlt (i2.at i3 hm)
    exact ⟨rfl, c3, c2, (i4.trans (callIn_grow _ _ _ _ (by omega))).le (by omega)⟩
theorem sp_rel {u : KPV} {tr : Nat → Int32} {N K : Nat} (hm : mn ≤ 10) (h : pPlan v nw) (e : v.1 = nI mn) (hu : pPlan u tr) (eu : u.1 = nI mn) (hB : pBd N nw) (hg : kGrow K nw tr) (hN : N + K < 2 ^ 30) : ∀ k, k ≤ mn → cSp u v k = rSp tr nw k := by
  intro k
  induction k with
  | zero => intro _; rfl
  | succ k ih =>
    intro hk
    rw [cSp, rSp, ih (by omega), since_eq hm h e hu eu (show k < mn by omega)]
    obtain ⟨j, hj, e1⟩ := hB k (by omega)
    obtain ⟨d, hd, e2⟩ := hg k (by omega)
    rw [e2, e1, nI_add, pk_sub (a := j + d) (b := j) (by omega)]
    by_cases c : d = 0
    · rw [if_pos (show nI (j + d - j) ≤ 0 from (nI_leI (a := j + d - j) (b := 0) (by omega) (by decide)).mpr (by omega)), if_pos (show nI (j + d) ≤ nI j from (nI_leI (by omega) (by omega)).mpr (by omega)), Int32.add_zero]
    · rw [if_neg (show ¬ nI (j + d - j) ≤ 0 from fun q => by have := (nI_leI (a := j + d - j) (b := 0) (by omega) (by decide)).mp q; omega), if_neg (show ¬ nI (j + d) ≤ nI j from fun q => by have := (nI_leI (a := j + d) (b := j) (by omega) (by omega)).mp q; omega)]
theorem ans_simulate {w : KPV} {N : Nat} (h : pPlan v nw) (hB : pBd N nw) (hN : N < 2 ^ 29) {seed : Int64} {m : Int32} (hk : ¬ f_X7_isWithin m 1 99 = 0) : (cSimu seed m v w).1 = (10000 * (((rSim (nw 0).toNatClampNeg seed (nw, cp, cn) (if (nw 0).toNatClampNeg = 0 then 0 else m.toNatClampNeg)).2.1 684) - (nw 684))) + (100 * (((rSim (nw 0).toNatClampNeg seed (nw, cp, cn) (if (nw 0).toNatClampNeg = 0 then 0 else m.toNatClampNeg)).2.1 685) - (nw 685))) + rSp (rSim (nw 0).toNatClampNeg seed (nw, cp, cn) (if (nw 0).toNatClampNeg = 0 then 0 else m.toNatClampNeg)).2.1 nw (nw 0).toNatClampNeg := by
  have hv := h
  obtain ⟨mn, e, R⟩ := h
  have hm := R.1
  obtain ⟨_, m1, m2⟩ := within_N1 (K := 99) (by decide) hk
  unfold cSimu
  rw [R.2.1, e, nI_clamp (n := mn) (by omega)]
  by_cases c : mn = 0
  · subst c
    rw [if_pos (show nI 0 ≤ 0 by decide), if_pos rfl]
    show (0 : Int32) = 10000 * (nw 684 - nw 684) + 100 * (nw 685 - nw 685) + 0
    rw [Int32.sub_self, Int32.sub_self]
    rfl
  · rw [if_neg (show ¬ nI mn ≤ 0 from fun q => by have := (nI_leI (a := mn) (b := 0) (by omega) (by decide)).mp q; omega), if_neg c]
    obtain ⟨i1, i2, i3, i4⟩ := sim_rel (cp := cp) (cn := cn) hm (by omega) hv e seed m.toNatClampNeg
    have S := i2.at i3 hm
    have e1 : v.2.2.2.2.1 = nw 684 := R.2.2.2.2.2.1
    have e2 : v.2.2.2.2.2.1 = nw 685 := R.2.2.2.2.2.2.1
    have e3 : (cSim mn seed v m.toNatClampNeg).2.2.2.2.2.1 = (rSim mn seed (nw, cp, cn) m.toNatClampNeg).2.1 684 := S.2.2.2.2.2.1
    have e4 : (cSim mn seed v m.toNatClampNeg).2.2.2.2.2.2.1 = (rSim mn seed (nw, cp, cn) m.toNatClampNeg).2.1 685 := S.2.2.2.2.2.2.1
    rw [e1, e2, e3, e4, sp_rel hm hv e i2 i3 hB i4 (by omega) mn (Nat.le_refl _)]
end SI
end
