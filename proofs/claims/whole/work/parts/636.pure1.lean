-- THE PURE PART, 1: a call of the reference, told by recursion
noncomputable section
def rEnd1 (caller : Int32) (p : Nat) (rw : Nat → Int32) (v : Int32) : KUp := ((f_X8_ends rw caller p v).2, v, if (f_X8_ends rw caller p v).1 ≤ 0 then 0 else 1)
/-- a part of a chain when the next part's outcome is there -/
def rSt (caller : Int32) (p : Nat) (t : KUp) : KUp :=
  if t.2.2 = 0 then rEnd1 caller p t.1 (f_X8_reckon t.1 p t.2.1)
  else if t.1 (1 + 8 * p + 4) = -10000 then (upd t.1 692 (t.1 692 + 1), t.2.1, t.2.2)
  else rEnd1 caller p (upd (upd (upd t.1 693 1) 685 (t.1 685 + 1)) (1 + 8 * p + 7) (t.1 (1 + 8 * p + 7) + 1)) (t.1 (1 + 8 * p + 4))
/-- a part that was asked (b: whether blamed at once): the row then, the number, whether blamed -/
def rTr : Nat → (Nat → Int32) → Int32 → Nat → Int32 → Int32 → KUp
  | 0, rw, caller, p, x, b => if b = 0 then rEnd1 caller p rw (f_X8_reckon rw p x) else (upd rw 692 (rw 692 + 0), 0, b)
  | f + 1, rw, caller, p, x, b => if b = 0 then (if f_X8_next rw p < 0 then rEnd1 caller p rw (f_X8_reckon rw p x) else rSt caller p (rTr f (f_X8_begins rw (nI p) (f_X8_next rw p).toNatClampNeg (x + rw (1 + 8 * p + 3))).2 (nI p) (f_X8_next rw p).toNatClampNeg (x + rw (1 + 8 * p + 3)) (if (f_X8_begins rw (nI p) (f_X8_next rw p).toNatClampNeg (x + rw (1 + 8 * p + 3))).1 ≤ 0 then 0 else 1))) else (upd rw 692 (rw 692 + 0), 0, b)
theorem rStep_at (lv : Nat) (cp cn : Nat → Int32) (rw : Nat → Int32) (b : Int32) : rStep lv cp cn lv rw 0 b = if b = 0 then rEnd1 (f_X8_callerAt cp lv) (cp lv).toNatClampNeg rw (f_X8_reckon rw (cp lv).toNatClampNeg (cn lv)) else (upd rw 692 (rw 692 + 0), 0, b) := by
  unfold rStep
  by_cases hb : b = 0
  · rw [if_pos hb, if_pos hb, if_pos rfl]; rfl
  · rw [if_neg hb, if_neg hb, if_pos rfl]
theorem rStep_above {lv u : Nat} (h : ¬ u = lv) (cp cn : Nat → Int32) (t : KUp) : rStep lv cp cn u t.1 t.2.1 t.2.2 = rSt (f_X8_callerAt cp u) (cp u).toNatClampNeg t := by
  unfold rStep rSt
  by_cases hb : t.2.2 = 0
  · rw [if_pos hb, if_pos hb, if_neg h]; rfl
  · rw [if_neg hb, if_neg hb, if_neg h]
    by_cases hn : t.1 (1 + 8 * (cp u).toNatClampNeg + 4) = -10000
    · rw [if_pos hn, if_pos hn]
    · rw [if_neg hn, if_neg hn]; rfl
theorem callerAt_s (cp : Nat → Int32) (lv : Nat) : f_X8_callerAt cp (lv + 1) = cp lv := by
  unfold f_X8_callerAt
  rw [if_neg (by omega)]
  rfl
theorem callerAt_same {cp cp2 : Nat → Int32} {lv : Nat} (h : ∀ j, j ≤ lv → cp2 j = cp j) : f_X8_callerAt cp2 lv = f_X8_callerAt cp lv := by
  unfold f_X8_callerAt
  by_cases h0 : lv = 0
  · rw [if_pos h0, if_pos h0]
  · rw [if_neg h0, if_neg h0]; exact h _ (by omega)
theorem rDn_tr : ∀ (f : Nat) (rw : Nat → Int32) (lv : Nat) (cp cn : Nat → Int32) (b : Int32), cp lv = nI (cp lv).toNatClampNeg →
    (∀ j, j ≤ lv → (rDn f rw lv cp cn b).2.2.1 j = cp j) ∧ lv ≤ (rDn f rw lv cp cn b).2.1 ∧
    rUp (rDn f rw lv cp cn b).2.1 (rDn f rw lv cp cn b).2.2.1 (rDn f rw lv cp cn b).2.2.2.1 ((rDn f rw lv cp cn b).2.1 + 1) (rDn f rw lv cp cn b).1 0 (rDn f rw lv cp cn b).2.2.2.2
      = rUp (rDn f rw lv cp cn b).2.1 (rDn f rw lv cp cn b).2.2.1 (rDn f rw lv cp cn b).2.2.2.1 lv (rTr f rw (f_X8_callerAt cp lv) (cp lv).toNatClampNeg (cn lv) b).1 (rTr f rw (f_X8_callerAt cp lv) (cp lv).toNatClampNeg (cn lv) b).2.1 (rTr f rw (f_X8_callerAt cp lv) (cp lv).toNatClampNeg (cn lv) b).2.2 := by
  intro f
  induction f with
  | zero =>
    intro rw lv cp cn b hc
    refine ⟨fun j _ => rfl, Nat.le_refl _, ?_⟩
    show rUp lv cp cn (lv + 1) rw 0 b = _
    rw [rUp, rStep_at]
    rfl
  | succ f ih =>
    intro rw lv cp cn b hc
    by_cases hb : b = 0
    · by_cases hn : f_X8_next rw (cp lv).toNatClampNeg < 0
      · have e : rDn (f + 1) rw lv cp cn b = (rw, lv, cp, cn, b) := by rw [rDn, if_pos hb, if_pos hn]
        have e2 : rTr (f + 1) rw (f_X8_callerAt cp lv) (cp lv).toNatClampNeg (cn lv) b = rEnd1 (f_X8_callerAt cp lv) (cp lv).toNatClampNeg rw (f_X8_reckon rw (cp lv).toNatClampNeg (cn lv)) := by rw [rTr, if_pos hb, if_pos hn]
        rw [e, e2]
        refine ⟨fun j _ => rfl, Nat.le_refl _, ?_⟩
        show rUp lv cp cn (lv + 1) rw 0 b = _
        rw [rUp, rStep_at, if_pos hb]
      · obtain ⟨q, hq⟩ : ∃ q, q = f_X8_next rw (cp lv).toNatClampNeg := ⟨_, rfl⟩
        obtain ⟨y, hy⟩ : ∃ y, y = cn lv + rw (1 + 8 * (cp lv).toNatClampNeg + 3) := ⟨_, rfl⟩
        obtain ⟨B, hB⟩ : ∃ B, B = f_X8_begins rw (nI (cp lv).toNatClampNeg) q.toNatClampNeg y := ⟨_, rfl⟩
        obtain ⟨b2, hb2⟩ : ∃ b2 : Int32, b2 = if B.1 ≤ 0 then 0 else 1 := ⟨_, rfl⟩
        have e : rDn (f + 1) rw lv cp cn b = rDn f B.2 (lv + 1) (upd cp (lv + 1) q) (upd cn (lv + 1) y) b2 := by rw [rDn, if_pos hb, if_neg hn, ← hq, ← hy, ← hB, ← hb2]
        have e2 : rTr (f + 1) rw (f_X8_callerAt cp lv) (cp lv).toNatClampNeg (cn lv) b = rSt (f_X8_callerAt cp lv) (cp lv).toNatClampNeg (rTr f B.2 (nI (cp lv).toNatClampNeg) q.toNatClampNeg y b2) := by rw [rTr, if_pos hb, if_neg hn, ← hq, ← hy, ← hB, ← hb2]
        have hq0 : ¬ q < 0 := by rw [hq]; exact hn
        have h1 : (upd cp (lv + 1) q) (lv + 1) = q := pk_us
        have h2 : (upd cn (lv + 1) y) (lv + 1) = y := pk_us
        have h3 : f_X8_callerAt (upd cp (lv + 1) q) (lv + 1) = nI (cp lv).toNatClampNeg := by rw [callerAt_s, pk_un (by omega)]; exact hc
        have IH := ih B.2 (lv + 1) (upd cp (lv + 1) q) (upd cn (lv + 1) y) b2 (by rw [h1]; exact k_cl hq0)
        rw [h1, h2, h3] at IH
        rw [e, e2]
        obtain ⟨E, hE⟩ : ∃ E, E = rDn f B.2 (lv + 1) (upd cp (lv + 1) q) (upd cn (lv + 1) y) b2 := ⟨_, rfl⟩
        rw [← hE] at IH ⊢
        obtain ⟨T, hT⟩ : ∃ T, T = rTr f B.2 (nI (cp lv).toNatClampNeg) q.toNatClampNeg y b2 := ⟨_, rfl⟩
        rw [← hT] at IH ⊢
        obtain ⟨i1, i2, i3⟩ := IH
        have hsm : ∀ j, j ≤ lv → E.2.2.1 j = cp j := fun j hj => by rw [i1 j (by omega), pk_un (by omega)]
        refine ⟨hsm, by omega, ?_⟩
        rw [i3]
        show rUp E.2.1 E.2.2.1 E.2.2.2.1 (lv + 1) T.1 T.2.1 T.2.2 = _
        rw [rUp, rStep_above (by omega), callerAt_same hsm, hsm lv (Nat.le_refl _)]
    · have e : rDn (f + 1) rw lv cp cn b = (rw, lv, cp, cn, b) := by rw [rDn, if_neg hb]
      have e2 : rTr (f + 1) rw (f_X8_callerAt cp lv) (cp lv).toNatClampNeg (cn lv) b = (upd rw 692 (rw 692 + 0), 0, b) := by rw [rTr, if_neg hb]
      rw [e, e2]
      refine ⟨fun j _ => rfl, Nat.le_refl _, ?_⟩
      show rUp lv cp cn (lv + 1) rw 0 b = _
      rw [rUp, rStep_at, if_neg hb]
/-- a call from outside, by recursion -/
def rCall (rw : Nat → Int32) (pa : Nat) (x : Int32) : KUp := rTr 10 (f_X8_begins (upd rw 682 (rw 682 + 1)) (-10000) pa x).2 (-10000) pa x (if (f_X8_begins (upd rw 682 (rw 682 + 1)) (-10000) pa x).1 ≤ 0 then 0 else 1)
theorem callIn_tr (cp cn rw : Nat → Int32) {pa : Nat} (x : Int32) (hp : pa < 10) :
    (h_X8_callIn cp cn rw pa x).1 = (if (rCall rw pa x).2.2 = 0 then (rCall rw pa x).2.1 else -10000) ∧
    (h_X8_callIn cp cn rw pa x).2.1 = upd (rCall rw pa x).1 684 ((rCall rw pa x).1 684 + (if (rCall rw pa x).2.2 = 0 then 0 else 1)) := by
  have h1 : (upd cp 0 (nI pa)) 0 = nI pa := pk_us
  have h2 : (upd cn 0 x) 0 = x := pk_us
  have h3 : f_X8_callerAt (upd cp 0 (nI pa)) 0 = -10000 := if_pos rfl
  have h4 : (nI pa).toNatClampNeg = pa := nI_clamp (by omega)
  have IH := (rDn_tr 10 (f_X8_begins (upd rw 682 (rw 682 + 1)) (-10000) pa x).2 0 (upd cp 0 (nI pa)) (upd cn 0 x) (if (f_X8_begins (upd rw 682 (rw 682 + 1)) (-10000) pa x).1 ≤ 0 then 0 else 1) (by rw [h1, h4])).2.2
  rw [h1, h2, h3, h4] at IH
  obtain ⟨E, hE⟩ : ∃ E, E = rDN 10 rw cp cn pa x := ⟨_, rfl⟩
  obtain ⟨T, hT⟩ : ∃ T, T = rCall rw pa x := ⟨_, rfl⟩
  have hE' := hE
  have hT' := hT
  unfold rDN at hE'
  unfold rCall at hT'
  rw [← hE', ← hT'] at IH
  have IH2 : rUp E.2.1 E.2.2.1 E.2.2.2.1 (E.2.1 + 1) E.1 0 E.2.2.2.2 = (T.1, T.2.1, T.2.2) := IH
  rw [h_X8_callIn_eq, f_X8_callIn, ← hE, ← hT, IH2]
  by_cases hb : T.2.2 = 0
  · rw [if_pos hb, if_pos hb, if_pos hb]
    exact ⟨rfl, rfl⟩
  · rw [if_neg hb, if_neg hb, if_neg hb]
    exact ⟨rfl, rfl⟩
end
