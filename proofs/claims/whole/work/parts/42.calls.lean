-- MODULE: the reference, a call
def f_X8_callerAt (cp : Nat → Int32) (lv : Nat) : Int32 :=
  if lv = 0 then
    (-10000)
  else
    (cp (lv - 1))
theorem qX8_callerAt_0 : Cond.fieldLink RX8 32 "BlameChainsModel" "chainPart" "[I" ∈ wsX8_callerAt := (List.mem_cons_of_mem _ (List.mem_append_left _ (List.mem_of_getElem? (i := 0) rfl)))
set_option maxHeartbeats 4000000 in
set_option maxRecDepth 100000 in
theorem c_X8_callerAt (l : Launch) (D : va_G) (g : Nat → Nat) (m0 sc0 rd0 nw0 tr0 di0 ke0 ik0 cp0 cn0 be0 : Nat) (sz : Nat) (rf : Int32) (ss : Nat) (sp : Nat) (ig : Int32) (lo : Int32) (ac : Nat) (cp : Nat → Int32) (lv : Nat) (hlv : lv ≤ 9) : kMi l D g yX8_callerAt wsX8_callerAt 1 0 0 [.ref m0, .int (nI lv)] [(m0, .inr (8, [.int rf, .ref sc0, .int (nI ss), .int (nI sp), .int ig, .int lo, .ref rd0, .ref nw0, .ref tr0, .ref di0, .int (nI ac), .ref ke0, .ref ik0, .ref cp0, .ref cn0, .ref be0])), (cp0, .inl (g 0, 10, .inl cp))] sz (f_X8_callerAt cp lv) [(m0, .inr (8, [.int rf, .ref sc0, .int (nI ss), .int (nI sp), .int ig, .int lo, .ref rd0, .ref nw0, .ref tr0, .ref di0, .int (nI ac), .ref ke0, .ref ik0, .ref cp0, .ref cn0, .ref be0])), (cp0, .inl (g 0, 10, .inl cp))] := by
  refine k_enter (nm := "callerAt") (own := RX8) (bytes := cX8_callerAt) (maxL := 2) (ret := (some .int)) (Qf := fun A => kQi D [(m0, .inr (8, [.int rf, .ref sc0, .int (nI ss), .int (nI sp), .int ig, .int lo, .ref rd0, .ref nw0, .ref tr0, .ref di0, .int (nI ac), .ref ke0, .ref ik0, .ref cp0, .ref cn0, .ref be0])), (cp0, .inl (g 0, 10, .inl cp))] A (f_X8_callerAt cp lv)) (by decide) rfl rfl rfl (Nat.le_of_ble_eq_true rfl) ?_
  rintro pp ee s mm below meth cc A ls args Q H locs hQ ⟨hx, hb, hr, hml, hown, hts, hlocks, hin⟩ hP hK hD hA hS hE hl
  have hl : lv_has ls 2 [(0, .ref m0), (1, .int (nI lv))] := hl
  refine lv_iload_n hx hb dX8_callerAt_0 rfl (lv_at hl 1 rfl) ?_
  refine lv_if_ne (tgt := 10) hx hb dX8_callerAt_1 (by decide) (fun c_1 => ?_) (fun c_1 => ?_)
  · have c_1 : ¬ (lv = 0) := fun h9 => c_1 ((nI_eq (a := lv) (b := 0) (by omega) (by omega)).mpr h9)
    refine lv_aload_n hx hb dX8_callerAt_10 rfl (lv_at hl 0 rfl) ?_
    refine va_get (D := D) (ci := 8) (v := .ref cp0) (C := RX8) (T := TX8) (N := 16) hx hb hts (fun w h => (List.mem_cons_of_mem _ (List.mem_append_right _ h))) hown hK hP 0 rfl rfl 13 (by decide) (hts _ qX8_callerAt_0) (fun _ h9 => h9) rfl dX8_callerAt_11 ?_
    refine lv_iload_n hx hb dX8_callerAt_14 rfl (lv_at hl 1 rfl) ?_
    refine lv_iconst (v := 1) hx hb dX8_callerAt_15 (by decide) ?_
    refine lv_isub hx hb dX8_callerAt_16 ?_
    refine k_top (y := (nI (lv - 1))) (pk_sub (a := lv) (b := 1) (by omega)) ?_
    refine va_iald (i := (nI (lv - 1))) hx hb hK hP 1 0 rfl rfl (vp_in_nI (n := (lv - 1)) (by omega) (by omega)) dX8_callerAt_17 ?_
    refine k_top (y := (cp (lv - 1))) (by rw [nI_clamp (by omega)]) ?_
    have hE2 : (f_X8_callerAt cp lv) = (cp (lv - 1)) := by
      exact (if_neg c_1).trans (rfl)
    subst hQ
    exact k_ri hx hb hr hlocks hP hD hS dX8_callerAt_18 (hE2.symm) (rfl)
  · have c_1 : lv = 0 := (nI_eq (a := lv) (b := 0) (by omega) (by omega)).mp c_1
    refine lv_sipush (v := (-10000)) hx hb dX8_callerAt_4 (by decide) ?_
    refine lv_goto (tgt := 18) hx hb dX8_callerAt_7 (by decide) ?_
    have hE2 : (f_X8_callerAt cp lv) = (-10000) := by
      exact (if_pos c_1).trans (rfl)
    subst hQ
    exact k_ri hx hb hr hlocks hP hD hS dX8_callerAt_18 (hE2.symm) (rfl)
/-- what a call never changes of a row: the parts' numbers, the contracts -/
def kFix (i : Nat) : Prop := i = 0 ∨ (1 ≤ i ∧ i < 81 ∧ (i - 1) % 8 < 5) ∨ (81 ≤ i ∧ i < 681)
def kSame (rw rw2 : Nat → Int32) : Prop := ∀ i, kFix i → rw2 i = rw i
theorem kSame.rf {rw : Nat → Int32} : kSame rw rw := fun _ _ => rfl
theorem kSame.trans {a b c : Nat → Int32} (h1 : kSame a b) (h2 : kSame b c) : kSame a c := fun i hi => (h2 i hi).trans (h1 i hi)
theorem kSame.upd {a b : Nat → Int32} {k : Nat} {x : Int32} (h : kSame a b) (hk : ¬ kFix k) : kSame a (upd b k x) := fun i hi => by
  have hne : i ≠ k := fun e => hk (e ▸ hi)
  rw [pk_un hne]
  exact h i hi
theorem shK_same {rw : Nat → Int32} : kSame rw (shK rw 5) := fun i hi => by
  unfold shK
  exact if_neg (fun h => by unfold kFix at hi; omega)
theorem cl10 {caller : Int32} (h : caller = -10000 ∨ ¬ caller < 0 ∧ ¬ 10 ≤ caller) : caller.toNatClampNeg < 10 := by
  rcases h with h | ⟨h1, h2⟩
  · rw [h]; decide
  · exact k_clt (M := 10) (n := 10) (by decide) h1 h2
theorem f_X8_arise_same {rw : Nat → Int32} {kind caller x : Int32} {pa : Nat} (hp : pa < 10) (hc : caller.toNatClampNeg < 10) : kSame rw (f_X8_arise rw kind caller pa x) := by
  unfold f_X8_arise
  repeat' split
  all_goals (repeat' (first | exact shK_same | refine kSame.upd ?_ (by unfold kFix; omega)))
theorem f_X8_begins_same {rw : Nat → Int32} {caller x : Int32} {pa : Nat} (hp : pa < 10) (hc : caller = -10000 ∨ ¬ caller < 0 ∧ ¬ 10 ≤ caller) : kSame rw (f_X8_begins rw caller pa x).2 := by
  have base : ∀ y z : Int32, kSame rw (upd (upd rw 681 y) (1 + 8 * pa + 5) z) := fun y z => (kSame.rf.upd (by unfold kFix; omega)).upd (by unfold kFix; omega)
  unfold f_X8_begins
  repeat' split
  all_goals first | exact base _ _ | exact (base _ _).trans (f_X8_arise_same hp (cl10 hc))
theorem f_X8_ends_same {rw : Nat → Int32} {caller x : Int32} {pa : Nat} (hp : pa < 10) (hc : caller = -10000 ∨ ¬ caller < 0 ∧ ¬ 10 ≤ caller) : kSame rw (f_X8_ends rw caller pa x).2 := by
  unfold f_X8_ends
  repeat' split
  all_goals first | exact kSame.rf | exact f_X8_arise_same hp (cl10 hc)
theorem rNx_same {a b : Nat → Int32} (h : kSame a b) (hR : rNx a) : rNx b := fun q hq => by
  obtain ⟨j, hj, e⟩ := hR q hq
  exact ⟨j, hj, by rw [h _ (by unfold kFix; omega), e]⟩
theorem next_lt {rw : Nat → Int32} (hR : rNx rw) {q : Nat} (hq : q < 10) (h : ¬ f_X8_next rw q < 0) : (f_X8_next rw q).toNatClampNeg < q := by
  obtain ⟨j, hj, e⟩ := hR q hq
  unfold f_X8_next at h ⊢
  rw [e] at h ⊢
  cases j with
  | zero => exact absurd ((k_jm (by omega)).mpr rfl) h
  | succ i =>
    rw [nI_pred, nI_clamp (by omega)]
    omega
abbrev KDn : Type := (Nat → Int32) × Nat × (Nat → Int32) × (Nat → Int32) × Int32
/-- down the chain -/
def rDn : Nat → (Nat → Int32) → Nat → (Nat → Int32) → (Nat → Int32) → Int32 → KDn
  | 0, rw, lv, cp, cn, b => (rw, lv, cp, cn, b)
  | f + 1, rw, lv, cp, cn, b => if b = 0 then (if f_X8_next rw (cp lv).toNatClampNeg < 0 then (rw, lv, cp, cn, b) else rDn f (f_X8_begins rw (nI (cp lv).toNatClampNeg) (f_X8_next rw (cp lv).toNatClampNeg).toNatClampNeg (cn lv + rw (1 + 8 * (cp lv).toNatClampNeg + 3))).2 (lv + 1) (upd cp (lv + 1) (f_X8_next rw (cp lv).toNatClampNeg)) (upd cn (lv + 1) (cn lv + rw (1 + 8 * (cp lv).toNatClampNeg + 3))) (if (f_X8_begins rw (nI (cp lv).toNatClampNeg) (f_X8_next rw (cp lv).toNatClampNeg).toNatClampNeg (cn lv + rw (1 + 8 * (cp lv).toNatClampNeg + 3))).1 ≤ 0 then 0 else 1)) else (rw, lv, cp, cn, b)
/-- the parts of a chain are parts, ever smaller -/
def rOk (lv : Nat) (cp : Nat → Int32) : Prop := (∀ j, j ≤ lv → cp j = nI (cp j).toNatClampNeg ∧ (cp j).toNatClampNeg ≤ 9) ∧ (cp lv).toNatClampNeg + lv ≤ 9
theorem rOk_0 {cp : Nat → Int32} {pa : Nat} (h : pa < 10) : rOk 0 (upd cp 0 (nI pa)) := by
  have e : upd cp 0 (nI pa) 0 = nI pa := pk_us
  refine ⟨fun j hj => ?_, ?_⟩
  · obtain rfl : j = 0 := by omega
    rw [e, nI_clamp (by omega)]
    exact ⟨rfl, by omega⟩
  · rw [e, nI_clamp (by omega)]
    omega
theorem rOk_s {lv : Nat} {cp : Nat → Int32} {y : Int32} (h : rOk lv cp) (h0 : ¬ y < 0) (h1 : y.toNatClampNeg < (cp lv).toNatClampNeg) : rOk (lv + 1) (upd cp (lv + 1) y) := by
  have e : upd cp (lv + 1) y (lv + 1) = y := pk_us
  have h2 := h.2
  refine ⟨fun j hj => ?_, ?_⟩
  · by_cases hj2 : j = lv + 1
    · subst hj2
      rw [e]
      exact ⟨k_cl h0, by omega⟩
    · rw [pk_un hj2]
      exact h.1 j (by omega)
  · rw [e]
    omega
theorem rDn_ok : ∀ (f : Nat) (rw0 rw : Nat → Int32) (lv : Nat) (cp cn : Nat → Int32) (b : Int32), rNx rw0 → kSame rw0 rw → rOk lv cp → kSame rw0 (rDn f rw lv cp cn b).1 ∧ rOk (rDn f rw lv cp cn b).2.1 (rDn f rw lv cp cn b).2.2.1 := by
  intro f
  induction f with
  | zero => intro rw0 rw lv cp cn b h1 h2 h3; exact ⟨h2, h3⟩
  | succ f ih =>
    intro rw0 rw lv cp cn b h1 h2 h3
    rw [rDn]
    by_cases hb : b = 0
    · rw [if_pos hb]
      by_cases hn : f_X8_next rw (cp lv).toNatClampNeg < 0
      · rw [if_pos hn]; exact ⟨h2, h3⟩
      · rw [if_neg hn]
        have h4 := h3.2
        have hl := next_lt (rNx_same h2 h1) (by omega) hn
        exact ih rw0 _ _ _ _ _ h1 (h2.trans (f_X8_begins_same (by omega) (Or.inr ⟨nI_pos (by omega), fun h => by have := (nI_leI (a := 10) (by omega) (by omega)).mp h; omega⟩))) (rOk_s h3 hn hl)
    · rw [if_neg hb]; exact ⟨h2, h3⟩
theorem rDn_b {f : Nat} {rw : Nat → Int32} {lv : Nat} {cp cn : Nat → Int32} {b : Int32} (h : ¬ b = 0) : rDn f rw lv cp cn b = (rw, lv, cp, cn, b) := by
  cases f with
  | zero => rfl
  | succ f => rw [rDn, if_neg h]
theorem rDn_n {f : Nat} {rw : Nat → Int32} {lv : Nat} {cp cn : Nat → Int32} {b : Int32} (h : f_X8_next rw (cp lv).toNatClampNeg < 0) : rDn f rw lv cp cn b = (rw, lv, cp, cn, b) := by
  by_cases hb : b = 0
  · cases f with
    | zero => rfl
    | succ f => rw [rDn, if_pos hb, if_pos h]
  · exact rDn_b hb
theorem rDn_s {f : Nat} {rw : Nat → Int32} {lv : Nat} {cp cn : Nat → Int32} {b b2 : Int32} {r : Int32 × (Nat → Int32)} (hf : 0 < f) (hb : b = 0) (h : ¬ f_X8_next rw (cp lv).toNatClampNeg < 0) (hr : r = f_X8_begins rw (nI (cp lv).toNatClampNeg) (f_X8_next rw (cp lv).toNatClampNeg).toNatClampNeg (cn lv + rw (1 + 8 * (cp lv).toNatClampNeg + 3))) (h2 : (if r.1 ≤ 0 then (0 : Int32) else 1) = b2) : rDn (f - 1) r.2 (lv + 1) (upd cp (lv + 1) (f_X8_next rw (cp lv).toNatClampNeg)) (upd cn (lv + 1) (cn lv + rw (1 + 8 * (cp lv).toNatClampNeg + 3))) b2 = rDn f rw lv cp cn b := by
  obtain ⟨g, rfl⟩ : ∃ g, f = g + 1 := ⟨f - 1, by omega⟩
  rw [rDn, if_pos hb, if_neg h, ← hr, h2]
  rfl
/-- all that a call does on its way down -/
def rDN (fu : Nat) (rw cp cn : Nat → Int32) (pa : Nat) (x : Int32) : KDn := rDn fu (f_X8_begins (upd rw 682 (rw 682 + 1)) (-10000) pa x).2 0 (upd cp 0 (nI pa)) (upd cn 0 x) (if (f_X8_begins (upd rw 682 (rw 682 + 1)) (-10000) pa x).1 ≤ 0 then 0 else 1)
theorem rDN_ok {fu : Nat} {rw cp cn : Nat → Int32} {pa : Nat} {x : Int32} (hR : rNx rw) (hp : pa < 10) : kSame rw (rDN fu rw cp cn pa x).1 ∧ rOk (rDN fu rw cp cn pa x).2.1 (rDN fu rw cp cn pa x).2.2.1 := by
  have h0 : kSame rw (upd rw 682 (rw 682 + 1)) := kSame.rf.upd (by unfold kFix; omega)
  exact rDn_ok fu rw _ _ _ _ _ hR (h0.trans (f_X8_begins_same hp (Or.inl rfl))) (rOk_0 hp)
abbrev KUp : Type := (Nat → Int32) × Int32 × Int32
/-- a number that is given, and looked at -/
def rEnd (cp : Nat → Int32) (u : Nat) (rw : Nat → Int32) (v : Int32) : KUp := ((f_X8_ends rw (f_X8_callerAt cp u) (cp u).toNatClampNeg v).2, v, if (f_X8_ends rw (f_X8_callerAt cp u) (cp u).toNatClampNeg v).1 ≤ 0 then 0 else 1)
/-- one part on the way up -/
def rStep (lv : Nat) (cp cn : Nat → Int32) (u : Nat) (rw : Nat → Int32) (v b : Int32) : KUp :=
  if b = 0 then (if u = lv then rEnd cp u rw (f_X8_reckon rw (cp u).toNatClampNeg (cn u)) else rEnd cp u rw (f_X8_reckon rw (cp u).toNatClampNeg v))
  else if u = lv then (upd rw 692 (rw 692 + 0), v, b)
  else if rw (1 + 8 * (cp u).toNatClampNeg + 4) = -10000 then (upd rw 692 (rw 692 + 1), v, b)
  else rEnd cp u (upd (upd (upd rw 693 1) 685 (rw 685 + 1)) (1 + 8 * (cp u).toNatClampNeg + 7) (rw (1 + 8 * (cp u).toNatClampNeg + 7) + 1)) (rw (1 + 8 * (cp u).toNatClampNeg + 4))
def rUp (lv : Nat) (cp cn : Nat → Int32) : Nat → (Nat → Int32) → Int32 → Int32 → KUp
  | 0, rw, v, b => (rw, v, b)
  | u + 1, rw, v, b => rUp lv cp cn u (rStep lv cp cn u rw v b).1 (rStep lv cp cn u rw v b).2.1 (rStep lv cp cn u rw v b).2.2
theorem rUp_s {lv u : Nat} {cp cn rw rw2 : Nat → Int32} {v v2 b b2 : Int32} (hu : 0 < u) (h : rStep lv cp cn (u - 1) rw v b = (rw2, v2, b2)) : rUp lv cp cn (u - 1) rw2 v2 b2 = rUp lv cp cn u rw v b := by
  obtain ⟨w, rfl⟩ : ∃ w, u = w + 1 := ⟨u - 1, by omega⟩
  rw [rUp, show w = w + 1 - 1 by omega, h]
  rfl
theorem callerAt_ok {lv u : Nat} {cp : Nat → Int32} (h : rOk lv cp) (hu : u ≤ lv) : f_X8_callerAt cp u = -10000 ∨ ¬ f_X8_callerAt cp u < 0 ∧ ¬ 10 ≤ f_X8_callerAt cp u := by
  unfold f_X8_callerAt
  by_cases h0 : u = 0
  · left; rw [if_pos h0]
  · right
    rw [if_neg h0, (h.1 (u - 1) (by omega)).1]
    have h9 := (h.1 (u - 1) (by omega)).2
    exact ⟨nI_pos (by omega), fun h => by have := (nI_leI (a := 10) (by omega) (by omega)).mp h; omega⟩
theorem rEnd_same {cp : Nat → Int32} {lv u : Nat} {rw0 rw : Nat → Int32} {v : Int32} (h : rOk lv cp) (hu : u ≤ lv) (hs : kSame rw0 rw) : kSame rw0 (rEnd cp u rw v).1 :=
  hs.trans (f_X8_ends_same (by have := (h.1 u hu).2; omega) (callerAt_ok h hu))
def f_X8_callIn (cp : Nat → Int32) (cn : Nat → Int32) (rw : Nat → Int32) (pa : Nat) (x : Int32) : Int32 × (Nat → Int32) × (Nat → Int32) × (Nat → Int32) :=
  if (rUp (rDN 10 rw cp cn pa x).2.1 (rDN 10 rw cp cn pa x).2.2.1 (rDN 10 rw cp cn pa x).2.2.2.1 ((rDN 10 rw cp cn pa x).2.1 + 1) (rDN 10 rw cp cn pa x).1 0 (rDN 10 rw cp cn pa x).2.2.2.2).2.2 = 0 then
    ((rUp (rDN 10 rw cp cn pa x).2.1 (rDN 10 rw cp cn pa x).2.2.1 (rDN 10 rw cp cn pa x).2.2.2.1 ((rDN 10 rw cp cn pa x).2.1 + 1) (rDN 10 rw cp cn pa x).1 0 (rDN 10 rw cp cn pa x).2.2.2.2).2.1, (upd (rUp (rDN 10 rw cp cn pa x).2.1 (rDN 10 rw cp cn pa x).2.2.1 (rDN 10 rw cp cn pa x).2.2.2.1 ((rDN 10 rw cp cn pa x).2.1 + 1) (rDN 10 rw cp cn pa x).1 0 (rDN 10 rw cp cn pa x).2.2.2.2).1 684 (((rUp (rDN 10 rw cp cn pa x).2.1 (rDN 10 rw cp cn pa x).2.2.1 (rDN 10 rw cp cn pa x).2.2.2.1 ((rDN 10 rw cp cn pa x).2.1 + 1) (rDN 10 rw cp cn pa x).1 0 (rDN 10 rw cp cn pa x).2.2.2.2).1 684) + 0)), (rDN 10 rw cp cn pa x).2.2.1, (rDN 10 rw cp cn pa x).2.2.2.1)
  else
    ((-10000), (upd (rUp (rDN 10 rw cp cn pa x).2.1 (rDN 10 rw cp cn pa x).2.2.1 (rDN 10 rw cp cn pa x).2.2.2.1 ((rDN 10 rw cp cn pa x).2.1 + 1) (rDN 10 rw cp cn pa x).1 0 (rDN 10 rw cp cn pa x).2.2.2.2).1 684 (((rUp (rDN 10 rw cp cn pa x).2.1 (rDN 10 rw cp cn pa x).2.2.1 (rDN 10 rw cp cn pa x).2.2.2.1 ((rDN 10 rw cp cn pa x).2.1 + 1) (rDN 10 rw cp cn pa x).1 0 (rDN 10 rw cp cn pa x).2.2.2.2).1 684) + 1)), (rDN 10 rw cp cn pa x).2.2.1, (rDN 10 rw cp cn pa x).2.2.2.1)
theorem qX8_callIn_0 : Cond.fieldLink RX8 32 "BlameChainsModel" "chainPart" "[I" ∈ wsX8_callIn := (List.mem_cons_of_mem _ (List.mem_append_left _ (List.mem_append_left _ (List.mem_of_getElem? (i := 0) rfl))))
theorem qX8_callIn_1 : Cond.fieldLink RX8 35 "BlameChainsModel" "chainNumber" "[I" ∈ wsX8_callIn := (List.mem_cons_of_mem _ (List.mem_append_left _ (List.mem_append_left _ (List.mem_of_getElem? (i := 1) rfl))))
set_option maxHeartbeats 40000000 in
set_option maxRecDepth 100000 in
theorem c_X8_callIn (l : Launch) (D : va_G) (g : Nat → Nat) (m0 r0 sc0 rd0 nw0 tr0 di0 ke0 ik0 cp0 cn0 be0 : Nat) (sz : Nat) (rf : Int32) (ss : Nat) (sp : Nat) (ig : Int32) (lo : Int32) (ac : Nat) (cp : Nat → Int32) (cn : Nat → Int32) (rw : Nat → Int32) (pa : Nat) (x : Int32) (hpa : pa < 10) (hR : rNx rw) : kMi l D g yX8_callIn wsX8_callIn 5 0 0 [.ref m0, .ref r0, .int (nI pa), .int x] [(m0, .inr (8, [.int rf, .ref sc0, .int (nI ss), .int (nI sp), .int ig, .int lo, .ref rd0, .ref nw0, .ref tr0, .ref di0, .int (nI ac), .ref ke0, .ref ik0, .ref cp0, .ref cn0, .ref be0])), (cp0, .inl (g 0, 10, .inl cp)), (cn0, .inl (g 0, 10, .inl cn)), (r0, .inl (g 0, 748, .inl rw))] sz ((f_X8_callIn cp cn rw pa x).1) [(m0, .inr (8, [.int rf, .ref sc0, .int (nI ss), .int (nI sp), .int ig, .int lo, .ref rd0, .ref nw0, .ref tr0, .ref di0, .int (nI ac), .ref ke0, .ref ik0, .ref cp0, .ref cn0, .ref be0])), (cp0, .inl (g 0, 10, .inl ((f_X8_callIn cp cn rw pa x).2.2.1))), (cn0, .inl (g 0, 10, .inl ((f_X8_callIn cp cn rw pa x).2.2.2))), (r0, .inl (g 0, 748, .inl ((f_X8_callIn cp cn rw pa x).2.1)))] := by
  refine k_enter (nm := "callIn") (own := RX8) (bytes := cX8_callIn) (maxL := 10) (ret := (some .int)) (Qf := fun A => kQi D [(m0, .inr (8, [.int rf, .ref sc0, .int (nI ss), .int (nI sp), .int ig, .int lo, .ref rd0, .ref nw0, .ref tr0, .ref di0, .int (nI ac), .ref ke0, .ref ik0, .ref cp0, .ref cn0, .ref be0])), (cp0, .inl (g 0, 10, .inl ((f_X8_callIn cp cn rw pa x).2.2.1))), (cn0, .inl (g 0, 10, .inl ((f_X8_callIn cp cn rw pa x).2.2.2))), (r0, .inl (g 0, 748, .inl ((f_X8_callIn cp cn rw pa x).2.1)))] A ((f_X8_callIn cp cn rw pa x).1)) (by decide) rfl rfl rfl (Nat.le_of_ble_eq_true rfl) ?_
  rintro pp ee s mm below meth cc A ls args Q H locs hQ ⟨hx, hb, hr, hml, hown, hts, hlocks, hin⟩ hP hK hD hA hS hE hl
  have hl : lv_has ls 10 [(0, .ref m0), (1, .ref r0), (2, .int (nI pa)), (3, .int x)] := hl
  obtain ⟨dn_1000, hdn⟩ : ∃ z, z = (rDN 10 rw cp cn pa x) := ⟨_, rfl⟩
  refine lv_aload_n hx hb dX8_callIn_0 rfl (lv_at hl 1 rfl) ?_
  refine lv_sipush (v := 682) hx hb dX8_callIn_1 (by decide) ?_
  refine lv_dup2_11 hx hb dX8_callIn_4 rfl rfl ?_
  refine va_iald (i := 682) hx hb hK hP 3 0 rfl rfl (vp_in_nI (n := 682) (by decide) (by decide)) dX8_callIn_5 ?_
  refine k_top (y := (rw 682)) rfl ?_
  refine lv_iconst (v := 1) hx hb dX8_callIn_6 (by decide) ?_
  refine lv_iadd hx hb dX8_callIn_7 ?_
  refine va_iast (i := 682) (x := ((rw 682) + 1)) hx hb hK hP hD hS 3 0 rfl rfl (vp_in_nI (n := 682) (by decide) (by decide)) dX8_callIn_8 (fun H locs hP hD hS => ?_)
  have hP : va_P D vwCl [(m0, .inr (8, [.int rf, .ref sc0, .int (nI ss), .int (nI sp), .int ig, .int lo, .ref rd0, .ref nw0, .ref tr0, .ref di0, .int (nI ac), .ref ke0, .ref ik0, .ref cp0, .ref cn0, .ref be0])), (cp0, .inl (g 0, 10, .inl cp)), (cn0, .inl (g 0, 10, .inl cn)), (r0, .inl (g 0, 748, .inl (upd rw 682 ((rw 682) + 1))))] H := hP
  have hD : va_D A [(m0, .inr (8, [.int rf, .ref sc0, .int (nI ss), .int (nI sp), .int ig, .int lo, .ref rd0, .ref nw0, .ref tr0, .ref di0, .int (nI ac), .ref ke0, .ref ik0, .ref cp0, .ref cn0, .ref be0])), (cp0, .inl (g 0, 10, .inl cp)), (cn0, .inl (g 0, 10, .inl cn)), (r0, .inl (g 0, 748, .inl (upd rw 682 ((rw 682) + 1))))] := hD
  refine lv_iconst (v := 0) hx hb dX8_callIn_9 (by decide) ?_
  refine lv_istore (lv' := [(4, .int 0), (0, .ref m0), (1, .ref r0), (2, .int (nI pa)), (3, .int x)]) hx hb dX8_callIn_10 hl (by decide) rfl (fun ls hl => ?_)
  refine lv_aload_n hx hb dX8_callIn_12 rfl (lv_at hl 1 rfl) ?_
  refine va_get (D := D) (ci := 8) (v := .ref cp0) (C := RX8) (T := TX8) (N := 16) hx hb hts (fun w h => (List.mem_cons_of_mem _ (List.mem_append_right _ h))) hown hK hP 0 rfl rfl 13 (by decide) (hts _ qX8_callIn_0) (fun _ h9 => h9) rfl dX8_callIn_13 ?_
  refine lv_iconst (v := 0) hx hb dX8_callIn_16 (by decide) ?_
  refine lv_iload_n hx hb dX8_callIn_17 rfl (lv_at hl 3 rfl) ?_
  refine va_iast (i := 0) (x := (nI pa)) hx hb hK hP hD hS 1 0 rfl rfl (vp_in_nI (n := 0) (by decide) (by decide)) dX8_callIn_18 (fun H locs hP hD hS => ?_)
  have hP : va_P D vwCl [(m0, .inr (8, [.int rf, .ref sc0, .int (nI ss), .int (nI sp), .int ig, .int lo, .ref rd0, .ref nw0, .ref tr0, .ref di0, .int (nI ac), .ref ke0, .ref ik0, .ref cp0, .ref cn0, .ref be0])), (cp0, .inl (g 0, 10, .inl (upd cp 0 (nI pa)))), (cn0, .inl (g 0, 10, .inl cn)), (r0, .inl (g 0, 748, .inl (upd rw 682 ((rw 682) + 1))))] H := hP
  have hD : va_D A [(m0, .inr (8, [.int rf, .ref sc0, .int (nI ss), .int (nI sp), .int ig, .int lo, .ref rd0, .ref nw0, .ref tr0, .ref di0, .int (nI ac), .ref ke0, .ref ik0, .ref cp0, .ref cn0, .ref be0])), (cp0, .inl (g 0, 10, .inl (upd cp 0 (nI pa)))), (cn0, .inl (g 0, 10, .inl cn)), (r0, .inl (g 0, 748, .inl (upd rw 682 ((rw 682) + 1))))] := hD
  refine lv_aload_n hx hb dX8_callIn_19 rfl (lv_at hl 1 rfl) ?_
  refine va_get (D := D) (ci := 8) (v := .ref cn0) (C := RX8) (T := TX8) (N := 16) hx hb hts (fun w h => (List.mem_cons_of_mem _ (List.mem_append_right _ h))) hown hK hP 0 rfl rfl 14 (by decide) (hts _ qX8_callIn_1) (fun _ h9 => h9) rfl dX8_callIn_20 ?_
  refine lv_iconst (v := 0) hx hb dX8_callIn_23 (by decide) ?_
  refine lv_iload_n hx hb dX8_callIn_24 rfl (lv_at hl 4 rfl) ?_
  refine va_iast (i := 0) (x := x) hx hb hK hP hD hS 2 0 rfl rfl (vp_in_nI (n := 0) (by decide) (by decide)) dX8_callIn_25 (fun H locs hP hD hS => ?_)
  have hP : va_P D vwCl [(m0, .inr (8, [.int rf, .ref sc0, .int (nI ss), .int (nI sp), .int ig, .int lo, .ref rd0, .ref nw0, .ref tr0, .ref di0, .int (nI ac), .ref ke0, .ref ik0, .ref cp0, .ref cn0, .ref be0])), (cp0, .inl (g 0, 10, .inl (upd cp 0 (nI pa)))), (cn0, .inl (g 0, 10, .inl (upd cn 0 x))), (r0, .inl (g 0, 748, .inl (upd rw 682 ((rw 682) + 1))))] H := hP
  have hD : va_D A [(m0, .inr (8, [.int rf, .ref sc0, .int (nI ss), .int (nI sp), .int ig, .int lo, .ref rd0, .ref nw0, .ref tr0, .ref di0, .int (nI ac), .ref ke0, .ref ik0, .ref cp0, .ref cn0, .ref be0])), (cp0, .inl (g 0, 10, .inl (upd cp 0 (nI pa)))), (cn0, .inl (g 0, 10, .inl (upd cn 0 x))), (r0, .inl (g 0, 748, .inl (upd rw 682 ((rw 682) + 1))))] := hD
  refine lv_aload_n hx hb dX8_callIn_26 rfl (lv_at hl 2 rfl) ?_
  refine lv_sipush (v := (-10000)) hx hb dX8_callIn_27 (by decide) ?_
  refine lv_iload_n hx hb dX8_callIn_30 rfl (lv_at hl 3 rfl) ?_
  refine lv_iload_n hx hb dX8_callIn_31 rfl (lv_at hl 4 rfl) ?_
  have hC := c_X8_begins l D g r0 H.size (upd rw 682 ((rw 682) + 1)) (-10000) pa x (by omega) (Or.inl rfl)
  obtain ⟨v_1, ev_1⟩ : ∃ z, z = (f_X8_begins (upd rw 682 ((rw 682) + 1)) (-10000) pa x) := ⟨_, rfl⟩
  rw [← ev_1] at hC
  refine k_ai (wr := [(m0, .inr (8, [.int rf, .ref sc0, .int (nI ss), .int (nI sp), .int ig, .int lo, .ref rd0, .ref nw0, .ref tr0, .ref di0, .int (nI ac), .ref ke0, .ref ik0, .ref cp0, .ref cn0, .ref be0])), (cp0, .inl (g 0, 10, .inl (upd cp 0 (nI pa)))), (cn0, .inl (g 0, 10, .inl (upd cn 0 x)))]) (w2 := [(m0, .inr (8, [.int rf, .ref sc0, .int (nI ss), .int (nI sp), .int ig, .int lo, .ref rd0, .ref nw0, .ref tr0, .ref di0, .int (nI ac), .ref ke0, .ref ik0, .ref cp0, .ref cn0, .ref be0])), (cp0, .inl (g 0, 10, .inl (upd cp 0 (nI pa)))), (cn0, .inl (g 0, 10, .inl (upd cn 0 x))), (r0, .inl (g 0, 748, .inl v_1.2))]) (va_runS (As := [.ref r0, .int (-10000), .int (nI pa), .int x]) (rest := []) ⟨hx, hb, hml, hown, hts⟩ hC (va_cwS 4 hts gX8_callIn_X8_begins rfl rfl rfl (by decide +kernel) (k_lvl (by omega) (by decide))) (kPS hP hD hK hS hA hE [3] rfl (by decide)) rfl rfl hl.1 rfl (lv_room (Nat.le_of_ble_eq_true rfl)) dX8_callIn_32 ⟨Nat.le_of_ble_eq_true rfl, Nat.le_of_ble_eq_true rfl⟩) hP hD hS hA [3] [0, 1, 2] [0, 1, 2, 3] rfl rfl (by decide) (by decide) rfl (by decide) (fun H locs hP hD hS => ?_)
  have hjoin_45 : ∀ (b0_1200 : Int32) (hb0 : b0_1200 = (if v_1.1 ≤ 0 then (0 : Int32) else 1)) (H : Heap) (locs : List Loc) (ls : Array Slot), va_P D vwCl [(m0, .inr (8, [.int rf, .ref sc0, .int (nI ss), .int (nI sp), .int ig, .int lo, .ref rd0, .ref nw0, .ref tr0, .ref di0, .int (nI ac), .ref ke0, .ref ik0, .ref cp0, .ref cn0, .ref be0])), (cp0, .inl (g 0, 10, .inl (upd cp 0 (nI pa)))), (cn0, .inl (g 0, 10, .inl (upd cn 0 x))), (r0, .inl (g 0, 748, .inl v_1.2))] H → va_D A [(m0, .inr (8, [.int rf, .ref sc0, .int (nI ss), .int (nI sp), .int ig, .int lo, .ref rd0, .ref nw0, .ref tr0, .ref di0, .int (nI ac), .ref ke0, .ref ik0, .ref cp0, .ref cn0, .ref be0])), (cp0, .inl (g 0, 10, .inl (upd cp 0 (nI pa)))), (cn0, .inl (g 0, 10, .inl (upd cn 0 x))), (r0, .inl (g 0, 748, .inl v_1.2))] → va_S A s.heap H locs → lv_has ls 10 [(5, .int b0_1200), (4, .int 0), (0, .ref m0), (1, .ref r0), (2, .int (nI pa)), (3, .int x)] → W pp l ee (kR 5 0 0) s mm args below meth cc H locs 0 0 Q (F0 mm 45 ls []) := by
    intro b0_1200 hb0 H locs ls hP hD hS hl
    have hcont_45 : ∀ (l8_1500 : Nat) (hl8 : l8_1500 = dn_1000.2.1) (H : Heap) (locs : List Loc) (ls : Array Slot), va_P D vwCl [(m0, .inr (8, [.int rf, .ref sc0, .int (nI ss), .int (nI sp), .int ig, .int lo, .ref rd0, .ref nw0, .ref tr0, .ref di0, .int (nI ac), .ref ke0, .ref ik0, .ref cp0, .ref cn0, .ref be0])), (cp0, .inl (g 0, 10, .inl dn_1000.2.2.1)), (cn0, .inl (g 0, 10, .inl dn_1000.2.2.2.1)), (r0, .inl (g 0, 748, .inl dn_1000.1))] H → va_D A [(m0, .inr (8, [.int rf, .ref sc0, .int (nI ss), .int (nI sp), .int ig, .int lo, .ref rd0, .ref nw0, .ref tr0, .ref di0, .int (nI ac), .ref ke0, .ref ik0, .ref cp0, .ref cn0, .ref be0])), (cp0, .inl (g 0, 10, .inl dn_1000.2.2.1)), (cn0, .inl (g 0, 10, .inl dn_1000.2.2.2.1)), (r0, .inl (g 0, 748, .inl dn_1000.1))] → va_S A s.heap H locs → lv_has ls 10 [(5, .int dn_1000.2.2.2.2), (4, .int (nI l8_1500)), (0, .ref m0), (1, .ref r0), (2, .int (nI pa)), (3, .int x)] → W pp l ee (kR 5 0 0) s mm args below meth cc H locs 0 0 Q (F0 mm 144 ls []) := by
      intro l8_1500 hl8 H locs ls hP hD hS hl
      obtain ⟨up_2000, hup⟩ : ∃ z, z = (rUp l8_1500 dn_1000.2.2.1 dn_1000.2.2.2.1 (l8_1500 + 1) dn_1000.1 0 dn_1000.2.2.2.2) := ⟨_, rfl⟩
      have hso9 := rDN_ok (fu := 10) (cp := cp) (cn := cn) (x := x) hR hpa
      rw [← hdn, ← hl8] at hso9
      obtain ⟨hs9, hok9⟩ := hso9
      have hlv9 : l8_1500 ≤ 9 := by have := hok9.2; omega
      refine lv_iconst (v := 0) hx hb dX8_callIn_144 (by decide) ?_
      refine lv_istore (lv' := [(6, .int 0), (5, .int dn_1000.2.2.2.2), (4, .int (nI l8_1500)), (0, .ref m0), (1, .ref r0), (2, .int (nI pa)), (3, .int x)]) hx hb dX8_callIn_145 hl (by decide) rfl (fun ls hl => ?_)
      refine lv_iload hx hb dX8_callIn_147 (lv_at hl 2 rfl) ?_
      refine k_top (y := (nI (l8_1500 + 1) - 1)) (nI_pred _).symm ?_
      refine lv_istore (lv' := [(7, .int (nI (l8_1500 + 1) - 1)), (6, .int 0), (5, .int dn_1000.2.2.2.2), (4, .int (nI l8_1500)), (0, .ref m0), (1, .ref r0), (2, .int (nI pa)), (3, .int x)]) hx hb dX8_callIn_149 hl (by decide) rfl (fun ls hl => ?_)
      have hcont_151 : ∀ (H : Heap) (locs : List Loc) (ls : Array Slot), va_P D vwCl [(m0, .inr (8, [.int rf, .ref sc0, .int (nI ss), .int (nI sp), .int ig, .int lo, .ref rd0, .ref nw0, .ref tr0, .ref di0, .int (nI ac), .ref ke0, .ref ik0, .ref cp0, .ref cn0, .ref be0])), (cp0, .inl (g 0, 10, .inl dn_1000.2.2.1)), (cn0, .inl (g 0, 10, .inl dn_1000.2.2.2.1)), (r0, .inl (g 0, 748, .inl up_2000.1))] H → va_D A [(m0, .inr (8, [.int rf, .ref sc0, .int (nI ss), .int (nI sp), .int ig, .int lo, .ref rd0, .ref nw0, .ref tr0, .ref di0, .int (nI ac), .ref ke0, .ref ik0, .ref cp0, .ref cn0, .ref be0])), (cp0, .inl (g 0, 10, .inl dn_1000.2.2.1)), (cn0, .inl (g 0, 10, .inl dn_1000.2.2.2.1)), (r0, .inl (g 0, 748, .inl up_2000.1))] → va_S A s.heap H locs → lv_has ls 10 [(6, .int up_2000.2.1), (5, .int up_2000.2.2), (0, .ref m0), (1, .ref r0)] → W pp l ee (kR 5 0 0) s mm args below meth cc H locs 0 0 Q (F0 mm 329 ls []) := by
        intro H locs ls hP hD hS hl
        refine lv_aload_n hx hb dX8_callIn_329 rfl (lv_at hl 3 rfl) ?_
        refine lv_sipush (v := 684) hx hb dX8_callIn_330 (by decide) ?_
        refine lv_dup2_11 hx hb dX8_callIn_333 rfl rfl ?_
        refine va_iald (i := 684) hx hb hK hP 3 0 rfl rfl (vp_in_nI (n := 684) (by decide) (by decide)) dX8_callIn_334 ?_
        refine k_top (y := (up_2000.1 684)) rfl ?_
        refine lv_iload hx hb dX8_callIn_335 (lv_at hl 1 rfl) ?_
        refine lv_if_eq (tgt := 344) hx hb dX8_callIn_337 (by decide) (fun c_2 => ?_) (fun c_2 => ?_)
        · refine lv_iconst (v := 0) hx hb dX8_callIn_344 (by decide) ?_
          refine lv_iadd hx hb dX8_callIn_345 ?_
          refine va_iast (i := 684) (x := ((up_2000.1 684) + 0)) hx hb hK hP hD hS 3 0 rfl rfl (vp_in_nI (n := 684) (by decide) (by decide)) dX8_callIn_346 (fun H locs hP hD hS => ?_)
          have hP : va_P D vwCl [(m0, .inr (8, [.int rf, .ref sc0, .int (nI ss), .int (nI sp), .int ig, .int lo, .ref rd0, .ref nw0, .ref tr0, .ref di0, .int (nI ac), .ref ke0, .ref ik0, .ref cp0, .ref cn0, .ref be0])), (cp0, .inl (g 0, 10, .inl dn_1000.2.2.1)), (cn0, .inl (g 0, 10, .inl dn_1000.2.2.2.1)), (r0, .inl (g 0, 748, .inl (upd up_2000.1 684 ((up_2000.1 684) + 0))))] H := hP
          have hD : va_D A [(m0, .inr (8, [.int rf, .ref sc0, .int (nI ss), .int (nI sp), .int ig, .int lo, .ref rd0, .ref nw0, .ref tr0, .ref di0, .int (nI ac), .ref ke0, .ref ik0, .ref cp0, .ref cn0, .ref be0])), (cp0, .inl (g 0, 10, .inl dn_1000.2.2.1)), (cn0, .inl (g 0, 10, .inl dn_1000.2.2.2.1)), (r0, .inl (g 0, 748, .inl (upd up_2000.1 684 ((up_2000.1 684) + 0))))] := hD
          refine lv_iload hx hb dX8_callIn_347 (lv_at hl 1 rfl) ?_
          refine lv_if_eq (tgt := 358) hx hb dX8_callIn_349 (by decide) (fun _ => ?_) (fun c_3 => absurd c_2 c_3)
          refine lv_iload hx hb dX8_callIn_358 (lv_at hl 0 rfl) ?_
          have hE2 : (f_X8_callIn cp cn rw pa x) = (up_2000.2.1, (upd up_2000.1 684 ((up_2000.1 684) + 0)), dn_1000.2.2.1, dn_1000.2.2.2.1) := by
            subst hup
            subst hl8
            subst hb0
            subst ev_1
            subst hdn
            exact (if_pos c_2).trans (rfl)
          subst hQ
          exact k_ri hx hb hr hlocks hP hD hS dX8_callIn_360 (by rw [hE2]) (by rw [hE2])
        · refine lv_iconst (v := 1) hx hb dX8_callIn_340 (by decide) ?_
          refine lv_goto (tgt := 345) hx hb dX8_callIn_341 (by decide) ?_
          refine lv_iadd hx hb dX8_callIn_345 ?_
          refine va_iast (i := 684) (x := ((up_2000.1 684) + 1)) hx hb hK hP hD hS 3 0 rfl rfl (vp_in_nI (n := 684) (by decide) (by decide)) dX8_callIn_346 (fun H locs hP hD hS => ?_)
          have hP : va_P D vwCl [(m0, .inr (8, [.int rf, .ref sc0, .int (nI ss), .int (nI sp), .int ig, .int lo, .ref rd0, .ref nw0, .ref tr0, .ref di0, .int (nI ac), .ref ke0, .ref ik0, .ref cp0, .ref cn0, .ref be0])), (cp0, .inl (g 0, 10, .inl dn_1000.2.2.1)), (cn0, .inl (g 0, 10, .inl dn_1000.2.2.2.1)), (r0, .inl (g 0, 748, .inl (upd up_2000.1 684 ((up_2000.1 684) + 1))))] H := hP
          have hD : va_D A [(m0, .inr (8, [.int rf, .ref sc0, .int (nI ss), .int (nI sp), .int ig, .int lo, .ref rd0, .ref nw0, .ref tr0, .ref di0, .int (nI ac), .ref ke0, .ref ik0, .ref cp0, .ref cn0, .ref be0])), (cp0, .inl (g 0, 10, .inl dn_1000.2.2.1)), (cn0, .inl (g 0, 10, .inl dn_1000.2.2.2.1)), (r0, .inl (g 0, 748, .inl (upd up_2000.1 684 ((up_2000.1 684) + 1))))] := hD
          refine lv_iload hx hb dX8_callIn_347 (lv_at hl 1 rfl) ?_
          refine lv_if_eq (tgt := 358) hx hb dX8_callIn_349 (by decide) (fun c_4 => absurd c_4 c_2) (fun _ => ?_)
          refine lv_sipush (v := (-10000)) hx hb dX8_callIn_352 (by decide) ?_
          refine lv_goto (tgt := 360) hx hb dX8_callIn_355 (by decide) ?_
          have hE2 : (f_X8_callIn cp cn rw pa x) = ((-10000), (upd up_2000.1 684 ((up_2000.1 684) + 1)), dn_1000.2.2.1, dn_1000.2.2.2.1) := by
            subst hup
            subst hl8
            subst hb0
            subst ev_1
            subst hdn
            exact (if_neg c_2).trans (rfl)
          subst hQ
          exact k_ri hx hb hr hlocks hP hD hS dX8_callIn_360 (by rw [hE2]) (by rw [hE2])
      have hloop_151 : ∀ (nn_151 : Nat) (u : Nat) (rc : Nat → Int32) (v9 : Int32) (b9 : Int32), u < nn_151 → ∀ (hu : u ≤ l8_1500 + 1) (h1 : kSame rw rc) (hr9 : rUp l8_1500 dn_1000.2.2.1 dn_1000.2.2.2.1 u rc v9 b9 = up_2000) (H : Heap) (locs : List Loc) (ls : Array Slot), va_P D vwCl [(m0, .inr (8, [.int rf, .ref sc0, .int (nI ss), .int (nI sp), .int ig, .int lo, .ref rd0, .ref nw0, .ref tr0, .ref di0, .int (nI ac), .ref ke0, .ref ik0, .ref cp0, .ref cn0, .ref be0])), (cp0, .inl (g 0, 10, .inl dn_1000.2.2.1)), (cn0, .inl (g 0, 10, .inl dn_1000.2.2.2.1)), (r0, .inl (g 0, 748, .inl rc))] H → va_D A [(m0, .inr (8, [.int rf, .ref sc0, .int (nI ss), .int (nI sp), .int ig, .int lo, .ref rd0, .ref nw0, .ref tr0, .ref di0, .int (nI ac), .ref ke0, .ref ik0, .ref cp0, .ref cn0, .ref be0])), (cp0, .inl (g 0, 10, .inl dn_1000.2.2.1)), (cn0, .inl (g 0, 10, .inl dn_1000.2.2.2.1)), (r0, .inl (g 0, 748, .inl rc))] → va_S A s.heap H locs → lv_has ls 10 [(7, .int (nI u - 1)), (6, .int v9), (5, .int b9), (4, .int (nI l8_1500)), (0, .ref m0), (1, .ref r0)] → W pp l ee (kR 5 0 0) s mm args below meth cc H locs 0 0 Q (F0 mm 151 ls []) := by
        intro nn_151
        induction nn_151 with
        | zero => intro u rc v9 b9 hm9; exact absurd hm9 (Nat.not_lt_zero _)
        | succ nn_151 ih_151 =>
          intro u rc v9 b9 hm_151 hu h1 hr9 H locs ls hP hD hS hl
          refine lv_iload hx hb dX8_callIn_151 (lv_at hl 0 rfl) ?_
          refine lv_if_lt (tgt := 329) hx hb dX8_callIn_153 (by decide) (fun c_5 => ?_) (fun c_5 => ?_)
          · obtain rfl : u = 0 := (k_jm (by omega)).mp c_5
            have h9 := hr9
            rw [rUp] at h9
            have e1 : rc = up_2000.1 := by rw [← h9]
            have e2 : v9 = up_2000.2.1 := by rw [← h9]
            have e3 : b9 = up_2000.2.2 := by rw [← h9]
            clear hr9 h9
            subst e1 e2 e3
            exact hcont_151 H locs ls hP hD hS (lv_sub hl [1, 2, 4, 5] rfl)
          · have hu0 : ¬ u = 0 := fun h9 => c_5 ((k_jm (by omega)).mpr h9)
            obtain ⟨p8, hp8⟩ : ∃ z, z = (dn_1000.2.2.1 (u - 1)).toNatClampNeg := ⟨_, rfl⟩
            have hpe8 : dn_1000.2.2.1 (u - 1) = nI p8 := by rw [hp8]; exact (hok9.1 (u - 1) (by omega)).1
            have hpu8 : p8 ≤ 9 := by rw [hp8]; exact (hok9.1 (u - 1) (by omega)).2
            have hl : lv_has ls 10 [(7, .int (nI (u - 1))), (6, .int v9), (5, .int b9), (4, .int (nI l8_1500)), (0, .ref m0), (1, .ref r0)] := by
              have h9 := hl
              rw [show nI u - 1 = nI (u - 1) from by rw [← nI_pred (u - 1), show u - 1 + 1 = u by omega]] at h9
              exact h9
            refine lv_aload_n hx hb dX8_callIn_156 rfl (lv_at hl 4 rfl) ?_
            refine va_get (D := D) (ci := 8) (v := .ref cp0) (C := RX8) (T := TX8) (N := 16) hx hb hts (fun w h => (List.mem_cons_of_mem _ (List.mem_append_right _ h))) hown hK hP 0 rfl rfl 13 (by decide) (hts _ qX8_callIn_0) (fun _ h9 => h9) rfl dX8_callIn_157 ?_
            refine lv_iload hx hb dX8_callIn_160 (lv_at hl 0 rfl) ?_
            refine va_iald (i := (nI (u - 1))) hx hb hK hP 1 0 rfl rfl (vp_in_nI (n := (u - 1)) (by omega) (by omega)) dX8_callIn_162 ?_
            refine k_top (y := (dn_1000.2.2.1 (u - 1))) (by rw [nI_clamp (by omega)]) ?_
            refine k_top (y := (nI p8)) (hpe8) ?_
            refine lv_istore (lv' := [(8, .int (nI p8)), (7, .int (nI (u - 1))), (6, .int v9), (5, .int b9), (4, .int (nI l8_1500)), (0, .ref m0), (1, .ref r0)]) hx hb dX8_callIn_163 hl (by decide) rfl (fun ls hl => ?_)
            refine lv_iload hx hb dX8_callIn_165 (lv_at hl 3 rfl) ?_
            refine lv_if_eq (tgt := 195) hx hb dX8_callIn_167 (by decide) (fun c_6 => ?_) (fun c_6 => ?_)
            · refine lv_iconst (v := 0) hx hb dX8_callIn_195 (by decide) ?_
              refine lv_istore (lv' := [(9, .int 0), (8, .int (nI p8)), (7, .int (nI (u - 1))), (6, .int v9), (5, .int b9), (4, .int (nI l8_1500)), (0, .ref m0), (1, .ref r0)]) hx hb dX8_callIn_196 hl (by decide) rfl (fun ls hl => ?_)
              refine lv_iload hx hb dX8_callIn_198 (lv_at hl 0 rfl) ?_
              refine lv_if_eq (tgt := 226) hx hb dX8_callIn_200 (by decide) (fun _ => ?_) (fun c_7 => absurd c_7 (by decide))
              refine lv_iload hx hb dX8_callIn_226 (lv_at hl 4 rfl) ?_
              refine lv_if_eq (tgt := 272) hx hb dX8_callIn_228 (by decide) (fun _ => ?_) (fun c_8 => absurd c_6 c_8)
              refine lv_aload_n hx hb dX8_callIn_272 rfl (lv_at hl 7 rfl) ?_
              refine lv_iload hx hb dX8_callIn_273 (lv_at hl 1 rfl) ?_
              refine lv_iload hx hb dX8_callIn_275 (lv_at hl 2 rfl) ?_
              refine lv_iload hx hb dX8_callIn_277 (lv_at hl 5 rfl) ?_
              refine lv_icmp_ne (tgt := 292) hx hb dX8_callIn_279 (by decide) (fun c_9 => ?_) (fun c_9 => ?_)
              · have c_9 : ¬ ((u - 1) = l8_1500) := fun h9 => c_9 ((nI_eq (a := (u - 1)) (b := l8_1500) (by omega) (by omega)).mpr h9)
                refine lv_iload hx hb dX8_callIn_292 (lv_at hl 3 rfl) ?_
                refine k_ai (wr := [(m0, .inr (8, [.int rf, .ref sc0, .int (nI ss), .int (nI sp), .int ig, .int lo, .ref rd0, .ref nw0, .ref tr0, .ref di0, .int (nI ac), .ref ke0, .ref ik0, .ref cp0, .ref cn0, .ref be0])), (cp0, .inl (g 0, 10, .inl dn_1000.2.2.1)), (cn0, .inl (g 0, 10, .inl dn_1000.2.2.2.1))]) (w2 := [(m0, .inr (8, [.int rf, .ref sc0, .int (nI ss), .int (nI sp), .int ig, .int lo, .ref rd0, .ref nw0, .ref tr0, .ref di0, .int (nI ac), .ref ke0, .ref ik0, .ref cp0, .ref cn0, .ref be0])), (cp0, .inl (g 0, 10, .inl dn_1000.2.2.1)), (cn0, .inl (g 0, 10, .inl dn_1000.2.2.2.1)), (r0, .inl (g 0, 748, .inl rc))]) (va_runS (As := [.ref r0, .int (nI p8), .int v9]) (rest := []) ⟨hx, hb, hml, hown, hts⟩ (c_X8_reckon l D g r0 H.size rc p8 v9 (by omega)) (va_cwS 3 hts gX8_callIn_X8_reckon rfl rfl rfl (by decide +kernel) (k_lvl (by omega) (by decide))) (kPS hP hD hK hS hA hE [3] rfl (by decide)) rfl rfl hl.1 rfl (lv_room (Nat.le_of_ble_eq_true rfl)) dX8_callIn_294 ⟨Nat.le_of_ble_eq_true rfl, Nat.le_of_ble_eq_true rfl⟩) hP hD hS hA [3] [0, 1, 2] [0, 1, 2, 3] rfl rfl (by decide) (by decide) rfl (by decide) (fun H locs hP hD hS => ?_)
                refine lv_istore (lv' := [(6, .int (f_X8_reckon rc p8 v9)), (9, .int 0), (8, .int (nI p8)), (7, .int (nI (u - 1))), (5, .int b9), (4, .int (nI l8_1500)), (0, .ref m0), (1, .ref r0)]) hx hb dX8_callIn_297 hl (by decide) rfl (fun ls hl => ?_)
                refine lv_aload_n hx hb dX8_callIn_299 rfl (lv_at hl 7 rfl) ?_
                refine lv_aload_n hx hb dX8_callIn_300 rfl (lv_at hl 6 rfl) ?_
                refine lv_iload hx hb dX8_callIn_301 (lv_at hl 3 rfl) ?_
                refine k_ai (wr := [(cn0, .inl (g 0, 10, .inl dn_1000.2.2.2.1)), (r0, .inl (g 0, 748, .inl rc))]) (w2 := [(m0, .inr (8, [.int rf, .ref sc0, .int (nI ss), .int (nI sp), .int ig, .int lo, .ref rd0, .ref nw0, .ref tr0, .ref di0, .int (nI ac), .ref ke0, .ref ik0, .ref cp0, .ref cn0, .ref be0])), (cp0, .inl (g 0, 10, .inl dn_1000.2.2.1)), (cn0, .inl (g 0, 10, .inl dn_1000.2.2.2.1)), (r0, .inl (g 0, 748, .inl rc))]) (va_runV (As := [.int (nI (u - 1))]) (rest := [.ref r0]) ⟨hx, hb, hml, hown, hts⟩ (c_X8_callerAt l D g m0 sc0 rd0 nw0 tr0 di0 ke0 ik0 cp0 cn0 be0 H.size rf ss sp ig lo ac dn_1000.2.2.1 (u - 1) (by omega)) (cwV 1 hts gX8_callIn_X8_callerAt rfl rfl rfl (by decide +kernel) (k_lvl (by omega) (by decide))) (kPV hP hD hK hS hA hE [0, 1] rfl (by decide) 0 8 rfl rfl rfl) rfl rfl hl.1 rfl (lv_room (Nat.le_of_ble_eq_true rfl)) dX8_callIn_303 ⟨Nat.le_of_ble_eq_true rfl, Nat.le_of_ble_eq_true rfl⟩) hP hD hS hA [0, 1] [2, 3] [2, 3, 0, 1] rfl rfl (by decide) (by decide) rfl (by decide) (fun H locs hP hD hS => ?_)
                refine lv_iload hx hb dX8_callIn_306 (lv_at hl 2 rfl) ?_
                refine lv_iload hx hb dX8_callIn_308 (lv_at hl 0 rfl) ?_
                have hC := c_X8_ends l D g r0 H.size rc (f_X8_callerAt dn_1000.2.2.1 (u - 1)) p8 (f_X8_reckon rc p8 v9) (by omega) (callerAt_ok hok9 (by omega))
                obtain ⟨v_10, ev_10⟩ : ∃ z, z = (f_X8_ends rc (f_X8_callerAt dn_1000.2.2.1 (u - 1)) p8 (f_X8_reckon rc p8 v9)) := ⟨_, rfl⟩
                rw [← ev_10] at hC
                refine k_ai (wr := [(m0, .inr (8, [.int rf, .ref sc0, .int (nI ss), .int (nI sp), .int ig, .int lo, .ref rd0, .ref nw0, .ref tr0, .ref di0, .int (nI ac), .ref ke0, .ref ik0, .ref cp0, .ref cn0, .ref be0])), (cp0, .inl (g 0, 10, .inl dn_1000.2.2.1)), (cn0, .inl (g 0, 10, .inl dn_1000.2.2.2.1))]) (w2 := [(m0, .inr (8, [.int rf, .ref sc0, .int (nI ss), .int (nI sp), .int ig, .int lo, .ref rd0, .ref nw0, .ref tr0, .ref di0, .int (nI ac), .ref ke0, .ref ik0, .ref cp0, .ref cn0, .ref be0])), (cp0, .inl (g 0, 10, .inl dn_1000.2.2.1)), (cn0, .inl (g 0, 10, .inl dn_1000.2.2.2.1)), (r0, .inl (g 0, 748, .inl v_10.2))]) (va_runS (As := [.ref r0, .int (f_X8_callerAt dn_1000.2.2.1 (u - 1)), .int (nI p8), .int (f_X8_reckon rc p8 v9)]) (rest := []) ⟨hx, hb, hml, hown, hts⟩ hC (va_cwS 4 hts gX8_callIn_X8_ends rfl rfl rfl (by decide +kernel) (k_lvl (by omega) (by decide))) (kPS hP hD hK hS hA hE [3] rfl (by decide)) rfl rfl hl.1 rfl (lv_room (Nat.le_of_ble_eq_true rfl)) dX8_callIn_310 ⟨Nat.le_of_ble_eq_true rfl, Nat.le_of_ble_eq_true rfl⟩) hP hD hS hA [3] [0, 1, 2] [0, 1, 2, 3] rfl rfl (by decide) (by decide) rfl (by decide) (fun H locs hP hD hS => ?_)
                refine lv_if_le (tgt := 320) hx hb dX8_callIn_313 (by decide) (fun c_11 => ?_) (fun c_11 => ?_)
                · refine lv_iconst (v := 0) hx hb dX8_callIn_320 (by decide) ?_
                  refine lv_istore (lv' := [(5, .int 0), (6, .int (f_X8_reckon rc p8 v9)), (9, .int 0), (8, .int (nI p8)), (7, .int (nI (u - 1))), (4, .int (nI l8_1500)), (0, .ref m0), (1, .ref r0)]) hx hb dX8_callIn_321 hl (by decide) rfl (fun ls hl => ?_)
                  refine lv_iinc (v := (nI (u - 1) - 1)) (lv' := [(7, .int (nI (u - 1) - 1)), (5, .int 0), (6, .int (f_X8_reckon rc p8 v9)), (9, .int 0), (8, .int (nI p8)), (4, .int (nI l8_1500)), (0, .ref m0), (1, .ref r0)]) hx hb dX8_callIn_323 hl (k := 4) rfl (k_dec _) (by decide) rfl (fun ls hl => ?_)
                  refine lv_goto (tgt := 151) hx hb dX8_callIn_326 (by decide) ?_
                  exact ih_151 (u - 1) v_10.2 (f_X8_reckon rc p8 v9) 0 (by omega) (by omega) (by subst ev_10; subst hp8; exact rEnd_same hok9 (by omega) h1) ((rUp_s (by omega) (by subst ev_10; subst hp8; unfold rStep; rw [if_pos c_6, if_neg c_9]; unfold rEnd; rw [if_pos c_11])).trans hr9) H locs ls hP hD hS (lv_sub hl [0, 2, 1, 5, 6, 7] rfl)
                · refine lv_iconst (v := 1) hx hb dX8_callIn_316 (by decide) ?_
                  refine lv_goto (tgt := 321) hx hb dX8_callIn_317 (by decide) ?_
                  refine lv_istore (lv' := [(5, .int 1), (6, .int (f_X8_reckon rc p8 v9)), (9, .int 0), (8, .int (nI p8)), (7, .int (nI (u - 1))), (4, .int (nI l8_1500)), (0, .ref m0), (1, .ref r0)]) hx hb dX8_callIn_321 hl (by decide) rfl (fun ls hl => ?_)
                  refine lv_iinc (v := (nI (u - 1) - 1)) (lv' := [(7, .int (nI (u - 1) - 1)), (5, .int 1), (6, .int (f_X8_reckon rc p8 v9)), (9, .int 0), (8, .int (nI p8)), (4, .int (nI l8_1500)), (0, .ref m0), (1, .ref r0)]) hx hb dX8_callIn_323 hl (k := 4) rfl (k_dec _) (by decide) rfl (fun ls hl => ?_)
                  refine lv_goto (tgt := 151) hx hb dX8_callIn_326 (by decide) ?_
                  exact ih_151 (u - 1) v_10.2 (f_X8_reckon rc p8 v9) 1 (by omega) (by omega) (by subst ev_10; subst hp8; exact rEnd_same hok9 (by omega) h1) ((rUp_s (by omega) (by subst ev_10; subst hp8; unfold rStep; rw [if_pos c_6, if_neg c_9]; unfold rEnd; rw [if_neg c_11])).trans hr9) H locs ls hP hD hS (lv_sub hl [0, 2, 1, 5, 6, 7] rfl)
              · have c_9 : (u - 1) = l8_1500 := (nI_eq (a := (u - 1)) (b := l8_1500) (by omega) (by omega)).mp c_9
                refine lv_aload_n hx hb dX8_callIn_282 rfl (lv_at hl 6 rfl) ?_
                refine va_get (D := D) (ci := 8) (v := .ref cn0) (C := RX8) (T := TX8) (N := 16) hx hb hts (fun w h => (List.mem_cons_of_mem _ (List.mem_append_right _ h))) hown hK hP 0 rfl rfl 14 (by decide) (hts _ qX8_callIn_1) (fun _ h9 => h9) rfl dX8_callIn_283 ?_
                refine lv_iload hx hb dX8_callIn_286 (lv_at hl 2 rfl) ?_
                refine va_iald (i := (nI (u - 1))) hx hb hK hP 2 0 rfl rfl (vp_in_nI (n := (u - 1)) (by omega) (by omega)) dX8_callIn_288 ?_
                refine k_top (y := (dn_1000.2.2.2.1 (u - 1))) (by rw [nI_clamp (by omega)]) ?_
                refine lv_goto (tgt := 294) hx hb dX8_callIn_289 (by decide) ?_
                refine k_ai (wr := [(m0, .inr (8, [.int rf, .ref sc0, .int (nI ss), .int (nI sp), .int ig, .int lo, .ref rd0, .ref nw0, .ref tr0, .ref di0, .int (nI ac), .ref ke0, .ref ik0, .ref cp0, .ref cn0, .ref be0])), (cp0, .inl (g 0, 10, .inl dn_1000.2.2.1)), (cn0, .inl (g 0, 10, .inl dn_1000.2.2.2.1))]) (w2 := [(m0, .inr (8, [.int rf, .ref sc0, .int (nI ss), .int (nI sp), .int ig, .int lo, .ref rd0, .ref nw0, .ref tr0, .ref di0, .int (nI ac), .ref ke0, .ref ik0, .ref cp0, .ref cn0, .ref be0])), (cp0, .inl (g 0, 10, .inl dn_1000.2.2.1)), (cn0, .inl (g 0, 10, .inl dn_1000.2.2.2.1)), (r0, .inl (g 0, 748, .inl rc))]) (va_runS (As := [.ref r0, .int (nI p8), .int (dn_1000.2.2.2.1 (u - 1))]) (rest := []) ⟨hx, hb, hml, hown, hts⟩ (c_X8_reckon l D g r0 H.size rc p8 (dn_1000.2.2.2.1 (u - 1)) (by omega)) (va_cwS 3 hts gX8_callIn_X8_reckon rfl rfl rfl (by decide +kernel) (k_lvl (by omega) (by decide))) (kPS hP hD hK hS hA hE [3] rfl (by decide)) rfl rfl hl.1 rfl (lv_room (Nat.le_of_ble_eq_true rfl)) dX8_callIn_294 ⟨Nat.le_of_ble_eq_true rfl, Nat.le_of_ble_eq_true rfl⟩) hP hD hS hA [3] [0, 1, 2] [0, 1, 2, 3] rfl rfl (by decide) (by decide) rfl (by decide) (fun H locs hP hD hS => ?_)
                refine lv_istore (lv' := [(6, .int (f_X8_reckon rc p8 (dn_1000.2.2.2.1 (u - 1)))), (9, .int 0), (8, .int (nI p8)), (7, .int (nI (u - 1))), (5, .int b9), (4, .int (nI l8_1500)), (0, .ref m0), (1, .ref r0)]) hx hb dX8_callIn_297 hl (by decide) rfl (fun ls hl => ?_)
                refine lv_aload_n hx hb dX8_callIn_299 rfl (lv_at hl 7 rfl) ?_
                refine lv_aload_n hx hb dX8_callIn_300 rfl (lv_at hl 6 rfl) ?_
                refine lv_iload hx hb dX8_callIn_301 (lv_at hl 3 rfl) ?_
                refine k_ai (wr := [(cn0, .inl (g 0, 10, .inl dn_1000.2.2.2.1)), (r0, .inl (g 0, 748, .inl rc))]) (w2 := [(m0, .inr (8, [.int rf, .ref sc0, .int (nI ss), .int (nI sp), .int ig, .int lo, .ref rd0, .ref nw0, .ref tr0, .ref di0, .int (nI ac), .ref ke0, .ref ik0, .ref cp0, .ref cn0, .ref be0])), (cp0, .inl (g 0, 10, .inl dn_1000.2.2.1)), (cn0, .inl (g 0, 10, .inl dn_1000.2.2.2.1)), (r0, .inl (g 0, 748, .inl rc))]) (va_runV (As := [.int (nI (u - 1))]) (rest := [.ref r0]) ⟨hx, hb, hml, hown, hts⟩ (c_X8_callerAt l D g m0 sc0 rd0 nw0 tr0 di0 ke0 ik0 cp0 cn0 be0 H.size rf ss sp ig lo ac dn_1000.2.2.1 (u - 1) (by omega)) (cwV 1 hts gX8_callIn_X8_callerAt rfl rfl rfl (by decide +kernel) (k_lvl (by omega) (by decide))) (kPV hP hD hK hS hA hE [0, 1] rfl (by decide) 0 8 rfl rfl rfl) rfl rfl hl.1 rfl (lv_room (Nat.le_of_ble_eq_true rfl)) dX8_callIn_303 ⟨Nat.le_of_ble_eq_true rfl, Nat.le_of_ble_eq_true rfl⟩) hP hD hS hA [0, 1] [2, 3] [2, 3, 0, 1] rfl rfl (by decide) (by decide) rfl (by decide) (fun H locs hP hD hS => ?_)
                refine lv_iload hx hb dX8_callIn_306 (lv_at hl 2 rfl) ?_
                refine lv_iload hx hb dX8_callIn_308 (lv_at hl 0 rfl) ?_
                have hC := c_X8_ends l D g r0 H.size rc (f_X8_callerAt dn_1000.2.2.1 (u - 1)) p8 (f_X8_reckon rc p8 (dn_1000.2.2.2.1 (u - 1))) (by omega) (callerAt_ok hok9 (by omega))
                obtain ⟨v_12, ev_12⟩ : ∃ z, z = (f_X8_ends rc (f_X8_callerAt dn_1000.2.2.1 (u - 1)) p8 (f_X8_reckon rc p8 (dn_1000.2.2.2.1 (u - 1)))) := ⟨_, rfl⟩
                rw [← ev_12] at hC
                refine k_ai (wr := [(m0, .inr (8, [.int rf, .ref sc0, .int (nI ss), .int (nI sp), .int ig, .int lo, .ref rd0, .ref nw0, .ref tr0, .ref di0, .int (nI ac), .ref ke0, .ref ik0, .ref cp0, .ref cn0, .ref be0])), (cp0, .inl (g 0, 10, .inl dn_1000.2.2.1)), (cn0, .inl (g 0, 10, .inl dn_1000.2.2.2.1))]) (w2 := [(m0, .inr (8, [.int rf, .ref sc0, .int (nI ss), .int (nI sp), .int ig, .int lo, .ref rd0, .ref nw0, .ref tr0, .ref di0, .int (nI ac), .ref ke0, .ref ik0, .ref cp0, .ref cn0, .ref be0])), (cp0, .inl (g 0, 10, .inl dn_1000.2.2.1)), (cn0, .inl (g 0, 10, .inl dn_1000.2.2.2.1)), (r0, .inl (g 0, 748, .inl v_12.2))]) (va_runS (As := [.ref r0, .int (f_X8_callerAt dn_1000.2.2.1 (u - 1)), .int (nI p8), .int (f_X8_reckon rc p8 (dn_1000.2.2.2.1 (u - 1)))]) (rest := []) ⟨hx, hb, hml, hown, hts⟩ hC (va_cwS 4 hts gX8_callIn_X8_ends rfl rfl rfl (by decide +kernel) (k_lvl (by omega) (by decide))) (kPS hP hD hK hS hA hE [3] rfl (by decide)) rfl rfl hl.1 rfl (lv_room (Nat.le_of_ble_eq_true rfl)) dX8_callIn_310 ⟨Nat.le_of_ble_eq_true rfl, Nat.le_of_ble_eq_true rfl⟩) hP hD hS hA [3] [0, 1, 2] [0, 1, 2, 3] rfl rfl (by decide) (by decide) rfl (by decide) (fun H locs hP hD hS => ?_)
                refine lv_if_le (tgt := 320) hx hb dX8_callIn_313 (by decide) (fun c_13 => ?_) (fun c_13 => ?_)
                · refine lv_iconst (v := 0) hx hb dX8_callIn_320 (by decide) ?_
                  refine lv_istore (lv' := [(5, .int 0), (6, .int (f_X8_reckon rc p8 (dn_1000.2.2.2.1 (u - 1)))), (9, .int 0), (8, .int (nI p8)), (7, .int (nI (u - 1))), (4, .int (nI l8_1500)), (0, .ref m0), (1, .ref r0)]) hx hb dX8_callIn_321 hl (by decide) rfl (fun ls hl => ?_)
                  refine lv_iinc (v := (nI (u - 1) - 1)) (lv' := [(7, .int (nI (u - 1) - 1)), (5, .int 0), (6, .int (f_X8_reckon rc p8 (dn_1000.2.2.2.1 (u - 1)))), (9, .int 0), (8, .int (nI p8)), (4, .int (nI l8_1500)), (0, .ref m0), (1, .ref r0)]) hx hb dX8_callIn_323 hl (k := 4) rfl (k_dec _) (by decide) rfl (fun ls hl => ?_)
                  refine lv_goto (tgt := 151) hx hb dX8_callIn_326 (by decide) ?_
                  exact ih_151 (u - 1) v_12.2 (f_X8_reckon rc p8 (dn_1000.2.2.2.1 (u - 1))) 0 (by omega) (by omega) (by subst ev_12; subst hp8; exact rEnd_same hok9 (by omega) h1) ((rUp_s (by omega) (by subst ev_12; subst hp8; unfold rStep; rw [if_pos c_6, if_pos c_9]; unfold rEnd; rw [if_pos c_13])).trans hr9) H locs ls hP hD hS (lv_sub hl [0, 2, 1, 5, 6, 7] rfl)
                · refine lv_iconst (v := 1) hx hb dX8_callIn_316 (by decide) ?_
                  refine lv_goto (tgt := 321) hx hb dX8_callIn_317 (by decide) ?_
                  refine lv_istore (lv' := [(5, .int 1), (6, .int (f_X8_reckon rc p8 (dn_1000.2.2.2.1 (u - 1)))), (9, .int 0), (8, .int (nI p8)), (7, .int (nI (u - 1))), (4, .int (nI l8_1500)), (0, .ref m0), (1, .ref r0)]) hx hb dX8_callIn_321 hl (by decide) rfl (fun ls hl => ?_)
                  refine lv_iinc (v := (nI (u - 1) - 1)) (lv' := [(7, .int (nI (u - 1) - 1)), (5, .int 1), (6, .int (f_X8_reckon rc p8 (dn_1000.2.2.2.1 (u - 1)))), (9, .int 0), (8, .int (nI p8)), (4, .int (nI l8_1500)), (0, .ref m0), (1, .ref r0)]) hx hb dX8_callIn_323 hl (k := 4) rfl (k_dec _) (by decide) rfl (fun ls hl => ?_)
                  refine lv_goto (tgt := 151) hx hb dX8_callIn_326 (by decide) ?_
                  exact ih_151 (u - 1) v_12.2 (f_X8_reckon rc p8 (dn_1000.2.2.2.1 (u - 1))) 1 (by omega) (by omega) (by subst ev_12; subst hp8; exact rEnd_same hok9 (by omega) h1) ((rUp_s (by omega) (by subst ev_12; subst hp8; unfold rStep; rw [if_pos c_6, if_pos c_9]; unfold rEnd; rw [if_neg c_13])).trans hr9) H locs ls hP hD hS (lv_sub hl [0, 2, 1, 5, 6, 7] rfl)
            · refine lv_iload hx hb dX8_callIn_170 (lv_at hl 1 rfl) ?_
              refine lv_iload hx hb dX8_callIn_172 (lv_at hl 4 rfl) ?_
              refine lv_icmp_eq (tgt := 191) hx hb dX8_callIn_174 (by decide) (fun c_14 => ?_) (fun c_14 => ?_)
              · have c_14 : (u - 1) = l8_1500 := (nI_eq (a := (u - 1)) (b := l8_1500) (by omega) (by omega)).mp c_14
                refine lv_iconst (v := 1) hx hb dX8_callIn_191 (by decide) ?_
                refine lv_goto (tgt := 196) hx hb dX8_callIn_192 (by decide) ?_
                refine lv_istore (lv' := [(9, .int 1), (8, .int (nI p8)), (7, .int (nI (u - 1))), (6, .int v9), (5, .int b9), (4, .int (nI l8_1500)), (0, .ref m0), (1, .ref r0)]) hx hb dX8_callIn_196 hl (by decide) rfl (fun ls hl => ?_)
                refine lv_iload hx hb dX8_callIn_198 (lv_at hl 0 rfl) ?_
                refine lv_if_eq (tgt := 226) hx hb dX8_callIn_200 (by decide) (fun c_15 => absurd c_15 (by decide)) (fun _ => ?_)
                refine lv_aload_n hx hb dX8_callIn_203 rfl (lv_at hl 7 rfl) ?_
                refine lv_sipush (v := 692) hx hb dX8_callIn_204 (by decide) ?_
                refine lv_dup2_11 hx hb dX8_callIn_207 rfl rfl ?_
                refine va_iald (i := 692) hx hb hK hP 3 0 rfl rfl (vp_in_nI (n := 692) (by decide) (by decide)) dX8_callIn_208 ?_
                refine k_top (y := (rc 692)) rfl ?_
                refine lv_iload hx hb dX8_callIn_209 (lv_at hl 2 rfl) ?_
                refine lv_iload hx hb dX8_callIn_211 (lv_at hl 5 rfl) ?_
                refine lv_icmp_ne (tgt := 220) hx hb dX8_callIn_213 (by decide) (fun c_16 => absurd ((nI_eq (a := (u - 1)) (b := l8_1500) (by omega) (by omega)).mpr c_14) c_16) (fun _ => ?_)
                refine lv_iconst (v := 0) hx hb dX8_callIn_216 (by decide) ?_
                refine lv_goto (tgt := 221) hx hb dX8_callIn_217 (by decide) ?_
                refine lv_iadd hx hb dX8_callIn_221 ?_
                refine va_iast (i := 692) (x := ((rc 692) + 0)) hx hb hK hP hD hS 3 0 rfl rfl (vp_in_nI (n := 692) (by decide) (by decide)) dX8_callIn_222 (fun H locs hP hD hS => ?_)
                have hP : va_P D vwCl [(m0, .inr (8, [.int rf, .ref sc0, .int (nI ss), .int (nI sp), .int ig, .int lo, .ref rd0, .ref nw0, .ref tr0, .ref di0, .int (nI ac), .ref ke0, .ref ik0, .ref cp0, .ref cn0, .ref be0])), (cp0, .inl (g 0, 10, .inl dn_1000.2.2.1)), (cn0, .inl (g 0, 10, .inl dn_1000.2.2.2.1)), (r0, .inl (g 0, 748, .inl (upd rc 692 ((rc 692) + 0))))] H := hP
                have hD : va_D A [(m0, .inr (8, [.int rf, .ref sc0, .int (nI ss), .int (nI sp), .int ig, .int lo, .ref rd0, .ref nw0, .ref tr0, .ref di0, .int (nI ac), .ref ke0, .ref ik0, .ref cp0, .ref cn0, .ref be0])), (cp0, .inl (g 0, 10, .inl dn_1000.2.2.1)), (cn0, .inl (g 0, 10, .inl dn_1000.2.2.2.1)), (r0, .inl (g 0, 748, .inl (upd rc 692 ((rc 692) + 0))))] := hD
                refine lv_goto (tgt := 323) hx hb dX8_callIn_223 (by decide) ?_
                refine lv_iinc (v := (nI (u - 1) - 1)) (lv' := [(7, .int (nI (u - 1) - 1)), (9, .int 1), (8, .int (nI p8)), (6, .int v9), (5, .int b9), (4, .int (nI l8_1500)), (0, .ref m0), (1, .ref r0)]) hx hb dX8_callIn_323 hl (k := 2) rfl (k_dec _) (by decide) rfl (fun ls hl => ?_)
                refine lv_goto (tgt := 151) hx hb dX8_callIn_326 (by decide) ?_
                exact ih_151 (u - 1) (upd rc 692 ((rc 692) + 0)) v9 b9 (by omega) (by omega) (h1.upd (by unfold kFix; omega)) ((rUp_s (by omega) (by subst hp8; unfold rStep; rw [if_neg c_6, if_pos c_14])).trans hr9) H locs ls hP hD hS (lv_sub hl [0, 3, 4, 5, 6, 7] rfl)
              · have c_14 : ¬ ((u - 1) = l8_1500) := fun h9 => c_14 ((nI_eq (a := (u - 1)) (b := l8_1500) (by omega) (by omega)).mpr h9)
                refine lv_aload_n hx hb dX8_callIn_177 rfl (lv_at hl 6 rfl) ?_
                refine lv_iload hx hb dX8_callIn_178 (lv_at hl 0 rfl) ?_
                refine lv_iconst (v := 4) hx hb dX8_callIn_180 (by decide) ?_
                refine k_ai (wr := [(m0, .inr (8, [.int rf, .ref sc0, .int (nI ss), .int (nI sp), .int ig, .int lo, .ref rd0, .ref nw0, .ref tr0, .ref di0, .int (nI ac), .ref ke0, .ref ik0, .ref cp0, .ref cn0, .ref be0])), (cp0, .inl (g 0, 10, .inl dn_1000.2.2.1)), (cn0, .inl (g 0, 10, .inl dn_1000.2.2.2.1)), (r0, .inl (g 0, 748, .inl rc))]) (w2 := [(m0, .inr (8, [.int rf, .ref sc0, .int (nI ss), .int (nI sp), .int ig, .int lo, .ref rd0, .ref nw0, .ref tr0, .ref di0, .int (nI ac), .ref ke0, .ref ik0, .ref cp0, .ref cn0, .ref be0])), (cp0, .inl (g 0, 10, .inl dn_1000.2.2.1)), (cn0, .inl (g 0, 10, .inl dn_1000.2.2.2.1)), (r0, .inl (g 0, 748, .inl rc))]) (va_runS (As := [.int (nI p8), .int 4]) (rest := [.ref r0]) ⟨hx, hb, hml, hown, hts⟩ (c_X8_partAt l D g H.size p8 4) (va_cwS 2 hts gX8_callIn_X8_partAt rfl rfl rfl (by decide +kernel) (k_lvl (by omega) (by decide))) (kPS hP hD hK hS hA hE [] rfl (by decide)) rfl rfl hl.1 rfl (lv_room (Nat.le_of_ble_eq_true rfl)) dX8_callIn_181 ⟨Nat.le_of_ble_eq_true rfl, Nat.le_of_ble_eq_true rfl⟩) hP hD hS hA [] [0, 1, 2, 3] [0, 1, 2, 3] rfl rfl (by decide) (by decide) rfl (by decide) (fun H locs hP hD hS => ?_)
                refine va_iald (i := (nI (1 + 8 * p8 + 4))) hx hb hK hP 3 0 rfl rfl (vp_in_nI (n := (1 + 8 * p8 + 4)) (by omega) (by omega)) dX8_callIn_184 ?_
                refine k_top (y := (rc (1 + 8 * p8 + 4))) (by rw [nI_clamp (by omega)]) ?_
                refine lv_sipush (v := (-10000)) hx hb dX8_callIn_185 (by decide) ?_
                refine lv_icmp_ne (tgt := 195) hx hb dX8_callIn_188 (by decide) (fun c_17 => ?_) (fun c_17 => ?_)
                · refine lv_iconst (v := 0) hx hb dX8_callIn_195 (by decide) ?_
                  refine lv_istore (lv' := [(9, .int 0), (8, .int (nI p8)), (7, .int (nI (u - 1))), (6, .int v9), (5, .int b9), (4, .int (nI l8_1500)), (0, .ref m0), (1, .ref r0)]) hx hb dX8_callIn_196 hl (by decide) rfl (fun ls hl => ?_)
                  refine lv_iload hx hb dX8_callIn_198 (lv_at hl 0 rfl) ?_
                  refine lv_if_eq (tgt := 226) hx hb dX8_callIn_200 (by decide) (fun _ => ?_) (fun c_18 => absurd c_18 (by decide))
                  refine lv_iload hx hb dX8_callIn_226 (lv_at hl 4 rfl) ?_
                  refine lv_if_eq (tgt := 272) hx hb dX8_callIn_228 (by decide) (fun c_19 => absurd c_19 c_6) (fun _ => ?_)
                  refine lv_aload_n hx hb dX8_callIn_231 rfl (lv_at hl 7 rfl) ?_
                  refine lv_sipush (v := 693) hx hb dX8_callIn_232 (by decide) ?_
                  refine lv_iconst (v := 1) hx hb dX8_callIn_235 (by decide) ?_
                  refine va_iast (i := 693) (x := 1) hx hb hK hP hD hS 3 0 rfl rfl (vp_in_nI (n := 693) (by decide) (by decide)) dX8_callIn_236 (fun H locs hP hD hS => ?_)
                  have hP : va_P D vwCl [(m0, .inr (8, [.int rf, .ref sc0, .int (nI ss), .int (nI sp), .int ig, .int lo, .ref rd0, .ref nw0, .ref tr0, .ref di0, .int (nI ac), .ref ke0, .ref ik0, .ref cp0, .ref cn0, .ref be0])), (cp0, .inl (g 0, 10, .inl dn_1000.2.2.1)), (cn0, .inl (g 0, 10, .inl dn_1000.2.2.2.1)), (r0, .inl (g 0, 748, .inl (upd rc 693 1)))] H := hP
                  have hD : va_D A [(m0, .inr (8, [.int rf, .ref sc0, .int (nI ss), .int (nI sp), .int ig, .int lo, .ref rd0, .ref nw0, .ref tr0, .ref di0, .int (nI ac), .ref ke0, .ref ik0, .ref cp0, .ref cn0, .ref be0])), (cp0, .inl (g 0, 10, .inl dn_1000.2.2.1)), (cn0, .inl (g 0, 10, .inl dn_1000.2.2.2.1)), (r0, .inl (g 0, 748, .inl (upd rc 693 1)))] := hD
                  refine lv_aload_n hx hb dX8_callIn_237 rfl (lv_at hl 7 rfl) ?_
                  refine lv_sipush (v := 685) hx hb dX8_callIn_238 (by decide) ?_
                  refine lv_dup2_11 hx hb dX8_callIn_241 rfl rfl ?_
                  refine va_iald (i := 685) hx hb hK hP 3 0 rfl rfl (vp_in_nI (n := 685) (by decide) (by decide)) dX8_callIn_242 ?_
                  refine k_top (y := ((upd rc 693 1) 685)) rfl ?_
                  refine k_top (y := (rc 685)) (by rw [pk_un (k := 693) (j := 685) (by decide)]) ?_
                  refine lv_iconst (v := 1) hx hb dX8_callIn_243 (by decide) ?_
                  refine lv_iadd hx hb dX8_callIn_244 ?_
                  refine va_iast (i := 685) (x := ((rc 685) + 1)) hx hb hK hP hD hS 3 0 rfl rfl (vp_in_nI (n := 685) (by decide) (by decide)) dX8_callIn_245 (fun H locs hP hD hS => ?_)
                  have hP : va_P D vwCl [(m0, .inr (8, [.int rf, .ref sc0, .int (nI ss), .int (nI sp), .int ig, .int lo, .ref rd0, .ref nw0, .ref tr0, .ref di0, .int (nI ac), .ref ke0, .ref ik0, .ref cp0, .ref cn0, .ref be0])), (cp0, .inl (g 0, 10, .inl dn_1000.2.2.1)), (cn0, .inl (g 0, 10, .inl dn_1000.2.2.2.1)), (r0, .inl (g 0, 748, .inl (upd (upd rc 693 1) 685 ((rc 685) + 1))))] H := hP
                  have hD : va_D A [(m0, .inr (8, [.int rf, .ref sc0, .int (nI ss), .int (nI sp), .int ig, .int lo, .ref rd0, .ref nw0, .ref tr0, .ref di0, .int (nI ac), .ref ke0, .ref ik0, .ref cp0, .ref cn0, .ref be0])), (cp0, .inl (g 0, 10, .inl dn_1000.2.2.1)), (cn0, .inl (g 0, 10, .inl dn_1000.2.2.2.1)), (r0, .inl (g 0, 748, .inl (upd (upd rc 693 1) 685 ((rc 685) + 1))))] := hD
                  refine lv_aload_n hx hb dX8_callIn_246 rfl (lv_at hl 7 rfl) ?_
                  refine lv_iload hx hb dX8_callIn_247 (lv_at hl 1 rfl) ?_
                  refine lv_bipush (v := 7) hx hb dX8_callIn_249 (by decide) ?_
                  refine k_ai (wr := [(m0, .inr (8, [.int rf, .ref sc0, .int (nI ss), .int (nI sp), .int ig, .int lo, .ref rd0, .ref nw0, .ref tr0, .ref di0, .int (nI ac), .ref ke0, .ref ik0, .ref cp0, .ref cn0, .ref be0])), (cp0, .inl (g 0, 10, .inl dn_1000.2.2.1)), (cn0, .inl (g 0, 10, .inl dn_1000.2.2.2.1)), (r0, .inl (g 0, 748, .inl (upd (upd rc 693 1) 685 ((rc 685) + 1))))]) (w2 := [(m0, .inr (8, [.int rf, .ref sc0, .int (nI ss), .int (nI sp), .int ig, .int lo, .ref rd0, .ref nw0, .ref tr0, .ref di0, .int (nI ac), .ref ke0, .ref ik0, .ref cp0, .ref cn0, .ref be0])), (cp0, .inl (g 0, 10, .inl dn_1000.2.2.1)), (cn0, .inl (g 0, 10, .inl dn_1000.2.2.2.1)), (r0, .inl (g 0, 748, .inl (upd (upd rc 693 1) 685 ((rc 685) + 1))))]) (va_runS (As := [.int (nI p8), .int 7]) (rest := [.ref r0]) ⟨hx, hb, hml, hown, hts⟩ (c_X8_partAt l D g H.size p8 7) (va_cwS 2 hts gX8_callIn_X8_partAt rfl rfl rfl (by decide +kernel) (k_lvl (by omega) (by decide))) (kPS hP hD hK hS hA hE [] rfl (by decide)) rfl rfl hl.1 rfl (lv_room (Nat.le_of_ble_eq_true rfl)) dX8_callIn_251 ⟨Nat.le_of_ble_eq_true rfl, Nat.le_of_ble_eq_true rfl⟩) hP hD hS hA [] [0, 1, 2, 3] [0, 1, 2, 3] rfl rfl (by decide) (by decide) rfl (by decide) (fun H locs hP hD hS => ?_)
                  refine lv_dup2_11 hx hb dX8_callIn_254 rfl rfl ?_
                  refine va_iald (i := (nI (1 + 8 * p8 + 7))) hx hb hK hP 3 0 rfl rfl (vp_in_nI (n := (1 + 8 * p8 + 7)) (by omega) (by omega)) dX8_callIn_255 ?_
                  refine k_top (y := ((upd (upd rc 693 1) 685 ((rc 685) + 1)) (1 + 8 * p8 + 7))) (by rw [nI_clamp (by omega)]) ?_
                  refine k_top (y := (rc (1 + 8 * p8 + 7))) (by rw [pk_un (k := 685) (j := (1 + 8 * p8 + 7)) (by omega), pk_un (k := 693) (j := (1 + 8 * p8 + 7)) (by omega)]) ?_
                  refine lv_iconst (v := 1) hx hb dX8_callIn_256 (by decide) ?_
                  refine lv_iadd hx hb dX8_callIn_257 ?_
                  refine va_iast (i := (nI (1 + 8 * p8 + 7))) (x := ((rc (1 + 8 * p8 + 7)) + 1)) hx hb hK hP hD hS 3 0 rfl rfl (vp_in_nI (n := (1 + 8 * p8 + 7)) (by omega) (by omega)) dX8_callIn_258 (fun H locs hP hD hS => ?_)
                  rw [nI_clamp (n := (1 + 8 * p8 + 7)) (by omega)] at hP hD
                  have hP : va_P D vwCl [(m0, .inr (8, [.int rf, .ref sc0, .int (nI ss), .int (nI sp), .int ig, .int lo, .ref rd0, .ref nw0, .ref tr0, .ref di0, .int (nI ac), .ref ke0, .ref ik0, .ref cp0, .ref cn0, .ref be0])), (cp0, .inl (g 0, 10, .inl dn_1000.2.2.1)), (cn0, .inl (g 0, 10, .inl dn_1000.2.2.2.1)), (r0, .inl (g 0, 748, .inl (upd (upd (upd rc 693 1) 685 ((rc 685) + 1)) (1 + 8 * p8 + 7) ((rc (1 + 8 * p8 + 7)) + 1))))] H := hP
                  have hD : va_D A [(m0, .inr (8, [.int rf, .ref sc0, .int (nI ss), .int (nI sp), .int ig, .int lo, .ref rd0, .ref nw0, .ref tr0, .ref di0, .int (nI ac), .ref ke0, .ref ik0, .ref cp0, .ref cn0, .ref be0])), (cp0, .inl (g 0, 10, .inl dn_1000.2.2.1)), (cn0, .inl (g 0, 10, .inl dn_1000.2.2.2.1)), (r0, .inl (g 0, 748, .inl (upd (upd (upd rc 693 1) 685 ((rc 685) + 1)) (1 + 8 * p8 + 7) ((rc (1 + 8 * p8 + 7)) + 1))))] := hD
                  refine lv_aload_n hx hb dX8_callIn_259 rfl (lv_at hl 7 rfl) ?_
                  refine lv_iload hx hb dX8_callIn_260 (lv_at hl 1 rfl) ?_
                  refine lv_iconst (v := 4) hx hb dX8_callIn_262 (by decide) ?_
                  refine k_ai (wr := [(m0, .inr (8, [.int rf, .ref sc0, .int (nI ss), .int (nI sp), .int ig, .int lo, .ref rd0, .ref nw0, .ref tr0, .ref di0, .int (nI ac), .ref ke0, .ref ik0, .ref cp0, .ref cn0, .ref be0])), (cp0, .inl (g 0, 10, .inl dn_1000.2.2.1)), (cn0, .inl (g 0, 10, .inl dn_1000.2.2.2.1)), (r0, .inl (g 0, 748, .inl (upd (upd (upd rc 693 1) 685 ((rc 685) + 1)) (1 + 8 * p8 + 7) ((rc (1 + 8 * p8 + 7)) + 1))))]) (w2 := [(m0, .inr (8, [.int rf, .ref sc0, .int (nI ss), .int (nI sp), .int ig, .int lo, .ref rd0, .ref nw0, .ref tr0, .ref di0, .int (nI ac), .ref ke0, .ref ik0, .ref cp0, .ref cn0, .ref be0])), (cp0, .inl (g 0, 10, .inl dn_1000.2.2.1)), (cn0, .inl (g 0, 10, .inl dn_1000.2.2.2.1)), (r0, .inl (g 0, 748, .inl (upd (upd (upd rc 693 1) 685 ((rc 685) + 1)) (1 + 8 * p8 + 7) ((rc (1 + 8 * p8 + 7)) + 1))))]) (va_runS (As := [.int (nI p8), .int 4]) (rest := [.ref r0]) ⟨hx, hb, hml, hown, hts⟩ (c_X8_partAt l D g H.size p8 4) (va_cwS 2 hts gX8_callIn_X8_partAt rfl rfl rfl (by decide +kernel) (k_lvl (by omega) (by decide))) (kPS hP hD hK hS hA hE [] rfl (by decide)) rfl rfl hl.1 rfl (lv_room (Nat.le_of_ble_eq_true rfl)) dX8_callIn_263 ⟨Nat.le_of_ble_eq_true rfl, Nat.le_of_ble_eq_true rfl⟩) hP hD hS hA [] [0, 1, 2, 3] [0, 1, 2, 3] rfl rfl (by decide) (by decide) rfl (by decide) (fun H locs hP hD hS => ?_)
                  refine va_iald (i := (nI (1 + 8 * p8 + 4))) hx hb hK hP 3 0 rfl rfl (vp_in_nI (n := (1 + 8 * p8 + 4)) (by omega) (by omega)) dX8_callIn_266 ?_
                  refine k_top (y := ((upd (upd (upd rc 693 1) 685 ((rc 685) + 1)) (1 + 8 * p8 + 7) ((rc (1 + 8 * p8 + 7)) + 1)) (1 + 8 * p8 + 4))) (by rw [nI_clamp (by omega)]) ?_
                  refine k_top (y := (rc (1 + 8 * p8 + 4))) (by rw [pk_un (k := (1 + 8 * p8 + 7)) (j := (1 + 8 * p8 + 4)) (by omega), pk_un (k := 685) (j := (1 + 8 * p8 + 4)) (by omega), pk_un (k := 693) (j := (1 + 8 * p8 + 4)) (by omega)]) ?_
                  refine lv_istore (lv' := [(6, .int (rc (1 + 8 * p8 + 4))), (9, .int 0), (8, .int (nI p8)), (7, .int (nI (u - 1))), (5, .int b9), (4, .int (nI l8_1500)), (0, .ref m0), (1, .ref r0)]) hx hb dX8_callIn_267 hl (by decide) rfl (fun ls hl => ?_)
                  refine lv_goto (tgt := 299) hx hb dX8_callIn_269 (by decide) ?_
                  refine lv_aload_n hx hb dX8_callIn_299 rfl (lv_at hl 7 rfl) ?_
                  refine lv_aload_n hx hb dX8_callIn_300 rfl (lv_at hl 6 rfl) ?_
                  refine lv_iload hx hb dX8_callIn_301 (lv_at hl 3 rfl) ?_
                  refine k_ai (wr := [(cn0, .inl (g 0, 10, .inl dn_1000.2.2.2.1)), (r0, .inl (g 0, 748, .inl (upd (upd (upd rc 693 1) 685 ((rc 685) + 1)) (1 + 8 * p8 + 7) ((rc (1 + 8 * p8 + 7)) + 1))))]) (w2 := [(m0, .inr (8, [.int rf, .ref sc0, .int (nI ss), .int (nI sp), .int ig, .int lo, .ref rd0, .ref nw0, .ref tr0, .ref di0, .int (nI ac), .ref ke0, .ref ik0, .ref cp0, .ref cn0, .ref be0])), (cp0, .inl (g 0, 10, .inl dn_1000.2.2.1)), (cn0, .inl (g 0, 10, .inl dn_1000.2.2.2.1)), (r0, .inl (g 0, 748, .inl (upd (upd (upd rc 693 1) 685 ((rc 685) + 1)) (1 + 8 * p8 + 7) ((rc (1 + 8 * p8 + 7)) + 1))))]) (va_runV (As := [.int (nI (u - 1))]) (rest := [.ref r0]) ⟨hx, hb, hml, hown, hts⟩ (c_X8_callerAt l D g m0 sc0 rd0 nw0 tr0 di0 ke0 ik0 cp0 cn0 be0 H.size rf ss sp ig lo ac dn_1000.2.2.1 (u - 1) (by omega)) (cwV 1 hts gX8_callIn_X8_callerAt rfl rfl rfl (by decide +kernel) (k_lvl (by omega) (by decide))) (kPV hP hD hK hS hA hE [0, 1] rfl (by decide) 0 8 rfl rfl rfl) rfl rfl hl.1 rfl (lv_room (Nat.le_of_ble_eq_true rfl)) dX8_callIn_303 ⟨Nat.le_of_ble_eq_true rfl, Nat.le_of_ble_eq_true rfl⟩) hP hD hS hA [0, 1] [2, 3] [2, 3, 0, 1] rfl rfl (by decide) (by decide) rfl (by decide) (fun H locs hP hD hS => ?_)
                  refine lv_iload hx hb dX8_callIn_306 (lv_at hl 2 rfl) ?_
                  refine lv_iload hx hb dX8_callIn_308 (lv_at hl 0 rfl) ?_
                  have hC := c_X8_ends l D g r0 H.size (upd (upd (upd rc 693 1) 685 ((rc 685) + 1)) (1 + 8 * p8 + 7) ((rc (1 + 8 * p8 + 7)) + 1)) (f_X8_callerAt dn_1000.2.2.1 (u - 1)) p8 (rc (1 + 8 * p8 + 4)) (by omega) (callerAt_ok hok9 (by omega))
                  obtain ⟨v_20, ev_20⟩ : ∃ z, z = (f_X8_ends (upd (upd (upd rc 693 1) 685 ((rc 685) + 1)) (1 + 8 * p8 + 7) ((rc (1 + 8 * p8 + 7)) + 1)) (f_X8_callerAt dn_1000.2.2.1 (u - 1)) p8 (rc (1 + 8 * p8 + 4))) := ⟨_, rfl⟩
                  rw [← ev_20] at hC
                  refine k_ai (wr := [(m0, .inr (8, [.int rf, .ref sc0, .int (nI ss), .int (nI sp), .int ig, .int lo, .ref rd0, .ref nw0, .ref tr0, .ref di0, .int (nI ac), .ref ke0, .ref ik0, .ref cp0, .ref cn0, .ref be0])), (cp0, .inl (g 0, 10, .inl dn_1000.2.2.1)), (cn0, .inl (g 0, 10, .inl dn_1000.2.2.2.1))]) (w2 := [(m0, .inr (8, [.int rf, .ref sc0, .int (nI ss), .int (nI sp), .int ig, .int lo, .ref rd0, .ref nw0, .ref tr0, .ref di0, .int (nI ac), .ref ke0, .ref ik0, .ref cp0, .ref cn0, .ref be0])), (cp0, .inl (g 0, 10, .inl dn_1000.2.2.1)), (cn0, .inl (g 0, 10, .inl dn_1000.2.2.2.1)), (r0, .inl (g 0, 748, .inl v_20.2))]) (va_runS (As := [.ref r0, .int (f_X8_callerAt dn_1000.2.2.1 (u - 1)), .int (nI p8), .int (rc (1 + 8 * p8 + 4))]) (rest := []) ⟨hx, hb, hml, hown, hts⟩ hC (va_cwS 4 hts gX8_callIn_X8_ends rfl rfl rfl (by decide +kernel) (k_lvl (by omega) (by decide))) (kPS hP hD hK hS hA hE [3] rfl (by decide)) rfl rfl hl.1 rfl (lv_room (Nat.le_of_ble_eq_true rfl)) dX8_callIn_310 ⟨Nat.le_of_ble_eq_true rfl, Nat.le_of_ble_eq_true rfl⟩) hP hD hS hA [3] [0, 1, 2] [0, 1, 2, 3] rfl rfl (by decide) (by decide) rfl (by decide) (fun H locs hP hD hS => ?_)
                  refine lv_if_le (tgt := 320) hx hb dX8_callIn_313 (by decide) (fun c_21 => ?_) (fun c_21 => ?_)
                  · refine lv_iconst (v := 0) hx hb dX8_callIn_320 (by decide) ?_
                    refine lv_istore (lv' := [(5, .int 0), (6, .int (rc (1 + 8 * p8 + 4))), (9, .int 0), (8, .int (nI p8)), (7, .int (nI (u - 1))), (4, .int (nI l8_1500)), (0, .ref m0), (1, .ref r0)]) hx hb dX8_callIn_321 hl (by decide) rfl (fun ls hl => ?_)
                    refine lv_iinc (v := (nI (u - 1) - 1)) (lv' := [(7, .int (nI (u - 1) - 1)), (5, .int 0), (6, .int (rc (1 + 8 * p8 + 4))), (9, .int 0), (8, .int (nI p8)), (4, .int (nI l8_1500)), (0, .ref m0), (1, .ref r0)]) hx hb dX8_callIn_323 hl (k := 4) rfl (k_dec _) (by decide) rfl (fun ls hl => ?_)
                    refine lv_goto (tgt := 151) hx hb dX8_callIn_326 (by decide) ?_
                    exact ih_151 (u - 1) v_20.2 (rc (1 + 8 * p8 + 4)) 0 (by omega) (by omega) (by subst ev_20; subst hp8; exact rEnd_same hok9 (by omega) (((h1.upd (by unfold kFix; omega)).upd (by unfold kFix; omega)).upd (by unfold kFix; omega))) ((rUp_s (by omega) (by subst ev_20; subst hp8; unfold rStep; rw [if_neg c_6, if_neg c_14, if_neg c_17]; unfold rEnd; rw [if_pos c_21])).trans hr9) H locs ls hP hD hS (lv_sub hl [0, 2, 1, 5, 6, 7] rfl)
                  · refine lv_iconst (v := 1) hx hb dX8_callIn_316 (by decide) ?_
                    refine lv_goto (tgt := 321) hx hb dX8_callIn_317 (by decide) ?_
                    refine lv_istore (lv' := [(5, .int 1), (6, .int (rc (1 + 8 * p8 + 4))), (9, .int 0), (8, .int (nI p8)), (7, .int (nI (u - 1))), (4, .int (nI l8_1500)), (0, .ref m0), (1, .ref r0)]) hx hb dX8_callIn_321 hl (by decide) rfl (fun ls hl => ?_)
                    refine lv_iinc (v := (nI (u - 1) - 1)) (lv' := [(7, .int (nI (u - 1) - 1)), (5, .int 1), (6, .int (rc (1 + 8 * p8 + 4))), (9, .int 0), (8, .int (nI p8)), (4, .int (nI l8_1500)), (0, .ref m0), (1, .ref r0)]) hx hb dX8_callIn_323 hl (k := 4) rfl (k_dec _) (by decide) rfl (fun ls hl => ?_)
                    refine lv_goto (tgt := 151) hx hb dX8_callIn_326 (by decide) ?_
                    exact ih_151 (u - 1) v_20.2 (rc (1 + 8 * p8 + 4)) 1 (by omega) (by omega) (by subst ev_20; subst hp8; exact rEnd_same hok9 (by omega) (((h1.upd (by unfold kFix; omega)).upd (by unfold kFix; omega)).upd (by unfold kFix; omega))) ((rUp_s (by omega) (by subst ev_20; subst hp8; unfold rStep; rw [if_neg c_6, if_neg c_14, if_neg c_17]; unfold rEnd; rw [if_neg c_21])).trans hr9) H locs ls hP hD hS (lv_sub hl [0, 2, 1, 5, 6, 7] rfl)
                · refine lv_iconst (v := 1) hx hb dX8_callIn_191 (by decide) ?_
                  refine lv_goto (tgt := 196) hx hb dX8_callIn_192 (by decide) ?_
                  refine lv_istore (lv' := [(9, .int 1), (8, .int (nI p8)), (7, .int (nI (u - 1))), (6, .int v9), (5, .int b9), (4, .int (nI l8_1500)), (0, .ref m0), (1, .ref r0)]) hx hb dX8_callIn_196 hl (by decide) rfl (fun ls hl => ?_)
                  refine lv_iload hx hb dX8_callIn_198 (lv_at hl 0 rfl) ?_
                  refine lv_if_eq (tgt := 226) hx hb dX8_callIn_200 (by decide) (fun c_22 => absurd c_22 (by decide)) (fun _ => ?_)
                  refine lv_aload_n hx hb dX8_callIn_203 rfl (lv_at hl 7 rfl) ?_
                  refine lv_sipush (v := 692) hx hb dX8_callIn_204 (by decide) ?_
                  refine lv_dup2_11 hx hb dX8_callIn_207 rfl rfl ?_
                  refine va_iald (i := 692) hx hb hK hP 3 0 rfl rfl (vp_in_nI (n := 692) (by decide) (by decide)) dX8_callIn_208 ?_
                  refine k_top (y := (rc 692)) rfl ?_
                  refine lv_iload hx hb dX8_callIn_209 (lv_at hl 2 rfl) ?_
                  refine lv_iload hx hb dX8_callIn_211 (lv_at hl 5 rfl) ?_
                  refine lv_icmp_ne (tgt := 220) hx hb dX8_callIn_213 (by decide) (fun _ => ?_) (fun c_23 => absurd ((nI_eq (a := (u - 1)) (b := l8_1500) (by omega) (by omega)).mp c_23) c_14)
                  refine lv_iconst (v := 1) hx hb dX8_callIn_220 (by decide) ?_
                  refine lv_iadd hx hb dX8_callIn_221 ?_
                  refine va_iast (i := 692) (x := ((rc 692) + 1)) hx hb hK hP hD hS 3 0 rfl rfl (vp_in_nI (n := 692) (by decide) (by decide)) dX8_callIn_222 (fun H locs hP hD hS => ?_)
                  have hP : va_P D vwCl [(m0, .inr (8, [.int rf, .ref sc0, .int (nI ss), .int (nI sp), .int ig, .int lo, .ref rd0, .ref nw0, .ref tr0, .ref di0, .int (nI ac), .ref ke0, .ref ik0, .ref cp0, .ref cn0, .ref be0])), (cp0, .inl (g 0, 10, .inl dn_1000.2.2.1)), (cn0, .inl (g 0, 10, .inl dn_1000.2.2.2.1)), (r0, .inl (g 0, 748, .inl (upd rc 692 ((rc 692) + 1))))] H := hP
                  have hD : va_D A [(m0, .inr (8, [.int rf, .ref sc0, .int (nI ss), .int (nI sp), .int ig, .int lo, .ref rd0, .ref nw0, .ref tr0, .ref di0, .int (nI ac), .ref ke0, .ref ik0, .ref cp0, .ref cn0, .ref be0])), (cp0, .inl (g 0, 10, .inl dn_1000.2.2.1)), (cn0, .inl (g 0, 10, .inl dn_1000.2.2.2.1)), (r0, .inl (g 0, 748, .inl (upd rc 692 ((rc 692) + 1))))] := hD
                  refine lv_goto (tgt := 323) hx hb dX8_callIn_223 (by decide) ?_
                  refine lv_iinc (v := (nI (u - 1) - 1)) (lv' := [(7, .int (nI (u - 1) - 1)), (9, .int 1), (8, .int (nI p8)), (6, .int v9), (5, .int b9), (4, .int (nI l8_1500)), (0, .ref m0), (1, .ref r0)]) hx hb dX8_callIn_323 hl (k := 2) rfl (k_dec _) (by decide) rfl (fun ls hl => ?_)
                  refine lv_goto (tgt := 151) hx hb dX8_callIn_326 (by decide) ?_
                  exact ih_151 (u - 1) (upd rc 692 ((rc 692) + 1)) v9 b9 (by omega) (by omega) (h1.upd (by unfold kFix; omega)) ((rUp_s (by omega) (by subst hp8; unfold rStep; rw [if_neg c_6, if_neg c_14, if_pos c_17])).trans hr9) H locs ls hP hD hS (lv_sub hl [0, 3, 4, 5, 6, 7] rfl)
      exact hloop_151 ((l8_1500 + 1) + 1) (l8_1500 + 1) dn_1000.1 0 dn_1000.2.2.2.2 (Nat.lt_succ_self _) (by omega) hs9 hup.symm H locs ls hP hD hS (lv_sub hl [0, 1, 2, 3, 4, 5] rfl)
    have hloop_45 : ∀ (nn_45 : Nat) (f : Nat) (lv : Nat) (b : Int32) (rc : Nat → Int32) (cf : Nat → Int32) (nf : Nat → Int32), f < nn_45 → ∀ (hf : lv + f = 10) (h1 : kSame rw rc) (h2 : rOk lv cf) (hr9 : rDn f rc lv cf nf b = dn_1000) (H : Heap) (locs : List Loc) (ls : Array Slot), va_P D vwCl [(m0, .inr (8, [.int rf, .ref sc0, .int (nI ss), .int (nI sp), .int ig, .int lo, .ref rd0, .ref nw0, .ref tr0, .ref di0, .int (nI ac), .ref ke0, .ref ik0, .ref cp0, .ref cn0, .ref be0])), (cp0, .inl (g 0, 10, .inl cf)), (cn0, .inl (g 0, 10, .inl nf)), (r0, .inl (g 0, 748, .inl rc))] H → va_D A [(m0, .inr (8, [.int rf, .ref sc0, .int (nI ss), .int (nI sp), .int ig, .int lo, .ref rd0, .ref nw0, .ref tr0, .ref di0, .int (nI ac), .ref ke0, .ref ik0, .ref cp0, .ref cn0, .ref be0])), (cp0, .inl (g 0, 10, .inl cf)), (cn0, .inl (g 0, 10, .inl nf)), (r0, .inl (g 0, 748, .inl rc))] → va_S A s.heap H locs → lv_has ls 10 [(5, .int b), (4, .int (nI lv)), (0, .ref m0), (1, .ref r0), (2, .int (nI pa)), (3, .int x)] → W pp l ee (kR 5 0 0) s mm args below meth cc H locs 0 0 Q (F0 mm 45 ls []) := by
      intro nn_45
      induction nn_45 with
      | zero => intro f lv b rc cf nf hm9; exact absurd hm9 (Nat.not_lt_zero _)
      | succ nn_45 ih_45 =>
        intro f lv b rc cf nf hm_45 hf h1 h2 hr9 H locs ls hP hD hS hl
        obtain ⟨p9, hp9⟩ : ∃ z, z = (cf lv).toNatClampNeg := ⟨_, rfl⟩
        have hpe9 : cf lv = nI p9 := by rw [hp9]; exact (h2.1 lv (Nat.le_refl _)).1
        have hpl9 : p9 + lv ≤ 9 := by rw [hp9]; exact h2.2
        refine lv_iload hx hb dX8_callIn_45 (lv_at hl 0 rfl) ?_
        refine lv_if_ne (tgt := 144) hx hb dX8_callIn_47 (by decide) (fun c_24 => ?_) (fun c_24 => ?_)
        · have h9 := hr9.symm.trans (rDn_b c_24)
          have e1 : rc = dn_1000.1 := by rw [h9]
          have e2 : lv = dn_1000.2.1 := by rw [h9]
          have e3 : cf = dn_1000.2.2.1 := by rw [h9]
          have e4 : nf = dn_1000.2.2.2.1 := by rw [h9]
          have e5 : b = dn_1000.2.2.2.2 := by rw [h9]
          clear hr9 h9
          subst hp9
          subst e1 e2 e3 e4 e5
          exact hcont_45 _ rfl H locs ls hP hD hS (lv_sub hl [0, 1, 2, 3, 4, 5] rfl)
        · refine lv_aload_n hx hb dX8_callIn_50 rfl (lv_at hl 3 rfl) ?_
          refine lv_aload_n hx hb dX8_callIn_51 rfl (lv_at hl 2 rfl) ?_
          refine va_get (D := D) (ci := 8) (v := .ref cp0) (C := RX8) (T := TX8) (N := 16) hx hb hts (fun w h => (List.mem_cons_of_mem _ (List.mem_append_right _ h))) hown hK hP 0 rfl rfl 13 (by decide) (hts _ qX8_callIn_0) (fun _ h9 => h9) rfl dX8_callIn_52 ?_
          refine lv_iload hx hb dX8_callIn_55 (lv_at hl 1 rfl) ?_
          refine va_iald (i := (nI lv)) hx hb hK hP 1 0 rfl rfl (vp_in_nI (n := lv) (by omega) (by omega)) dX8_callIn_57 ?_
          refine k_top (y := (cf lv)) (by rw [nI_clamp (by omega)]) ?_
          refine k_top (y := (nI p9)) (hpe9) ?_
          refine k_ai (wr := [(m0, .inr (8, [.int rf, .ref sc0, .int (nI ss), .int (nI sp), .int ig, .int lo, .ref rd0, .ref nw0, .ref tr0, .ref di0, .int (nI ac), .ref ke0, .ref ik0, .ref cp0, .ref cn0, .ref be0])), (cp0, .inl (g 0, 10, .inl cf)), (cn0, .inl (g 0, 10, .inl nf))]) (w2 := [(m0, .inr (8, [.int rf, .ref sc0, .int (nI ss), .int (nI sp), .int ig, .int lo, .ref rd0, .ref nw0, .ref tr0, .ref di0, .int (nI ac), .ref ke0, .ref ik0, .ref cp0, .ref cn0, .ref be0])), (cp0, .inl (g 0, 10, .inl cf)), (cn0, .inl (g 0, 10, .inl nf)), (r0, .inl (g 0, 748, .inl rc))]) (va_runS (As := [.ref r0, .int (nI p9)]) (rest := []) ⟨hx, hb, hml, hown, hts⟩ (c_X8_next l D g r0 H.size rc p9 (by omega)) (va_cwS 2 hts gX8_callIn_X8_next rfl rfl rfl (by decide +kernel) (k_lvl (by omega) (by decide))) (kPS hP hD hK hS hA hE [3] rfl (by decide)) rfl rfl hl.1 rfl (lv_room (Nat.le_of_ble_eq_true rfl)) dX8_callIn_58 ⟨Nat.le_of_ble_eq_true rfl, Nat.le_of_ble_eq_true rfl⟩) hP hD hS hA [3] [0, 1, 2] [0, 1, 2, 3] rfl rfl (by decide) (by decide) rfl (by decide) (fun H locs hP hD hS => ?_)
          refine lv_if_lt (tgt := 144) hx hb dX8_callIn_61 (by decide) (fun c_25 => ?_) (fun c_25 => ?_)
          · have h9 := hr9.symm.trans (rDn_n (by rw [← hp9]; exact c_25))
            have e1 : rc = dn_1000.1 := by rw [h9]
            have e2 : lv = dn_1000.2.1 := by rw [h9]
            have e3 : cf = dn_1000.2.2.1 := by rw [h9]
            have e4 : nf = dn_1000.2.2.2.1 := by rw [h9]
            have e5 : b = dn_1000.2.2.2.2 := by rw [h9]
            clear hr9 h9
            subst hp9
            subst e1 e2 e3 e4 e5
            exact hcont_45 _ rfl H locs ls hP hD hS (lv_sub hl [0, 1, 2, 3, 4, 5] rfl)
          · have hnn9 := c_25
            have hcl9 : nI p9 = -10000 ∨ ¬ nI p9 < 0 ∧ ¬ 10 ≤ nI p9 := Or.inr ⟨nI_pos (by omega), fun h => by have := (nI_leI (a := 10) (by omega) (by omega)).mp h; omega⟩
            obtain ⟨q9, hq9⟩ : ∃ z, z = (f_X8_next rc p9).toNatClampNeg := ⟨_, rfl⟩
            have hqe9 : f_X8_next rc p9 = nI q9 := by rw [hq9]; exact k_cl hnn9
            have hql : q9 < p9 := by rw [hq9]; exact next_lt (rNx_same h1 hR) (by omega) hnn9
            refine lv_aload_n hx hb dX8_callIn_64 rfl (lv_at hl 2 rfl) ?_
            refine va_get (D := D) (ci := 8) (v := .ref cp0) (C := RX8) (T := TX8) (N := 16) hx hb hts (fun w h => (List.mem_cons_of_mem _ (List.mem_append_right _ h))) hown hK hP 0 rfl rfl 13 (by decide) (hts _ qX8_callIn_0) (fun _ h9 => h9) rfl dX8_callIn_65 ?_
            refine lv_iload hx hb dX8_callIn_68 (lv_at hl 1 rfl) ?_
            refine va_iald (i := (nI lv)) hx hb hK hP 1 0 rfl rfl (vp_in_nI (n := lv) (by omega) (by omega)) dX8_callIn_70 ?_
            refine k_top (y := (cf lv)) (by rw [nI_clamp (by omega)]) ?_
            refine k_top (y := (nI p9)) (hpe9) ?_
            refine lv_istore (lv' := [(6, .int (nI p9)), (5, .int b), (4, .int (nI lv)), (0, .ref m0), (1, .ref r0), (2, .int (nI pa)), (3, .int x)]) hx hb dX8_callIn_71 hl (by decide) rfl (fun ls hl => ?_)
            refine lv_aload_n hx hb dX8_callIn_73 rfl (lv_at hl 3 rfl) ?_
            refine va_get (D := D) (ci := 8) (v := .ref cn0) (C := RX8) (T := TX8) (N := 16) hx hb hts (fun w h => (List.mem_cons_of_mem _ (List.mem_append_right _ h))) hown hK hP 0 rfl rfl 14 (by decide) (hts _ qX8_callIn_1) (fun _ h9 => h9) rfl dX8_callIn_74 ?_
            refine lv_iload hx hb dX8_callIn_77 (lv_at hl 2 rfl) ?_
            refine va_iald (i := (nI lv)) hx hb hK hP 2 0 rfl rfl (vp_in_nI (n := lv) (by omega) (by omega)) dX8_callIn_79 ?_
            refine k_top (y := (nf lv)) (by rw [nI_clamp (by omega)]) ?_
            refine lv_aload_n hx hb dX8_callIn_80 rfl (lv_at hl 4 rfl) ?_
            refine lv_iload hx hb dX8_callIn_81 (lv_at hl 0 rfl) ?_
            refine lv_iconst (v := 3) hx hb dX8_callIn_83 (by decide) ?_
            refine k_ai (wr := [(m0, .inr (8, [.int rf, .ref sc0, .int (nI ss), .int (nI sp), .int ig, .int lo, .ref rd0, .ref nw0, .ref tr0, .ref di0, .int (nI ac), .ref ke0, .ref ik0, .ref cp0, .ref cn0, .ref be0])), (cp0, .inl (g 0, 10, .inl cf)), (cn0, .inl (g 0, 10, .inl nf)), (r0, .inl (g 0, 748, .inl rc))]) (w2 := [(m0, .inr (8, [.int rf, .ref sc0, .int (nI ss), .int (nI sp), .int ig, .int lo, .ref rd0, .ref nw0, .ref tr0, .ref di0, .int (nI ac), .ref ke0, .ref ik0, .ref cp0, .ref cn0, .ref be0])), (cp0, .inl (g 0, 10, .inl cf)), (cn0, .inl (g 0, 10, .inl nf)), (r0, .inl (g 0, 748, .inl rc))]) (va_runS (As := [.int (nI p9), .int 3]) (rest := [.ref r0, .int (nf lv)]) ⟨hx, hb, hml, hown, hts⟩ (c_X8_partAt l D g H.size p9 3) (va_cwS 2 hts gX8_callIn_X8_partAt rfl rfl rfl (by decide +kernel) (k_lvl (by omega) (by decide))) (kPS hP hD hK hS hA hE [] rfl (by decide)) rfl rfl hl.1 rfl (lv_room (Nat.le_of_ble_eq_true rfl)) dX8_callIn_84 ⟨Nat.le_of_ble_eq_true rfl, Nat.le_of_ble_eq_true rfl⟩) hP hD hS hA [] [0, 1, 2, 3] [0, 1, 2, 3] rfl rfl (by decide) (by decide) rfl (by decide) (fun H locs hP hD hS => ?_)
            refine va_iald (i := (nI (1 + 8 * p9 + 3))) hx hb hK hP 3 0 rfl rfl (vp_in_nI (n := (1 + 8 * p9 + 3)) (by omega) (by omega)) dX8_callIn_87 ?_
            refine k_top (y := (rc (1 + 8 * p9 + 3))) (by rw [nI_clamp (by omega)]) ?_
            refine lv_iadd hx hb dX8_callIn_88 ?_
            refine lv_istore (lv' := [(7, .int ((nf lv) + (rc (1 + 8 * p9 + 3)))), (6, .int (nI p9)), (5, .int b), (4, .int (nI lv)), (0, .ref m0), (1, .ref r0), (2, .int (nI pa)), (3, .int x)]) hx hb dX8_callIn_89 hl (by decide) rfl (fun ls hl => ?_)
            refine lv_iinc (v := (nI (lv + 1))) (lv' := [(4, .int (nI (lv + 1))), (7, .int ((nf lv) + (rc (1 + 8 * p9 + 3)))), (6, .int (nI p9)), (5, .int b), (0, .ref m0), (1, .ref r0), (2, .int (nI pa)), (3, .int x)]) hx hb dX8_callIn_91 hl (k := 3) rfl (nI_1 _) (by decide) rfl (fun ls hl => ?_)
            refine lv_aload_n hx hb dX8_callIn_94 rfl (lv_at hl 4 rfl) ?_
            refine va_get (D := D) (ci := 8) (v := .ref cp0) (C := RX8) (T := TX8) (N := 16) hx hb hts (fun w h => (List.mem_cons_of_mem _ (List.mem_append_right _ h))) hown hK hP 0 rfl rfl 13 (by decide) (hts _ qX8_callIn_0) (fun _ h9 => h9) rfl dX8_callIn_95 ?_
            refine lv_iload hx hb dX8_callIn_98 (lv_at hl 0 rfl) ?_
            refine lv_aload_n hx hb dX8_callIn_100 rfl (lv_at hl 5 rfl) ?_
            refine lv_iload hx hb dX8_callIn_101 (lv_at hl 2 rfl) ?_
            refine k_ai (wr := [(m0, .inr (8, [.int rf, .ref sc0, .int (nI ss), .int (nI sp), .int ig, .int lo, .ref rd0, .ref nw0, .ref tr0, .ref di0, .int (nI ac), .ref ke0, .ref ik0, .ref cp0, .ref cn0, .ref be0])), (cp0, .inl (g 0, 10, .inl cf)), (cn0, .inl (g 0, 10, .inl nf))]) (w2 := [(m0, .inr (8, [.int rf, .ref sc0, .int (nI ss), .int (nI sp), .int ig, .int lo, .ref rd0, .ref nw0, .ref tr0, .ref di0, .int (nI ac), .ref ke0, .ref ik0, .ref cp0, .ref cn0, .ref be0])), (cp0, .inl (g 0, 10, .inl cf)), (cn0, .inl (g 0, 10, .inl nf)), (r0, .inl (g 0, 748, .inl rc))]) (va_runS (As := [.ref r0, .int (nI p9)]) (rest := [.int (nI (lv + 1)), .ref cp0]) ⟨hx, hb, hml, hown, hts⟩ (c_X8_next l D g r0 H.size rc p9 (by omega)) (va_cwS 2 hts gX8_callIn_X8_next rfl rfl rfl (by decide +kernel) (k_lvl (by omega) (by decide))) (kPS hP hD hK hS hA hE [3] rfl (by decide)) rfl rfl hl.1 rfl (lv_room (Nat.le_of_ble_eq_true rfl)) dX8_callIn_103 ⟨Nat.le_of_ble_eq_true rfl, Nat.le_of_ble_eq_true rfl⟩) hP hD hS hA [3] [0, 1, 2] [0, 1, 2, 3] rfl rfl (by decide) (by decide) rfl (by decide) (fun H locs hP hD hS => ?_)
            refine va_iast (i := (nI (lv + 1))) (x := (f_X8_next rc p9)) hx hb hK hP hD hS 1 0 rfl rfl (vp_in_nI (n := (lv + 1)) (by omega) (by omega)) dX8_callIn_106 (fun H locs hP hD hS => ?_)
            rw [nI_clamp (n := (lv + 1)) (by omega)] at hP hD
            have hP : va_P D vwCl [(m0, .inr (8, [.int rf, .ref sc0, .int (nI ss), .int (nI sp), .int ig, .int lo, .ref rd0, .ref nw0, .ref tr0, .ref di0, .int (nI ac), .ref ke0, .ref ik0, .ref cp0, .ref cn0, .ref be0])), (cp0, .inl (g 0, 10, .inl (upd cf (lv + 1) (f_X8_next rc p9)))), (cn0, .inl (g 0, 10, .inl nf)), (r0, .inl (g 0, 748, .inl rc))] H := hP
            have hD : va_D A [(m0, .inr (8, [.int rf, .ref sc0, .int (nI ss), .int (nI sp), .int ig, .int lo, .ref rd0, .ref nw0, .ref tr0, .ref di0, .int (nI ac), .ref ke0, .ref ik0, .ref cp0, .ref cn0, .ref be0])), (cp0, .inl (g 0, 10, .inl (upd cf (lv + 1) (f_X8_next rc p9)))), (cn0, .inl (g 0, 10, .inl nf)), (r0, .inl (g 0, 748, .inl rc))] := hD
            refine lv_aload_n hx hb dX8_callIn_107 rfl (lv_at hl 4 rfl) ?_
            refine va_get (D := D) (ci := 8) (v := .ref cn0) (C := RX8) (T := TX8) (N := 16) hx hb hts (fun w h => (List.mem_cons_of_mem _ (List.mem_append_right _ h))) hown hK hP 0 rfl rfl 14 (by decide) (hts _ qX8_callIn_1) (fun _ h9 => h9) rfl dX8_callIn_108 ?_
            refine lv_iload hx hb dX8_callIn_111 (lv_at hl 0 rfl) ?_
            refine lv_iload hx hb dX8_callIn_113 (lv_at hl 1 rfl) ?_
            refine va_iast (i := (nI (lv + 1))) (x := ((nf lv) + (rc (1 + 8 * p9 + 3)))) hx hb hK hP hD hS 2 0 rfl rfl (vp_in_nI (n := (lv + 1)) (by omega) (by omega)) dX8_callIn_115 (fun H locs hP hD hS => ?_)
            rw [nI_clamp (n := (lv + 1)) (by omega)] at hP hD
            have hP : va_P D vwCl [(m0, .inr (8, [.int rf, .ref sc0, .int (nI ss), .int (nI sp), .int ig, .int lo, .ref rd0, .ref nw0, .ref tr0, .ref di0, .int (nI ac), .ref ke0, .ref ik0, .ref cp0, .ref cn0, .ref be0])), (cp0, .inl (g 0, 10, .inl (upd cf (lv + 1) (f_X8_next rc p9)))), (cn0, .inl (g 0, 10, .inl (upd nf (lv + 1) ((nf lv) + (rc (1 + 8 * p9 + 3)))))), (r0, .inl (g 0, 748, .inl rc))] H := hP
            have hD : va_D A [(m0, .inr (8, [.int rf, .ref sc0, .int (nI ss), .int (nI sp), .int ig, .int lo, .ref rd0, .ref nw0, .ref tr0, .ref di0, .int (nI ac), .ref ke0, .ref ik0, .ref cp0, .ref cn0, .ref be0])), (cp0, .inl (g 0, 10, .inl (upd cf (lv + 1) (f_X8_next rc p9)))), (cn0, .inl (g 0, 10, .inl (upd nf (lv + 1) ((nf lv) + (rc (1 + 8 * p9 + 3)))))), (r0, .inl (g 0, 748, .inl rc))] := hD
            refine lv_aload_n hx hb dX8_callIn_116 rfl (lv_at hl 5 rfl) ?_
            refine lv_iload hx hb dX8_callIn_117 (lv_at hl 2 rfl) ?_
            refine lv_aload_n hx hb dX8_callIn_119 rfl (lv_at hl 4 rfl) ?_
            refine va_get (D := D) (ci := 8) (v := .ref cp0) (C := RX8) (T := TX8) (N := 16) hx hb hts (fun w h => (List.mem_cons_of_mem _ (List.mem_append_right _ h))) hown hK hP 0 rfl rfl 13 (by decide) (hts _ qX8_callIn_0) (fun _ h9 => h9) rfl dX8_callIn_120 ?_
            refine lv_iload hx hb dX8_callIn_123 (lv_at hl 0 rfl) ?_
            refine va_iald (i := (nI (lv + 1))) hx hb hK hP 1 0 rfl rfl (vp_in_nI (n := (lv + 1)) (by omega) (by omega)) dX8_callIn_125 ?_
            refine k_top (y := ((upd cf (lv + 1) (f_X8_next rc p9)) (lv + 1))) (by rw [nI_clamp (by omega)]) ?_
            refine k_top (y := (f_X8_next rc p9)) (by rw [pk_us]) ?_
            refine k_top (y := (nI q9)) (hqe9) ?_
            refine lv_iload hx hb dX8_callIn_126 (lv_at hl 1 rfl) ?_
            have hC := c_X8_begins l D g r0 H.size rc (nI p9) q9 ((nf lv) + (rc (1 + 8 * p9 + 3))) (by omega) hcl9
            obtain ⟨v_26, ev_26⟩ : ∃ z, z = (f_X8_begins rc (nI p9) q9 ((nf lv) + (rc (1 + 8 * p9 + 3)))) := ⟨_, rfl⟩
            rw [← ev_26] at hC
            refine k_ai (wr := [(m0, .inr (8, [.int rf, .ref sc0, .int (nI ss), .int (nI sp), .int ig, .int lo, .ref rd0, .ref nw0, .ref tr0, .ref di0, .int (nI ac), .ref ke0, .ref ik0, .ref cp0, .ref cn0, .ref be0])), (cp0, .inl (g 0, 10, .inl (upd cf (lv + 1) (f_X8_next rc p9)))), (cn0, .inl (g 0, 10, .inl (upd nf (lv + 1) ((nf lv) + (rc (1 + 8 * p9 + 3))))))]) (w2 := [(m0, .inr (8, [.int rf, .ref sc0, .int (nI ss), .int (nI sp), .int ig, .int lo, .ref rd0, .ref nw0, .ref tr0, .ref di0, .int (nI ac), .ref ke0, .ref ik0, .ref cp0, .ref cn0, .ref be0])), (cp0, .inl (g 0, 10, .inl (upd cf (lv + 1) (f_X8_next rc p9)))), (cn0, .inl (g 0, 10, .inl (upd nf (lv + 1) ((nf lv) + (rc (1 + 8 * p9 + 3)))))), (r0, .inl (g 0, 748, .inl v_26.2))]) (va_runS (As := [.ref r0, .int (nI p9), .int (nI q9), .int ((nf lv) + (rc (1 + 8 * p9 + 3)))]) (rest := []) ⟨hx, hb, hml, hown, hts⟩ hC (va_cwS 4 hts gX8_callIn_X8_begins rfl rfl rfl (by decide +kernel) (k_lvl (by omega) (by decide))) (kPS hP hD hK hS hA hE [3] rfl (by decide)) rfl rfl hl.1 rfl (lv_room (Nat.le_of_ble_eq_true rfl)) dX8_callIn_128 ⟨Nat.le_of_ble_eq_true rfl, Nat.le_of_ble_eq_true rfl⟩) hP hD hS hA [3] [0, 1, 2] [0, 1, 2, 3] rfl rfl (by decide) (by decide) rfl (by decide) (fun H locs hP hD hS => ?_)
            refine lv_if_le (tgt := 138) hx hb dX8_callIn_131 (by decide) (fun c_27 => ?_) (fun c_27 => ?_)
            · refine lv_iconst (v := 0) hx hb dX8_callIn_138 (by decide) ?_
              refine lv_istore (lv' := [(5, .int 0), (4, .int (nI (lv + 1))), (7, .int ((nf lv) + (rc (1 + 8 * p9 + 3)))), (6, .int (nI p9)), (0, .ref m0), (1, .ref r0), (2, .int (nI pa)), (3, .int x)]) hx hb dX8_callIn_139 hl (by decide) rfl (fun ls hl => ?_)
              refine lv_goto (tgt := 45) hx hb dX8_callIn_141 (by decide) ?_
              exact ih_45 (f - 1) (lv + 1) 0 v_26.2 (upd cf (lv + 1) (f_X8_next rc p9)) (upd nf (lv + 1) ((nf lv) + (rc (1 + 8 * p9 + 3)))) (by omega) (by omega) (h1.trans (by rw [ev_26]; exact f_X8_begins_same (by omega) hcl9)) (by subst hq9 hp9; exact rOk_s h2 c_25 hql) (by subst hq9 hp9; exact (rDn_s (by omega) c_24 c_25 ev_26 (by rw [if_pos c_27])).trans hr9) H locs ls hP hD hS (lv_sub hl [0, 1, 4, 5, 6, 7] rfl)
            · refine lv_iconst (v := 1) hx hb dX8_callIn_134 (by decide) ?_
              refine lv_goto (tgt := 139) hx hb dX8_callIn_135 (by decide) ?_
              refine lv_istore (lv' := [(5, .int 1), (4, .int (nI (lv + 1))), (7, .int ((nf lv) + (rc (1 + 8 * p9 + 3)))), (6, .int (nI p9)), (0, .ref m0), (1, .ref r0), (2, .int (nI pa)), (3, .int x)]) hx hb dX8_callIn_139 hl (by decide) rfl (fun ls hl => ?_)
              refine lv_goto (tgt := 45) hx hb dX8_callIn_141 (by decide) ?_
              exact ih_45 (f - 1) (lv + 1) 1 v_26.2 (upd cf (lv + 1) (f_X8_next rc p9)) (upd nf (lv + 1) ((nf lv) + (rc (1 + 8 * p9 + 3)))) (by omega) (by omega) (h1.trans (by rw [ev_26]; exact f_X8_begins_same (by omega) hcl9)) (by subst hq9 hp9; exact rOk_s h2 c_25 hql) (by subst hq9 hp9; exact (rDn_s (by omega) c_24 c_25 ev_26 (by rw [if_neg c_27])).trans hr9) H locs ls hP hD hS (lv_sub hl [0, 1, 4, 5, 6, 7] rfl)
    exact hloop_45 (10 + 1) 10 0 b0_1200 v_1.2 (upd cp 0 (nI pa)) (upd cn 0 x) (Nat.lt_succ_self _) (by omega) (by rw [ev_1]; exact (kSame.rf.upd (by unfold kFix; omega)).trans (f_X8_begins_same hpa (Or.inl rfl))) (rOk_0 hpa) (by rw [hdn, hb0]; subst ev_1; rfl) H locs ls hP hD hS (lv_sub hl [0, 1, 2, 3, 4, 5] rfl)
  refine lv_if_le (tgt := 42) hx hb dX8_callIn_35 (by decide) (fun c_28 => ?_) (fun c_28 => ?_)
  · refine lv_iconst (v := 0) hx hb dX8_callIn_42 (by decide) ?_
    refine lv_istore (lv' := [(5, .int 0), (4, .int 0), (0, .ref m0), (1, .ref r0), (2, .int (nI pa)), (3, .int x)]) hx hb dX8_callIn_43 hl (by decide) rfl (fun ls hl => ?_)
    exact hjoin_45 _ (by rw [if_pos c_28]) H locs ls hP hD hS (lv_sub hl [0, 1, 2, 3, 4, 5] rfl)
  · refine lv_iconst (v := 1) hx hb dX8_callIn_38 (by decide) ?_
    refine lv_goto (tgt := 43) hx hb dX8_callIn_39 (by decide) ?_
    refine lv_istore (lv' := [(5, .int 1), (4, .int 0), (0, .ref m0), (1, .ref r0), (2, .int (nI pa)), (3, .int x)]) hx hb dX8_callIn_43 hl (by decide) rfl (fun ls hl => ?_)
    exact hjoin_45 _ (by rw [if_neg c_28]) H locs ls hP hD hS (lv_sub hl [0, 1, 2, 3, 4, 5] rfl)
