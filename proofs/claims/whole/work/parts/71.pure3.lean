-- THE PURE PART, 3: a call of both
noncomputable section
theorem find_ne {bnd : Nat → Int32} {caller : Int32} {row p : Nat} (h : kCal caller row p) (hp : p < 10) : f_X1_find bnd caller (nI p) = -10000 ↔ bnd ((row * 10 + p) * 4) = -10000 := by
  have h1 := kCal_lt h
  rw [find_N h hp]
  by_cases hb : bnd ((row * 10 + p) * 4) = -10000
  · rw [if_pos hb]; exact ⟨fun _ => hb, fun _ => rfl⟩
  · rw [if_neg hb]; exact ⟨fun q => absurd q (nI_ne (by omega)), fun q => absurd q hb⟩
theorem hasT {mn row p : Nat} {bnd rw : Nat → Int32} {caller : Int32} (h : pBnd mn bnd rw) (hc : kCal caller row p) (hp : p < 10) : f_X8_hasContract rw (kSide caller) p = 0 ↔ f_X1_find bnd caller (nI p) = -10000 := by
  rw [kCal_side hc, hasC_N h (kCal_lt hc) hp, find_ne hc hp]
theorem askT {mn row p : Nat} {bnd rw : Nat → Int32} {caller : Int32} (h : pBnd mn bnd rw) (hc : kCal caller row p) (hp : p < 10) (x : Int32) : f_X8_asks rw (kSide caller) p x = 0 ↔ (¬ f_X1_find bnd caller (nI p) = -10000 ∧ f_X1_asks bnd (f_X1_find bnd caller (nI p)) x = 0) := by
  rw [find_ne hc hp, kCal_side hc]
  by_cases hb : bnd ((row * 10 + p) * 4) = -10000
  · rw [asks_no h (kCal_lt hc) hp hb]
    exact ⟨fun q => absurd q (by decide), fun q => absurd hb q.1⟩
  · rw [asks_N h (kCal_lt hc) hp hb, find_N hc hp, if_neg hb]
    exact ⟨fun q => ⟨hb, q⟩, fun q => q.2⟩
theorem giveT {mn row p : Nat} {bnd rw : Nat → Int32} {caller : Int32} (h : pBnd mn bnd rw) (hc : kCal caller row p) (hp : p < 10) (x : Int32) : f_X8_gives rw (kSide caller) p x = 0 ↔ (¬ f_X1_find bnd caller (nI p) = -10000 ∧ f_X1_gives bnd (f_X1_find bnd caller (nI p)) x = 0) := by
  rw [find_ne hc hp, kCal_side hc]
  by_cases hb : bnd ((row * 10 + p) * 4) = -10000
  · rw [gives_no h (kCal_lt hc) hp hb]
    exact ⟨fun q => absurd q (by decide), fun q => absurd hb q.1⟩
  · rw [gives_N h (kCal_lt hc) hp hb, find_N hc hp, if_neg hb]
    exact ⟨fun q => ⟨hb, q⟩, fun q => q.2⟩
theorem kCal_own (p : Nat) : kCal (-10001) 11 p := Or.inl ⟨rfl, rfl⟩
theorem side_own : kSide (-10001) = 0 := by decide
/-- what a part's call comes to, of both -/
def pOut (mn : Nat) (cf co : Int32) (bnd : Nat → Int32) (K : KRes) (T : KUp) : Prop := K.1 = (if T.2.2 = 0 then T.2.1 else -10000) ∧ (T.2.2 = 0 → ¬ T.2.1 = -10000) ∧ pRel mn K.2.1 cf K.2.2.1 co K.2.2.2.1 K.2.2.2.2.1 bnd K.2.2.2.2.2.1 K.2.2.2.2.2.2 T.1 ∧ (T.2.2 = 0 ∨ pBad T.1)
theorem pOut_bad {mn : Nat} {cf co : Int32} {bnd : Nat → Int32} {K : KRes} {T : KUp} (h1 : K.1 = -10000) (h2 : T.2.2 = 1) (h3 : pRel mn K.2.1 cf K.2.2.1 co K.2.2.2.1 K.2.2.2.2.1 bnd K.2.2.2.2.2.1 K.2.2.2.2.2.2 T.1) (h4 : pBad T.1) : pOut mn cf co bnd K T :=
  ⟨by rw [h2, if_neg (by decide)]; exact h1, fun q => absurd (h2.symm.trans q) (by decide), h3, Or.inr h4⟩
theorem pOut_good {mn : Nat} {cf co : Int32} {bnd : Nat → Int32} {K : KRes} {T : KUp} (h1 : K.1 = T.2.1) (hv : ¬ T.2.1 = -10000) (h2 : T.2.2 = 0) (h3 : pRel mn K.2.1 cf K.2.2.1 co K.2.2.2.1 K.2.2.2.2.1 bnd K.2.2.2.2.2.1 K.2.2.2.2.2.2 T.1) : pOut mn cf co bnd K T :=
  ⟨by rw [h2, if_pos rfl]; exact h1, fun _ => hv, h3, Or.inl h2⟩
/-- a part's number is there: of both -/
theorem fin_rel {mn row p : Nat} {cl cf ar co ct : Int32} {num bnd : Nat → Int32} {kp caller v : Int32} {blm rw : Nat → Int32} (hp : p < mn) (hc : kCal caller row p) (hco : caller = -10000 ∨ ∃ c : Nat, c < mn ∧ caller = nI c) (hv : ¬ v = -10000) (h : pRel mn cl cf ar co ct num bnd kp blm rw) : pOut mn cf co bnd (cFin bnd caller (nI p) (v, cl, ar, ct, num, kp, blm)) (rEnd1 caller p rw v) := by
  have hm := h.1
  have hB := h.2.2.2.2.2.2.2.2.1
  have o1 := giveT hB (kCal_own p) (show p < 10 by omega) v
  have o2 := hasT hB (kCal_own p) (show p < 10 by omega)
  rw [side_own] at o1 o2
  have c1 := giveT hB hc (show p < 10 by omega) v
  unfold cFin rEnd1 f_X8_ends
  dsimp only
  rw [if_neg hv]
  by_cases t1 : f_X8_gives rw 0 p v = 0
  · rw [if_pos (o1.mp t1), if_pos t1]
    obtain ⟨a1, a2, a3⟩ := pRel_accuse (x := v) (kind := 2) hp hco (by decide) h
    exact pOut_bad a1 rfl a2 a3
  · rw [if_neg (fun q => t1 (o1.mpr q)), if_neg t1]
    by_cases t2 : f_X8_gives rw (kSide caller) p v = 0
    · rw [if_pos (c1.mp t2), if_pos t2]
      by_cases t3 : f_X8_hasContract rw 0 p = 0
      · rw [if_pos (o2.mp t3), if_pos t3]
        obtain ⟨a1, a2, a3⟩ := pRel_accuse (x := v) (kind := 2) hp hco (by decide) h
        exact pOut_bad a1 rfl a2 a3
      · rw [if_neg (fun q => t3 (o2.mpr q)), if_neg t3]
        obtain ⟨a1, a2, a3⟩ := pRel_accuse (x := v) (kind := 3) hp hco (by decide) h
        exact pOut_bad a1 rfl a2 a3
    · rw [if_neg (fun q => t2 (c1.mpr q)), if_neg t2]
      exact pOut_good rfl hv rfl h
theorem rTr_bad {F p : Nat} {rw : Nat → Int32} {caller x b : Int32} (h : ¬ b = 0) : rTr F rw caller p x b = (rw, 0, b) := by
  have e : (upd rw 692 (rw 692 + 0), (0 : Int32), b) = (rw, 0, b) := by rw [upd_self0]
  cases F with
  | zero => rw [rTr, if_neg h, e]
  | succ F => rw [rTr, if_neg h, e]
theorem rTr_none {F p : Nat} {rw : Nat → Int32} {caller x : Int32} (h : f_X8_next rw p < 0) : rTr F rw caller p x 0 = rEnd1 caller p rw (f_X8_reckon rw p x) := by
  cases F with
  | zero => rw [rTr, if_pos rfl]
  | succ F => rw [rTr, if_pos rfl, if_pos h]
/-- a part is asked: of both -/
theorem over_step {mn row p F : Nat} {cl cf ar co ct : Int32} {num bnd : Nat → Int32} {kp caller x : Int32} {blm rw : Nat → Int32} {krk : KReck} (hp : p < mn) (hc : kCal caller row p) (hco : caller = -10000 ∨ ∃ c : Nat, c < mn ∧ caller = nI c) (h : pRel mn cl cf ar co ct num bnd kp blm rw)
    (hk : ∀ rw1 : Nat → Int32, pRel mn (cl + 1) cf ar co ct (f_X4_countOne num (nI p) 5) bnd kp blm rw1 → pOut mn cf co bnd (cFin bnd caller (nI p) (krk (cl + 1) ar ct (f_X4_countOne num (nI p) 5) bnd kp blm (nI p) x)) (rTr F rw1 caller p x 0)) :
    pOut mn cf co bnd (f_X4_callOver cl ar ct num bnd kp blm caller (nI p) x krk) (rTr F (f_X8_begins rw caller p x).2 caller p x (if (f_X8_begins rw caller p x).1 ≤ 0 then 0 else 1)) := by
  have hm := h.1
  have h1 := pRel_count hp h
  obtain ⟨r1, hr1⟩ : ∃ r1, r1 = upd (upd rw 681 (rw 681 + 1)) (1 + 8 * p + 5) (rw (1 + 8 * p + 5) + 1) := ⟨_, rfl⟩
  have eB : f_X8_begins rw caller p x = if f_X8_asks r1 (kSide caller) p x = 0 then (1, f_X8_arise r1 1 caller p x) else if f_X8_asks r1 0 p x = 0 then (if f_X8_hasContract r1 (kSide caller) p = 0 then (1, f_X8_arise r1 1 caller p x) else (3, f_X8_arise r1 3 caller p x)) else (0, r1) := by
    unfold f_X8_begins
    rw [← hr1]
  rw [← hr1] at h1
  have hB := h1.2.2.2.2.2.2.2.2.1
  have o1 := askT hB (kCal_own p) (show p < 10 by omega) x
  rw [side_own] at o1
  have c1 := askT hB hc (show p < 10 by omega) x
  have c2 := hasT hB hc (show p < 10 by omega)
  rw [callOver_fin, eB]
  by_cases t1 : f_X8_asks r1 (kSide caller) p x = 0
  · rw [if_pos (c1.mp t1), if_pos t1]
    obtain ⟨a1, a2, a3⟩ := pRel_accuse (x := x) (kind := 1) hp hco (by decide) h1
    dsimp only
    rw [rTr_bad (by rw [if_neg (show ¬ (1 : Int32) ≤ 0 by decide)]; decide)]
    exact pOut_bad a1 rfl a2 a3
  · rw [if_neg (fun q => t1 (c1.mpr q)), if_neg t1]
    by_cases t2 : f_X8_asks r1 0 p x = 0
    · rw [if_pos (o1.mp t2), if_pos t2]
      by_cases t3 : f_X8_hasContract r1 (kSide caller) p = 0
      · rw [if_pos (c2.mp t3), if_pos t3]
        obtain ⟨a1, a2, a3⟩ := pRel_accuse (x := x) (kind := 1) hp hco (by decide) h1
        dsimp only
        rw [rTr_bad (by rw [if_neg (show ¬ (1 : Int32) ≤ 0 by decide)]; decide)]
        exact pOut_bad a1 rfl a2 a3
      · rw [if_neg (fun q => t3 (c2.mpr q)), if_neg t3]
        obtain ⟨a1, a2, a3⟩ := pRel_accuse (x := x) (kind := 3) hp hco (by decide) h1
        dsimp only
        rw [rTr_bad (by rw [if_neg (show ¬ (3 : Int32) ≤ 0 by decide)]; decide)]
        exact pOut_bad a1 rfl a2 a3
    · rw [if_neg (fun q => t2 (o1.mpr q)), if_neg t2]
      exact hk r1 h1
theorem clampE (t : Int32) : k_max (-9999) (k_min 9999 t) = (if t ≤ 9999 then (if -9999 ≤ t then t else -9999) else 9999) := by
  have e1 : (9999 : Int32).toInt = 9999 := by decide
  have e2 : (-9999 : Int32).toInt = -9999 := by decide
  unfold k_max k_min
  by_cases h1 : t < 9999
  · have q1 := Int32.lt_iff_toInt_lt.mp h1
    rw [if_pos h1, if_pos (Int32.le_iff_toInt_le.mpr (by omega))]
    by_cases h3 : -9999 < t
    · have q3 := Int32.lt_iff_toInt_lt.mp h3
      rw [if_pos h3, if_pos (Int32.le_iff_toInt_le.mpr (by omega))]
    · rw [if_neg h3]
      by_cases h4 : -9999 ≤ t
      · rw [if_pos h4]
        have q4 := Int32.le_iff_toInt_le.mp h4
        have q3 : ¬ (-9999 : Int32).toInt < t.toInt := fun q => h3 (Int32.lt_iff_toInt_lt.mpr q)
        exact Int32.toInt_inj.mp (by omega)
      · rw [if_neg h4]
  · have q1 : ¬ t.toInt < (9999 : Int32).toInt := fun q => h1 (Int32.lt_iff_toInt_lt.mpr q)
    rw [if_neg h1, if_pos (show (-9999 : Int32) < 9999 by decide)]
    by_cases h2 : t ≤ 9999
    · have q2 := Int32.le_iff_toInt_le.mp h2
      have h3 : t = 9999 := Int32.toInt_inj.mp (by omega)
      rw [if_pos h2, h3]
      decide
    · rw [if_neg h2]
theorem reckonNe (rw : Nat → Int32) (p : Nat) (z : Int32) : ¬ f_X8_reckon rw p z = -10000 := by
  unfold f_X8_reckon
  obtain ⟨t, ht⟩ : ∃ t, t = rw (1 + 8 * p + 0) * z + rw (1 + 8 * p + 1) := ⟨_, rfl⟩
  rw [← ht]
  by_cases h1 : t ≤ 9999
  · rw [if_pos h1]
    by_cases h2 : -9999 ≤ t
    · rw [if_pos h2]
      intro q
      rw [q] at h2
      exact absurd h2 (by decide)
    · rw [if_neg h2]; decide
  · rw [if_neg h1]; decide
theorem reckon_eq {mn p : Nat} {num rw : Nat → Int32} (hm : mn ≤ 10) (hp : p < mn) (h : pNum mn num rw) (z : Int32) : k_max (-9999) (k_min 9999 ((f_X4_ofPart num (nI p) 0 * z) + f_X4_ofPart num (nI p) 1)) = f_X8_reckon rw p z := by
  rw [ofPart_N (by omega), ofPart_N (by omega), (h p hp).1, (h p hp).2.1, clampE]
  rfl
theorem reckonNext {cl ar ct : Int32} {num bnd : Nat → Int32} {kp : Int32} {blm : Nat → Int32} {pa x : Int32} {depth : Nat} {kco : KCall} {K2 : KRes} (hK2 : K2 = kco cl ar ct num bnd kp blm pa (f_X4_ofPart num pa 2) (x + f_X4_ofPart num pa 3)) (h : ¬ f_X4_ofPart num pa 2 = -10000) (hd : ¬ 10 ≤ depth) :
    f_X4_reckon cl ar ct num bnd kp blm pa x depth kco = if K2.1 = -10000 then ((f_X4_afterBlame K2.2.2.2.1 K2.2.2.2.2.1 K2.2.2.2.2.2.2 pa).1, K2.2.1, K2.2.2.1, (f_X4_afterBlame K2.2.2.2.1 K2.2.2.2.2.1 K2.2.2.2.2.2.2 pa).2.1, (f_X4_afterBlame K2.2.2.2.1 K2.2.2.2.2.1 K2.2.2.2.2.2.2 pa).2.2.1, K2.2.2.2.2.2.1, (f_X4_afterBlame K2.2.2.2.1 K2.2.2.2.2.1 K2.2.2.2.2.2.2 pa).2.2.2) else (k_max (-9999) (k_min 9999 ((f_X4_ofPart K2.2.2.2.2.1 pa 0 * K2.1) + f_X4_ofPart K2.2.2.2.2.1 pa 1)), K2.2) := by
  unfold f_X4_reckon
  rw [if_neg h, if_neg hd, ← hK2]
theorem pRel_higher {mn : Nat} {cl cf ar co ct : Int32} {num bnd : Nat → Int32} {kp : Int32} {blm rw : Nat → Int32} (h : pRel mn cl cf ar co ct num bnd kp blm rw) : pRel mn cl cf ar co ct num bnd kp (f_X0_goHigher blm) (upd rw 692 (rw 692 + 1)) := by
  obtain ⟨a1, a2, a3, a4, a5, a6, a7, a8, a9, ⟨kn, b1, b2, b3, b4, b5⟩, a11⟩ := h
  refine ⟨a1, a2, a3, a4, a5, a6, a7, pNum_out a1 a8 (fun i _ _ => pk_un (by omega)), pBnd_out a9 (fun i _ _ => pk_un (by omega)), ⟨kn, b1, b2, b3, b4, fun i hi => ?_⟩, rNx_out a11 (fun i _ _ => pk_un (by omega))⟩
  unfold f_X0_goHigher
  by_cases e : i = 4
  · subst e
    have := b5 4 hi
    show upd blm 4 (blm 4 + 1) 4 = upd rw 692 (rw 692 + 1) 692
    rw [pk_us, pk_us, this]
  · rw [pk_un e, pk_un (by omega)]
    exact b5 i hi
theorem pRel_caught {mn p : Nat} {cl cf ar co ct : Int32} {num bnd : Nat → Int32} {kp : Int32} {blm rw : Nat → Int32} (hp : p < mn) (h : pRel mn cl cf ar co ct num bnd kp blm rw) : pRel mn cl cf ar co (ct + 1) (f_X4_countOne num (nI p) 7) bnd kp (f_X0_markCaught blm) (upd (upd (upd rw 693 1) 685 (rw 685 + 1)) (1 + 8 * p + 7) (rw (1 + 8 * p + 7) + 1)) := by
  obtain ⟨a1, a2, a3, a4, a5, a6, a7, a8, a9, ⟨kn, b1, b2, b3, b4, b5⟩, a11⟩ := h
  rw [countOne_N (by omega), (a8 p hp).2.2.2.2.2.2.2]
  refine pRel_part (p := p) (w := 7) (by omega) (by omega) (by omega) ⟨a1, a2, a3, a4, a5, a6, ?_, pNum_out a1 a8 (fun i _ _ => by rw [pk_un (by omega), pk_un (by omega)]), pBnd_out a9 (fun i _ _ => by rw [pk_un (by omega), pk_un (by omega)]), ⟨kn, b1, b2, b3, b4, fun i hi => ?_⟩, rNx_out a11 (fun i _ _ => by rw [pk_un (by omega), pk_un (by omega)])⟩
  · rw [a7]; rfl
  · unfold f_X0_markCaught
    rw [pk_un (k := 685) (j := 688 + i) (by omega)]
    by_cases e : i = 5
    · subst e
      show upd blm 5 1 5 = upd rw 693 1 693
      rw [pk_us, pk_us]
    · rw [pk_un e, pk_un (by omega)]
      exact b5 i hi
theorem kOver_f (f : Nat) : ∃ kco : KCall, (∀ g, f = g + 1 → kco = kOver g) ∧ ∀ cl ar ct num bnd kp blm caller pa x, kOver f cl ar ct num bnd kp blm caller pa x = f_X4_callOver cl ar ct num bnd kp blm caller pa x (fun cl ar ct num bnd kp blm pa x => f_X4_reckon cl ar ct num bnd kp blm pa x (10 - f) kco) := by
  cases f with
  | zero => exact ⟨_, fun g hg => absurd hg (by omega), fun cl ar ct num bnd kp blm caller pa x => rfl⟩
  | succ f => exact ⟨kOver f, fun g hg => by rw [show f = g by omega], fun cl ar ct num bnd kp blm caller pa x => rfl⟩
theorem next_N {mn p : Nat} {num rw : Nat → Int32} (hm : mn ≤ 10) (hp : p < mn) (h : pNum mn num rw) (hR : rNx rw) : (f_X4_ofPart num (nI p) 2 = -10000 ∧ f_X8_next rw p < 0) ∨ (∃ q : Nat, q < p ∧ f_X4_ofPart num (nI p) 2 = nI q ∧ f_X8_next rw p = nI q ∧ f_X4_ofPart num (nI p) 3 = rw (1 + 8 * p + 3)) := by
  obtain ⟨j, hj, ej⟩ := hR p (by omega)
  have h2 := (h p hp).2.2.1
  have h3 := (h p hp).2.2.2.1
  unfold f_X8_next
  rw [ofPart_N (by omega), ofPart_N (by omega), h2]
  cases j with
  | zero =>
    have e0 : rw (1 + 8 * p + 2) = 0 := ej
    left
    rw [if_pos e0, e0]
    exact ⟨rfl, by decide⟩
  | succ q =>
    right
    have n0 : ¬ rw (1 + 8 * p + 2) = 0 := by
      rw [ej]
      intro e9
      have := (nI_eq (a := q + 1) (b := 0) (by omega) (by decide)).mp e9
      omega
    have e1 : rw (1 + 8 * p + 2) - 1 = nI q := by
      rw [ej]
      exact pk_sub (a := q + 1) (b := 1) (by omega)
    rw [if_neg n0, e1]
    rw [if_neg n0] at h3
    exact ⟨q, by omega, rfl, rfl, h3⟩
theorem over_rel : ∀ (f F p : Nat), p ≤ f → p ≤ F → f ≤ 9 → ∀ {mn row : Nat} {cl cf ar co ct : Int32} {num bnd : Nat → Int32} {kp caller x : Int32} {blm rw : Nat → Int32}, p < mn → kCal caller row p → (caller = -10000 ∨ ∃ c : Nat, c < mn ∧ caller = nI c) → pRel mn cl cf ar co ct num bnd kp blm rw →
    pOut mn cf co bnd (kOver f cl ar ct num bnd kp blm caller (nI p) x) (rTr F (f_X8_begins rw caller p x).2 caller p x (if (f_X8_begins rw caller p x).1 ≤ 0 then 0 else 1)) := by
  intro f
  induction f with
  | zero =>
    intro F p hf hF _ mn row cl cf ar co ct num bnd kp caller x blm rw hp hc hco h
    obtain ⟨kco, _, hk⟩ := kOver_f 0
    rw [hk]
    refine over_step hp hc hco h (fun r1 h1 => ?_)
    have hm := h1.1
    have hn := h1.2.2.2.2.2.2.2.1
    rcases next_N hm hp hn h1.2.2.2.2.2.2.2.2.2.2 with ⟨n1, n2⟩ | ⟨q, hq, _⟩
    · have e : f_X4_reckon (cl + 1) ar ct (f_X4_countOne num (nI p) 5) bnd kp blm (nI p) x (10 - 0) kco = (f_X8_reckon r1 p x, cl + 1, ar, ct, f_X4_countOne num (nI p) 5, kp, blm) := by
        unfold f_X4_reckon
        rw [if_pos n1, reckon_eq hm hp hn]
      show pOut mn cf co bnd (cFin bnd caller (nI p) (f_X4_reckon (cl + 1) ar ct (f_X4_countOne num (nI p) 5) bnd kp blm (nI p) x (10 - 0) kco)) _
      rw [e, rTr_none n2]
      exact fin_rel hp hc hco (reckonNe _ _ _) h1
    · omega
  | succ f ih =>
    intro F p hf hF hf9 mn row cl cf ar co ct num bnd kp caller x blm rw hp hc hco h
    obtain ⟨kco, hkco, hk⟩ := kOver_f (f + 1)
    rw [hk, hkco f rfl]
    refine over_step hp hc hco h (fun r1 h1 => ?_)
    have hm := h1.1
    have hn := h1.2.2.2.2.2.2.2.1
    show pOut mn cf co bnd (cFin bnd caller (nI p) (f_X4_reckon (cl + 1) ar ct (f_X4_countOne num (nI p) 5) bnd kp blm (nI p) x (10 - (f + 1)) (kOver f))) _
    rcases next_N hm hp hn h1.2.2.2.2.2.2.2.2.2.2 with ⟨n1, n2⟩ | ⟨q, hq, n1, n2, n3⟩
    · have e : f_X4_reckon (cl + 1) ar ct (f_X4_countOne num (nI p) 5) bnd kp blm (nI p) x (10 - (f + 1)) (kOver f) = (f_X8_reckon r1 p x, cl + 1, ar, ct, f_X4_countOne num (nI p) 5, kp, blm) := by
        unfold f_X4_reckon
        rw [if_pos n1, reckon_eq hm hp hn]
      rw [e, rTr_none n2]
      exact fin_rel hp hc hco (reckonNe _ _ _) h1
    · obtain ⟨F2, rfl⟩ : ∃ F2, F = F2 + 1 := ⟨F - 1, by omega⟩
      obtain ⟨y, hy⟩ : ∃ y, y = x + r1 (1 + 8 * p + 3) := ⟨_, rfl⟩
      have IH := ih F2 q (by omega) (by omega) (by omega) (row := p) (caller := nI p) (x := y) (show q < mn by omega) (Or.inr (Or.inr ⟨rfl, hq, by omega⟩)) (Or.inr ⟨p, hp, rfl⟩) h1
      obtain ⟨K2, hK2⟩ : ∃ K2, K2 = kOver f (cl + 1) ar ct (f_X4_countOne num (nI p) 5) bnd kp blm (nI p) (nI q) y := ⟨_, rfl⟩
      obtain ⟨T2, hT2⟩ : ∃ T2, T2 = rTr F2 (f_X8_begins r1 (nI p) q y).2 (nI p) q y (if (f_X8_begins r1 (nI p) q y).1 ≤ 0 then 0 else 1) := ⟨_, rfl⟩
      rw [← hK2, ← hT2] at IH
      have eT : rTr (F2 + 1) r1 caller p x 0 = rSt caller p T2 := by
        rw [rTr, if_pos rfl, n2, if_neg (nI_nn (by omega)), nI_clamp (by omega), ← hy, ← hT2]
      have eK := reckonNext (K2 := K2) (kco := kOver f) (cl := cl + 1) (ar := ar) (ct := ct) (num := f_X4_countOne num (nI p) 5) (bnd := bnd) (kp := kp) (blm := blm) (pa := nI p) (x := x) (depth := 10 - (f + 1)) (by rw [n1, n3, ← hy]; exact hK2) (by rw [n1]; exact nI_ne (by omega)) (by omega)
      rw [eT, eK]
      obtain ⟨i1, i2, i3, i4⟩ := IH
      have hn2 := i3.2.2.2.2.2.2.2.1
      unfold rSt
      by_cases hb : T2.2.2 = 0
      · rw [if_pos hb] at i1
        rw [if_neg (by rw [i1]; exact i2 hb), if_pos hb, reckon_eq hm hp hn2, i1]
        exact fin_rel hp hc hco (reckonNe _ _ _) i3
      · rw [if_neg hb] at i1
        rw [if_pos i1, if_neg hb]
        have e4 := (hn2 p hp).2.2.2.2.1
        unfold f_X4_afterBlame
        rw [ofPart_N (by omega), e4]
        by_cases hnet : T2.1 (1 + 8 * p + 4) = -10000
        · rw [if_pos hnet, if_pos hnet]
          unfold cFin
          dsimp only
          rw [if_pos hnet]
          exact ⟨by dsimp only; rw [if_neg hb]; exact hnet, fun q => absurd q hb, pRel_higher i3, Or.inr (pBad_out (i4.resolve_left hb) (show upd T2.1 692 (T2.1 692 + 1) 687 = T2.1 687 from pk_un (by decide)))⟩
        · rw [if_neg hnet, if_neg hnet]
          exact fin_rel hp hc hco hnet (pRel_caught hp i3)
/-- a plan of the class and a row of the reference -/
def pPlan (v : KPV) (rw : Nat → Int32) : Prop := ∃ mn : Nat, v.1 = nI mn ∧ pRel mn v.2.1 v.2.2.1 v.2.2.2.1 v.2.2.2.2.1 v.2.2.2.2.2.1 v.2.2.2.2.2.2.1 v.2.2.2.2.2.2.2.1 v.2.2.2.2.2.2.2.2.1 v.2.2.2.2.2.2.2.2.2 rw
/-- a call from outside: of both -/
theorem call_rel {v : KPV} {rw cp cn : Nat → Int32} {p mn : Nat} {x : Int32} (hv : v.1 = nI mn) (hp : p < mn) (h : pRel mn v.2.1 v.2.2.1 v.2.2.2.1 v.2.2.2.2.1 v.2.2.2.2.2.1 v.2.2.2.2.2.2.1 v.2.2.2.2.2.2.2.1 v.2.2.2.2.2.2.2.2.1 v.2.2.2.2.2.2.2.2.2 rw) :
    (gCall v (nI p) x).1 = (h_X8_callIn cp cn rw p x).1 ∧ (gCall v (nI p) x).2.1 = nI mn ∧ pPlan (gCall v (nI p) x).2 (h_X8_callIn cp cn rw p x).2.1 ∧ ((h_X8_callIn cp cn rw p x).1 = -10000 → pBad (h_X8_callIn cp cn rw p x).2.1) := by
  obtain ⟨pt, cl, cf, ar, co, ct, num, bnd, kp, blm⟩ := v
  dsimp only at h hv
  have hm := h.1
  have hr : pRel mn cl (cf + 1) ar co ct num bnd kp blm (upd rw 682 (rw 682 + 1)) := by
    obtain ⟨a1, a2, a3, a4, a5, a6, a7, a8, a9, a10, a11⟩ := h
    refine ⟨a1, a2, a3, by rw [a4]; rfl, a5, a6, a7, pNum_out a1 a8 (fun i _ _ => pk_un (by omega)), pBnd_out a9 (fun i _ _ => pk_un (by omega)), pBlm_out a10 (fun i _ _ => pk_un (by omega)), rNx_out a11 (fun i _ _ => pk_un (by omega))⟩
  have O := over_rel 9 10 p (by omega) (by omega) (by omega) (row := 10) (caller := -10000) (x := x) hp (Or.inr (Or.inl ⟨rfl, rfl⟩)) (Or.inl rfl) hr
  obtain ⟨K, hK⟩ : ∃ K, K = kOver 9 cl ar ct num bnd kp blm (-10000) (nI p) x := ⟨_, rfl⟩
  obtain ⟨T, hT⟩ : ∃ T, T = rCall rw p x := ⟨_, rfl⟩
  have hT' := hT
  unfold rCall at hT'
  rw [← hK, ← hT'] at O
  obtain ⟨o1, o2, o3, o4⟩ := O
  obtain ⟨c1, c2⟩ := callIn_tr cp cn rw x (show p < 10 by omega)
  rw [← hT] at c1 c2
  rw [c1, c2, gCall_eq]
  unfold gCall0
  rw [h_X4_callFromOutside_eq]
  unfold f_X4_callFromOutside
  dsimp only
  rw [← hK]
  have fin : ∀ co2 d : Int32, co2 = T.1 684 + d → pRel mn K.2.1 (cf + 1) K.2.2.1 co2 K.2.2.2.1 K.2.2.2.2.1 bnd K.2.2.2.2.2.1 K.2.2.2.2.2.2 (upd T.1 684 (T.1 684 + d)) := by
    intro co2 d hd
    obtain ⟨a1, a2, a3, a4, a5, a6, a7, a8, a9, a10, a11⟩ := o3
    exact ⟨a1, a2, a3, a4, a5, hd, a7, pNum_out a1 a8 (fun i _ _ => pk_un (by omega)), pBnd_out a9 (fun i _ _ => pk_un (by omega)), pBlm_out a10 (fun i _ _ => pk_un (by omega)), rNx_out a11 (fun i _ _ => pk_un (by omega))⟩
  have hco : co = T.1 684 := o3.2.2.2.2.2.1
  by_cases hb : T.2.2 = 0
  · rw [if_pos hb] at o1 ⊢
    have hk : ¬ K.1 = -10000 := by rw [o1]; exact o2 hb
    rw [if_pos hb, if_neg hk]
    exact ⟨o1, hv, ⟨mn, hv, fin _ 0 (by rw [Int32.add_zero]; exact hco)⟩, fun q => absurd q (o2 hb)⟩
  · rw [if_neg hb] at o1 ⊢
    rw [if_neg hb, if_pos o1]
    exact ⟨o1, hv, ⟨mn, hv, fin _ 1 (by rw [hco])⟩, fun _ => pBad_out (o4.resolve_left hb) (show upd T.1 684 (T.1 684 + 1) 687 = T.1 687 from pk_un (by decide))⟩
end
