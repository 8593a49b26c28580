-- THE PURE PART, 2: a plan of the class and a row of the reference, a call of both
noncomputable section
theorem nI_nn {p : Nat} (h : p < 2 ^ 31) : ¬ nI p < 0 := fun q => absurd ((nI_ltI (a := p) (b := 0) h (by decide)).mp q) (Nat.not_lt_zero _)
theorem nI_ne {p : Nat} (h : p < 2 ^ 31) : ¬ nI p = -10000 := fun q => by
  have h1 := congrArg Int32.toInt q
  rw [nI_toInt h, show (-10000 : Int32).toInt = -10000 by decide] at h1
  omega
theorem nI_ne1 {p : Nat} (h : p < 2 ^ 31) : ¬ nI p = -10001 := fun q => by
  have h1 := congrArg Int32.toInt q
  rw [nI_toInt h, show (-10001 : Int32).toInt = -10001 by decide] at h1
  omega
theorem nI_lt10 {p : Nat} (h : p < 10) : ¬ 10 ≤ nI p := fun q => by
  have := (nI_leI (a := 10) (b := p) (by decide) (by omega)).mp q
  omega
theorem ofPart_N {num : Nat → Int32} {p w : Nat} (hp : p < 10) : f_X4_ofPart num (nI p) w = num (p * 8 + w) := by
  unfold f_X4_ofPart
  rw [if_neg (nI_nn (by omega)), if_neg (nI_lt10 hp), nI_clamp (by omega)]
theorem countOne_N {num : Nat → Int32} {p w : Nat} (hp : p < 10) : f_X4_countOne num (nI p) w = upd num (p * 8 + w) (num (p * 8 + w) + 1) := by
  unfold f_X4_countOne
  rw [if_neg (nI_nn (by omega)), if_neg (nI_lt10 hp), nI_clamp (by omega)]
theorem upd_self0 {f : Nat → Int32} {k : Nat} : upd f k (f k + 0) = f := by
  funext i
  by_cases h : i = k
  · subst h; rw [pk_us, Int32.add_zero]
  · rw [pk_un h]
/-- the reference's side of a row of the class -/
def kSd (row : Nat) : Nat := if row = 11 then 0 else if row = 10 then 1 else row + 2
/-- the row of a caller -/
def kCal (caller : Int32) (row p : Nat) : Prop := (caller = -10001 ∧ row = 11) ∨ (caller = -10000 ∧ row = 10) ∨ (caller = nI row ∧ p < row ∧ row < 10)
theorem kCal_lt {caller : Int32} {row p : Nat} (h : kCal caller row p) : row < 12 := by
  rcases h with ⟨_, h⟩ | ⟨_, h⟩ | ⟨_, _, h⟩ <;> omega
theorem kCal_side {caller : Int32} {row p : Nat} (h : kCal caller row p) : kSide caller = kSd row := by
  rcases h with ⟨h1, h2⟩ | ⟨h1, h2⟩ | ⟨h1, h2, h3⟩
  · unfold kSide kSd; rw [if_pos h1, if_pos h2]
  · unfold kSide kSd; rw [if_neg (by rw [h1]; decide), if_pos h1, if_neg (by omega), if_pos h2]
  · unfold kSide kSd; rw [if_neg (by rw [h1]; exact nI_ne1 (by omega)), if_neg (by rw [h1]; exact nI_ne (by omega)), if_neg (by omega), if_neg (by omega), h1, nI_clamp (by omega)]; omega
theorem placeFor_N {caller : Int32} {row p : Nat} (h : kCal caller row p) (hp : p < 10) : f_X1_placeFor caller (nI p) = nI ((row * 10 + p) * 4) := by
  unfold f_X1_placeFor f_X1_place
  rcases h with ⟨h1, h2⟩ | ⟨h1, h2⟩ | ⟨h1, h2, h3⟩
  · rw [if_pos h1, if_neg (nI_nn (by omega)), if_neg (nI_lt10 hp), h2]; exact k_place 11 p
  · rw [if_neg (by rw [h1]; decide), if_pos h1, if_neg (nI_nn (by omega)), if_neg (nI_lt10 hp), h2]; exact k_place 10 p
  · rw [if_neg (by rw [h1]; exact nI_ne1 (by omega)), if_neg (by rw [h1]; exact nI_ne (by omega)), h1, if_neg (fun q => by have := (nI_leI (a := row) (b := p) (by omega) (by omega)).mp q; omega), if_pos (show nI row < 10 from (nI_ltI (a := row) (b := 10) (by omega) (by decide)).mpr h3), if_neg (nI_nn (by omega)), if_neg (nI_lt10 hp)]
    exact k_place row p
theorem find_N {bnd : Nat → Int32} {caller : Int32} {row p : Nat} (h : kCal caller row p) (hp : p < 10) : f_X1_find bnd caller (nI p) = if bnd ((row * 10 + p) * 4) = -10000 then -10000 else nI ((row * 10 + p) * 4) := by
  have h1 := kCal_lt h
  unfold f_X1_find
  rw [placeFor_N h hp, if_neg (nI_ne (by omega)), nI_clamp (by omega)]
/-- the numbers of the parts that there are -/
def pNum (mn : Nat) (num rw : Nat → Int32) : Prop := ∀ p, p < mn → num (p * 8 + 0) = rw (1 + 8 * p + 0) ∧ num (p * 8 + 1) = rw (1 + 8 * p + 1) ∧ num (p * 8 + 2) = (if rw (1 + 8 * p + 2) = 0 then -10000 else rw (1 + 8 * p + 2) - 1) ∧ num (p * 8 + 3) = (if rw (1 + 8 * p + 2) = 0 then -10000 else rw (1 + 8 * p + 3)) ∧ num (p * 8 + 4) = rw (1 + 8 * p + 4) ∧ num (p * 8 + 5) = rw (1 + 8 * p + 5) ∧ num (p * 8 + 6) = rw (1 + 8 * p + 6) ∧ num (p * 8 + 7) = rw (1 + 8 * p + 7)
/-- the contracts -/
def pBnd (mn : Nat) (bnd rw : Nat → Int32) : Prop := ∀ row p, row < 12 → p < 10 → (rw (81 + 5 * (10 * kSd row + p) + 0) = 1 ∧ ¬ bnd ((row * 10 + p) * 4) = -10000 ∧ bnd ((row * 10 + p) * 4 + 0) = rw (81 + 5 * (10 * kSd row + p) + 1) ∧ bnd ((row * 10 + p) * 4 + 1) = rw (81 + 5 * (10 * kSd row + p) + 2) ∧ bnd ((row * 10 + p) * 4 + 2) = rw (81 + 5 * (10 * kSd row + p) + 3) ∧ bnd ((row * 10 + p) * 4 + 3) = rw (81 + 5 * (10 * kSd row + p) + 4) ∧ p < mn ∧ (10 ≤ row ∨ p < row ∧ row < mn)) ∨ (rw (81 + 5 * (10 * kSd row + p) + 0) = 0 ∧ bnd ((row * 10 + p) * 4) = -10000)
/-- the blames -/
def pBlm (kp : Int32) (blm rw : Nat → Int32) : Prop := ∃ kn : Nat, kn ≤ 10 ∧ kp = nI kn ∧ rw 687 = nI kn ∧ rw 686 = f_X0_lastKind kp blm ∧ ∀ i, i < 6 * kn → blm i = rw (688 + i)
/-- a plan's contents and a row's -/
def pRel (mn : Nat) (cl cf ar co ct : Int32) (num bnd : Nat → Int32) (kp : Int32) (blm rw : Nat → Int32) : Prop :=
  mn ≤ 10 ∧ rw 0 = nI mn ∧ cl = rw 681 ∧ cf = rw 682 ∧ ar = rw 683 ∧ co = rw 684 ∧ ct = rw 685 ∧ pNum mn num rw ∧ pBnd mn bnd rw ∧ pBlm kp blm rw ∧ rNx rw
theorem kSd_lt {row : Nat} (h : row < 12) : kSd row < 12 := by
  unfold kSd
  by_cases h1 : row = 11
  · rw [if_pos h1]; omega
  · rw [if_neg h1]
    by_cases h2 : row = 10
    · rw [if_pos h2]; omega
    · rw [if_neg h2]; omega
theorem pNum_out {mn : Nat} {num rw rw2 : Nat → Int32} (hm : mn ≤ 10) (h : pNum mn num rw) (e : ∀ i, 1 ≤ i → i < 81 → rw2 i = rw i) : pNum mn num rw2 := by
  intro p hp
  obtain ⟨h0, h1, h2, h3, h4, h5, h6, h7⟩ := h p hp
  rw [e _ (by omega) (by omega), e _ (by omega) (by omega), e _ (by omega) (by omega), e _ (by omega) (by omega), e _ (by omega) (by omega), e _ (by omega) (by omega), e _ (by omega) (by omega), e _ (by omega) (by omega)]
  exact ⟨h0, h1, h2, h3, h4, h5, h6, h7⟩
theorem pBnd_out {mn : Nat} {bnd rw rw2 : Nat → Int32} (h : pBnd mn bnd rw) (e : ∀ i, 81 ≤ i → i < 681 → rw2 i = rw i) : pBnd mn bnd rw2 := by
  intro row p hr hp
  have hs := kSd_lt hr
  have := h row p hr hp
  rw [e _ (by omega) (by omega), e _ (by omega) (by omega), e _ (by omega) (by omega), e _ (by omega) (by omega), e _ (by omega) (by omega)]
  exact this
theorem pBlm_out {kp : Int32} {blm rw rw2 : Nat → Int32} (h : pBlm kp blm rw) (e : ∀ i, 686 ≤ i → i < 748 → rw2 i = rw i) : pBlm kp blm rw2 := by
  obtain ⟨kn, h1, h2, h3, h4, h5⟩ := h
  refine ⟨kn, h1, h2, by rw [e _ (by omega) (by omega)]; exact h3, by rw [e _ (by omega) (by omega)]; exact h4, fun i hi => ?_⟩
  rw [e _ (by omega) (by omega)]
  exact h5 i hi
theorem rNx_out {rw rw2 : Nat → Int32} (h : rNx rw) (e : ∀ i, 1 ≤ i → i < 81 → rw2 i = rw i) : rNx rw2 := fun q hq => by
  obtain ⟨j, h1, h2⟩ := h q hq
  exact ⟨j, h1, by rw [e _ (by omega) (by omega)]; exact h2⟩
theorem pr_eq {num rw : Nat → Int32} {p q w k : Nat} {y : Int32} (hk : k < 8) (hw : w < 8) (h : num (q * 8 + k) = rw (1 + 8 * q + k)) : upd num (p * 8 + w) y (q * 8 + k) = upd rw (1 + 8 * p + w) y (1 + 8 * q + k) := by
  by_cases e : q = p ∧ k = w
  · obtain ⟨rfl, rfl⟩ := e; rw [pk_us, pk_us]
  · rw [pk_un (by omega), pk_un (by omega)]; exact h
theorem pNum_upd {mn p w : Nat} {num rw : Nat → Int32} {y : Int32} (h4 : 4 ≤ w) (hw : w < 8) (h : pNum mn num rw) : pNum mn (upd num (p * 8 + w) y) (upd rw (1 + 8 * p + w) y) := by
  intro q hq
  obtain ⟨e0, e1, e2, e3, e4, e5, e6, e7⟩ := h q hq
  refine ⟨pr_eq (by omega) hw e0, pr_eq (by omega) hw e1, ?_, ?_, pr_eq (by omega) hw e4, pr_eq (by omega) hw e5, pr_eq (by omega) hw e6, pr_eq (by omega) hw e7⟩
  · rw [pk_un (by omega), pk_un (by omega)]; exact e2
  · rw [pk_un (by omega), pk_un (by omega), pk_un (by omega)]; exact e3
theorem rNx_upd {rw : Nat → Int32} {p w : Nat} {y : Int32} (h4 : 3 ≤ w) (hw : w < 8) (h : rNx rw) : rNx (upd rw (1 + 8 * p + w) y) := fun q hq => by
  obtain ⟨j, h1, h2⟩ := h q hq
  exact ⟨j, h1, by rw [pk_un (by omega)]; exact h2⟩
/-- a number of a part that counts -/
theorem pRel_part {mn p w : Nat} {cl cf ar co ct : Int32} {num bnd : Nat → Int32} {kp : Int32} {blm rw : Nat → Int32} {y : Int32} (h4 : 4 ≤ w) (hw : w < 8) (hp : p < 10) (h : pRel mn cl cf ar co ct num bnd kp blm rw) : pRel mn cl cf ar co ct (upd num (p * 8 + w) y) bnd kp blm (upd rw (1 + 8 * p + w) y) := by
  obtain ⟨a1, a2, a3, a4, a5, a6, a7, a8, a9, a10, a11⟩ := h
  refine ⟨a1, ?_, ?_, ?_, ?_, ?_, ?_, pNum_upd h4 hw a8, pBnd_out a9 (fun i _ _ => pk_un (by omega)), pBlm_out a10 (fun i _ _ => pk_un (by omega)), rNx_upd (by omega) hw a11⟩
  · rw [pk_un (by omega)]; exact a2
  · rw [pk_un (by omega)]; exact a3
  · rw [pk_un (by omega)]; exact a4
  · rw [pk_un (by omega)]; exact a5
  · rw [pk_un (by omega)]; exact a6
  · rw [pk_un (by omega)]; exact a7
/-- a call is counted -/
theorem pRel_count {mn p : Nat} {cl cf ar co ct : Int32} {num bnd : Nat → Int32} {kp : Int32} {blm rw : Nat → Int32} (hp : p < mn) (h : pRel mn cl cf ar co ct num bnd kp blm rw) : pRel mn (cl + 1) cf ar co ct (f_X4_countOne num (nI p) 5) bnd kp blm (upd (upd rw 681 (rw 681 + 1)) (1 + 8 * p + 5) (rw (1 + 8 * p + 5) + 1)) := by
  obtain ⟨a1, a2, a3, a4, a5, a6, a7, a8, a9, a10, a11⟩ := h
  have h5 := (a8 p hp).2.2.2.2.2.1
  rw [countOne_N (by omega), h5]
  refine pRel_part (p := p) (w := 5) (by omega) (by omega) (by omega) ⟨a1, ?_, ?_, ?_, ?_, ?_, ?_, pNum_out a1 a8 (fun i _ _ => pk_un (by omega)), pBnd_out a9 (fun i _ _ => pk_un (by omega)), pBlm_out a10 (fun i _ _ => pk_un (by omega)), rNx_out a11 (fun i _ _ => pk_un (by omega))⟩
  · rw [pk_un (by omega)]; exact a2
  · rw [pk_us, a3]
  · rw [pk_un (by omega)]; exact a4
  · rw [pk_un (by omega)]; exact a5
  · rw [pk_un (by omega)]; exact a6
  · rw [pk_un (by omega)]; exact a7
/-- the tests -/
theorem hasC_N {mn row p : Nat} {bnd rw : Nat → Int32} (h : pBnd mn bnd rw) (hr : row < 12) (hp : p < 10) : f_X8_hasContract rw (kSd row) p = 0 ↔ bnd ((row * 10 + p) * 4) = -10000 := by
  unfold f_X8_hasContract
  rcases h row p hr hp with ⟨h1, h2, _⟩ | ⟨h1, h2⟩
  · rw [if_pos h1]; exact ⟨fun q => absurd q (by decide), fun q => absurd q h2⟩
  · rw [if_neg (by rw [h1]; decide)]; exact ⟨fun _ => h2, fun _ => rfl⟩
theorem in_32 (x lo hi : Int32) : f_X8_in (Int32.toInt64 x) (Int32.toInt64 lo) (Int32.toInt64 hi) = if x < lo then 0 else if hi < x then 0 else 1 := by
  have e : ∀ a b : Int32, Int32.toInt64 a < Int32.toInt64 b ↔ a < b := fun a b => by
    rw [Int64.lt_iff_toInt_lt, Int32.lt_iff_toInt_lt, Int32.toInt_toInt64, Int32.toInt_toInt64]
  unfold f_X8_in
  by_cases h1 : x < lo
  · rw [if_pos h1, if_pos ((e _ _).mpr h1)]
  · rw [if_neg h1, if_neg (fun q => h1 ((e _ _).mp q))]
    by_cases h2 : hi < x
    · rw [if_pos h2, if_pos ((e _ _).mpr h2)]
    · rw [if_neg h2, if_neg (fun q => h2 ((e _ _).mp q))]
theorem asks_no {mn row p : Nat} {bnd rw : Nat → Int32} (h : pBnd mn bnd rw) (hr : row < 12) (hp : p < 10) (hb : bnd ((row * 10 + p) * 4) = -10000) (x : Int32) : f_X8_asks rw (kSd row) p x = 1 := by
  unfold f_X8_asks
  rw [if_pos ((hasC_N h hr hp).mpr hb)]
theorem gives_no {mn row p : Nat} {bnd rw : Nat → Int32} (h : pBnd mn bnd rw) (hr : row < 12) (hp : p < 10) (hb : bnd ((row * 10 + p) * 4) = -10000) (x : Int32) : f_X8_gives rw (kSd row) p x = 1 := by
  unfold f_X8_gives
  rw [if_pos ((hasC_N h hr hp).mpr hb)]
theorem asks_N {mn row p : Nat} {bnd rw : Nat → Int32} (h : pBnd mn bnd rw) (hr : row < 12) (hp : p < 10) (hb : ¬ bnd ((row * 10 + p) * 4) = -10000) (x : Int32) : f_X8_asks rw (kSd row) p x = f_X1_asks bnd (nI ((row * 10 + p) * 4)) x := by
  rcases h row p hr hp with ⟨h1, h2, b0, b1, b2, b3, _⟩ | ⟨h1, h2⟩
  · unfold f_X8_asks f_X1_asks
    rw [if_neg (fun q => hb ((hasC_N h hr hp).mp q)), in_32, nI_clamp (by omega), b0, b1]
    by_cases q1 : x < rw (81 + 5 * (10 * kSd row + p) + 1)
    · rw [if_pos q1, if_pos rfl]
    · rw [if_neg q1]
      by_cases q2 : rw (81 + 5 * (10 * kSd row + p) + 2) < x
      · rw [if_pos q2, if_pos rfl]
      · rw [if_neg q2, if_neg (by decide)]
  · exact absurd h2 hb
theorem gives_N {mn row p : Nat} {bnd rw : Nat → Int32} (h : pBnd mn bnd rw) (hr : row < 12) (hp : p < 10) (hb : ¬ bnd ((row * 10 + p) * 4) = -10000) (x : Int32) : f_X8_gives rw (kSd row) p x = f_X1_gives bnd (nI ((row * 10 + p) * 4)) x := by
  rcases h row p hr hp with ⟨h1, h2, b0, b1, b2, b3, _⟩ | ⟨h1, h2⟩
  · unfold f_X8_gives f_X1_gives
    rw [if_neg (fun q => hb ((hasC_N h hr hp).mp q)), in_32, nI_clamp (by omega), b2, b3]
    by_cases q1 : x < rw (81 + 5 * (10 * kSd row + p) + 3)
    · rw [if_pos q1, if_pos rfl]
    · rw [if_neg q1]
      by_cases q2 : rw (81 + 5 * (10 * kSd row + p) + 4) < x
      · rw [if_pos q2, if_pos rfl]
      · rw [if_neg q2, if_neg (by decide)]
  · exact absurd h2 hb
/-- a blame: the row then, but the part's count -/
def rW (rw : Nat → Int32) (kind caller : Int32) (pa : Nat) (x d : Int32) : Nat → Int32 := upd (upd (upd (upd (upd (upd (upd (upd (upd (shK rw 5) 688 kind) 689 caller) 690 (nI pa)) 691 x) 692 1) 693 0) 687 (((shK rw 5) 687) + d)) 683 (((shK rw 5) 683) + 1)) 686 kind
theorem arise_W (rw : Nat → Int32) (kind caller : Int32) (pa : Nat) (x : Int32) : f_X8_arise rw kind caller pa x = if kind = 1 then (if caller = -10000 then rW rw kind caller pa x (if 10 ≤ (shK rw 5) 687 then 0 else 1) else upd (rW rw kind caller pa x (if 10 ≤ (shK rw 5) 687 then 0 else 1)) (1 + 8 * caller.toNatClampNeg + 6) ((shK rw 5) (1 + 8 * caller.toNatClampNeg + 6) + 1)) else if kind = 2 then upd (rW rw kind caller pa x (if 10 ≤ (shK rw 5) 687 then 0 else 1)) (1 + 8 * pa + 6) ((shK rw 5) (1 + 8 * pa + 6) + 1) else rW rw kind caller pa x (if 10 ≤ (shK rw 5) 687 then 0 else 1) := by
  unfold f_X8_arise rW
  by_cases h : 10 ≤ (shK rw 5) 687
  · rw [if_pos h, if_pos h]
  · rw [if_neg h, if_neg h]
theorem shK_low {rw : Nat → Int32} {i : Nat} (h : i ≤ 693) : shK rw 5 i = rw i := if_neg (by omega)
theorem rW_low {rw : Nat → Int32} {kind caller x d : Int32} {pa i : Nat} (h : i < 681) : rW rw kind caller pa x d i = rw i := by
  unfold rW
  rw [pk_un (by omega), pk_un (by omega), pk_un (by omega), pk_un (by omega), pk_un (by omega), pk_un (by omega), pk_un (by omega), pk_un (by omega), pk_un (by omega), shK_low (by omega)]
theorem rW_high {rw : Nat → Int32} {kind caller x d : Int32} {pa i : Nat} (h : 6 ≤ i) (h2 : i < 60) : rW rw kind caller pa x d (688 + i) = rw (688 + (i - 6)) := by
  unfold rW
  rw [pk_un (by omega), pk_un (by omega), pk_un (by omega), pk_un (by omega), pk_un (by omega), pk_un (by omega), pk_un (by omega), pk_un (by omega), pk_un (by omega)]
  show (if 688 + 5 < 688 + i ∧ 688 + i < 748 then rw (688 + i - 6) else rw (688 + i)) = _
  rw [if_pos (by omega), show 688 + i - 6 = 688 + (i - 6) by omega]
theorem k_min10 {kn : Nat} (h : kn ≤ 10) : k_min (nI kn + 1) 10 = nI (min (kn + 1) 10) := by
  rw [nI_1]
  exact k_min_N (a := kn + 1) (b := 10) (by omega) (by decide)
/-- there is a blame -/
def pBad (rw : Nat → Int32) : Prop := ∃ kn : Nat, 1 ≤ kn ∧ kn ≤ 10 ∧ rw 687 = nI kn
theorem pBad_out {rw rw2 : Nat → Int32} (h : pBad rw) (e : rw2 687 = rw 687) : pBad rw2 := by
  obtain ⟨kn, h1, h2, h3⟩ := h
  exact ⟨kn, h1, h2, e.trans h3⟩
theorem rW_bad {kp kind caller x : Int32} {blm rw : Nat → Int32} {pa : Nat} (h : pBlm kp blm rw) : pBad (rW rw kind caller pa x (if 10 ≤ (shK rw 5) 687 then 0 else 1)) := by
  obtain ⟨kn, h1, h2, h3, h4, h5⟩ := h
  have s7 : (shK rw 5) 687 = nI kn := by rw [shK_low (by omega)]; exact h3
  refine ⟨min (kn + 1) 10, by omega, by omega, ?_⟩
  have e : rW rw kind caller pa x (if 10 ≤ (shK rw 5) 687 then 0 else 1) 687 = (shK rw 5) 687 + (if 10 ≤ (shK rw 5) 687 then 0 else 1) := rfl
  rw [e, s7]
  by_cases h6 : 10 ≤ kn
  · rw [if_pos (show (10 : Int32) ≤ nI kn from (nI_leI (a := 10) (b := kn) (by decide) (by omega)).mpr h6), Int32.add_zero, show min (kn + 1) 10 = kn by omega]
  · rw [if_neg (show ¬ (10 : Int32) ≤ nI kn from fun q => h6 ((nI_leI (a := 10) (b := kn) (by decide) (by omega)).mp q)), nI_1, show min (kn + 1) 10 = kn + 1 by omega]
/-- the ring of blames -/
theorem pBlm_arise {kp kind caller x : Int32} {blm rw : Nat → Int32} {pa : Nat} (h : pBlm kp blm rw) (hk : ¬ kind = 0) : pBlm (f_X0_arise kp blm kind caller (nI pa) x).1 (f_X0_arise kp blm kind caller (nI pa) x).2 (rW rw kind caller pa x (if 10 ≤ (shK rw 5) 687 then 0 else 1)) := by
  obtain ⟨kn, h1, h2, h3, h4, h5⟩ := h
  have s7 : (shK rw 5) 687 = nI kn := by rw [shK_low (by omega)]; exact h3
  refine ⟨min (kn + 1) 10, by omega, ?_, ?_, ?_, ?_⟩
  · unfold f_X0_arise
    rw [h2]
    exact k_min10 h1
  · have e : rW rw kind caller pa x (if 10 ≤ (shK rw 5) 687 then 0 else 1) 687 = (shK rw 5) 687 + (if 10 ≤ (shK rw 5) 687 then 0 else 1) := rfl
    rw [e, s7]
    by_cases h6 : 10 ≤ kn
    · rw [if_pos (show (10 : Int32) ≤ nI kn from (nI_leI (a := 10) (b := kn) (by decide) (by omega)).mpr h6), Int32.add_zero, show min (kn + 1) 10 = kn by omega]
    · rw [if_neg (show ¬ (10 : Int32) ≤ nI kn from fun q => h6 ((nI_leI (a := 10) (b := kn) (by decide) (by omega)).mp q)), nI_1, show min (kn + 1) 10 = kn + 1 by omega]
  · have e : rW rw kind caller pa x (if 10 ≤ (shK rw 5) 687 then 0 else 1) 686 = kind := rfl
    rw [e]
    unfold f_X0_lastKind f_X0_arise
    rw [h2, k_min10 h1, if_neg (fun q => by have := (nI_leI (a := min (kn + 1) 10) (b := 0) (by omega) (by decide)).mp q; omega)]
    rfl
  · intro i hi
    by_cases h6 : i < 6
    · rcases (show i = 0 ∨ i = 1 ∨ i = 2 ∨ i = 3 ∨ i = 4 ∨ i = 5 by omega) with rfl | rfl | rfl | rfl | rfl | rfl <;> rfl
    · rw [rW_high (by omega) (by omega)]
      have e : (f_X0_arise kp blm kind caller (nI pa) x).2 i = va_cpy blm blm 0 6 54 i := by
        unfold f_X0_arise
        show upd (upd (upd (upd (upd (upd (va_cpy blm blm 0 6 54) 0 kind) 1 caller) 2 (nI pa)) 3 x) 4 1) 5 0 i = _
        rw [pk_un (by omega), pk_un (by omega), pk_un (by omega), pk_un (by omega), pk_un (by omega), pk_un (by omega)]
      rw [e]
      show (if 6 ≤ i ∧ i < 6 + 54 then blm (0 + (i - 6)) else blm i) = _
      rw [if_pos (by omega), Nat.zero_add]
      exact h5 (i - 6) (by omega)
/-- a blame, but the part's count -/
theorem pRel_W {mn pa : Nat} {cl cf ar co ct : Int32} {num bnd : Nat → Int32} {kp kind caller x : Int32} {blm rw : Nat → Int32} (h : pRel mn cl cf ar co ct num bnd kp blm rw) (hk : ¬ kind = 0) : pRel mn cl cf (ar + 1) co ct num bnd (f_X0_arise kp blm kind caller (nI pa) x).1 (f_X0_arise kp blm kind caller (nI pa) x).2 (rW rw kind caller pa x (if 10 ≤ (shK rw 5) 687 then 0 else 1)) := by
  obtain ⟨a1, a2, a3, a4, a5, a6, a7, a8, a9, a10, a11⟩ := h
  refine ⟨a1, ?_, a3, a4, ?_, a6, a7, pNum_out a1 a8 (fun i _ _ => rW_low (by omega)), pBnd_out a9 (fun i _ _ => rW_low (by omega)), pBlm_arise a10 hk, rNx_out a11 (fun i _ _ => rW_low (by omega))⟩
  · rw [rW_low (by omega)]; exact a2
  · rw [a5]; rfl
theorem pRel_accuse {mn pa : Nat} {cl cf ar co ct : Int32} {num bnd : Nat → Int32} {kp kind caller x : Int32} {blm rw : Nat → Int32} (hp : pa < mn) (hc : caller = -10000 ∨ ∃ c : Nat, c < mn ∧ caller = nI c) (hk : ¬ kind = 0) (h : pRel mn cl cf ar co ct num bnd kp blm rw) :
    (f_X4_accuse ar num kp blm kind caller (nI pa) x).1 = -10000 ∧ pRel mn cl cf (f_X4_accuse ar num kp blm kind caller (nI pa) x).2.1 co ct (f_X4_accuse ar num kp blm kind caller (nI pa) x).2.2.1 bnd (f_X4_accuse ar num kp blm kind caller (nI pa) x).2.2.2.1 (f_X4_accuse ar num kp blm kind caller (nI pa) x).2.2.2.2 (f_X8_arise rw kind caller pa x) ∧ pBad (f_X8_arise rw kind caller pa x) := by
  have hbd := rW_bad (kind := kind) (caller := caller) (pa := pa) (x := x) h.2.2.2.2.2.2.2.2.2.1
  have hm := h.1
  have hn := h.2.2.2.2.2.2.2.1
  have hW := pRel_W (pa := pa) (caller := caller) (x := x) h hk
  have cnt : ∀ c : Nat, c < mn → pRel mn cl cf (ar + 1) co ct (f_X4_countOne num (nI c) 6) bnd (f_X0_arise kp blm kind caller (nI pa) x).1 (f_X0_arise kp blm kind caller (nI pa) x).2 (upd (rW rw kind caller pa x (if 10 ≤ (shK rw 5) 687 then 0 else 1)) (1 + 8 * c + 6) ((shK rw 5) (1 + 8 * c + 6) + 1)) := by
    intro c hc
    rw [countOne_N (by omega), shK_low (i := 1 + 8 * c + 6) (by omega), (hn c hc).2.2.2.2.2.2.1]
    exact pRel_part (p := c) (w := 6) (by omega) (by omega) (by omega) hW
  rw [arise_W]
  unfold f_X4_accuse f_X0_blamedPart
  by_cases h1 : kind = 1
  · rw [if_pos h1, if_pos h1]
    by_cases h2 : caller = -10000
    · rw [if_pos h2, if_pos h2]
      exact ⟨rfl, hW, hbd⟩
    · rw [if_neg h2, if_neg h2]
      rcases hc with hc | ⟨c, hc, rfl⟩
      · exact absurd hc h2
      · rw [nI_clamp (by omega)]
        exact ⟨rfl, cnt c hc, pBad_out hbd (pk_un (by omega))⟩
  · rw [if_neg h1, if_neg h1]
    by_cases h2 : kind = 2
    · rw [if_pos h2, if_pos h2, if_neg (nI_ne (by omega))]
      exact ⟨rfl, cnt pa hp, pBad_out hbd (pk_un (by omega))⟩
    · rw [if_neg h2, if_neg h2, if_pos rfl]
      exact ⟨rfl, hW, hbd⟩
/-- what the class does when a part's number is there -/
def cFin (bnd : Nat → Int32) (caller pa : Int32) (K : KRes) : KRes :=
  if K.1 = -10000 then K
  else if ¬ f_X1_find bnd (-10001) pa = -10000 ∧ f_X1_gives bnd (f_X1_find bnd (-10001) pa) K.1 = 0 then ((f_X4_accuse K.2.2.1 K.2.2.2.2.1 K.2.2.2.2.2.1 K.2.2.2.2.2.2 2 caller pa K.1).1, K.2.1, (f_X4_accuse K.2.2.1 K.2.2.2.2.1 K.2.2.2.2.2.1 K.2.2.2.2.2.2 2 caller pa K.1).2.1, K.2.2.2.1, (f_X4_accuse K.2.2.1 K.2.2.2.2.1 K.2.2.2.2.2.1 K.2.2.2.2.2.2 2 caller pa K.1).2.2.1, (f_X4_accuse K.2.2.1 K.2.2.2.2.1 K.2.2.2.2.2.1 K.2.2.2.2.2.2 2 caller pa K.1).2.2.2.1, (f_X4_accuse K.2.2.1 K.2.2.2.2.1 K.2.2.2.2.2.1 K.2.2.2.2.2.2 2 caller pa K.1).2.2.2.2)
  else if ¬ f_X1_find bnd caller pa = -10000 ∧ f_X1_gives bnd (f_X1_find bnd caller pa) K.1 = 0 then ((f_X4_accuse K.2.2.1 K.2.2.2.2.1 K.2.2.2.2.2.1 K.2.2.2.2.2.2 (if f_X1_find bnd (-10001) pa = -10000 then 2 else 3) caller pa K.1).1, K.2.1, (f_X4_accuse K.2.2.1 K.2.2.2.2.1 K.2.2.2.2.2.1 K.2.2.2.2.2.2 (if f_X1_find bnd (-10001) pa = -10000 then 2 else 3) caller pa K.1).2.1, K.2.2.2.1, (f_X4_accuse K.2.2.1 K.2.2.2.2.1 K.2.2.2.2.2.1 K.2.2.2.2.2.2 (if f_X1_find bnd (-10001) pa = -10000 then 2 else 3) caller pa K.1).2.2.1, (f_X4_accuse K.2.2.1 K.2.2.2.2.1 K.2.2.2.2.2.1 K.2.2.2.2.2.2 (if f_X1_find bnd (-10001) pa = -10000 then 2 else 3) caller pa K.1).2.2.2.1, (f_X4_accuse K.2.2.1 K.2.2.2.2.1 K.2.2.2.2.2.1 K.2.2.2.2.2.2 (if f_X1_find bnd (-10001) pa = -10000 then 2 else 3) caller pa K.1).2.2.2.2)
  else K
def cAcc (cl ar ct : Int32) (num : Nat → Int32) (kp : Int32) (blm : Nat → Int32) (kind caller pa x : Int32) : KRes := ((f_X4_accuse ar num kp blm kind caller pa x).1, cl, (f_X4_accuse ar num kp blm kind caller pa x).2.1, ct, (f_X4_accuse ar num kp blm kind caller pa x).2.2.1, (f_X4_accuse ar num kp blm kind caller pa x).2.2.2.1, (f_X4_accuse ar num kp blm kind caller pa x).2.2.2.2)
theorem callOver_fin (cl ar ct : Int32) (num bnd : Nat → Int32) (kp : Int32) (blm : Nat → Int32) (caller pa x : Int32) (krk : KReck) : f_X4_callOver cl ar ct num bnd kp blm caller pa x krk =
    if ¬ f_X1_find bnd caller pa = -10000 ∧ f_X1_asks bnd (f_X1_find bnd caller pa) x = 0 then cAcc (cl + 1) ar ct (f_X4_countOne num pa 5) kp blm 1 caller pa x
    else if ¬ f_X1_find bnd (-10001) pa = -10000 ∧ f_X1_asks bnd (f_X1_find bnd (-10001) pa) x = 0 then cAcc (cl + 1) ar ct (f_X4_countOne num pa 5) kp blm (if f_X1_find bnd caller pa = -10000 then 1 else 3) caller pa x
    else cFin bnd caller pa (krk (cl + 1) ar ct (f_X4_countOne num pa 5) bnd kp blm pa x) := by
  unfold f_X4_callOver
  obtain ⟨K, hK⟩ : ∃ K, K = krk (cl + 1) ar ct (f_X4_countOne num pa 5) bnd kp blm pa x := ⟨_, rfl⟩
  rw [← hK]
  obtain ⟨F, hF⟩ : ∃ F, F = f_X1_find bnd caller pa := ⟨_, rfl⟩
  obtain ⟨G, hG⟩ : ∃ G, G = f_X1_find bnd (-10001) pa := ⟨_, rfl⟩
  unfold cFin
  rw [← hF, ← hG]
  have eK : ((-10000 : Int32), K.2.1, K.2.2.1, K.2.2.2.1, K.2.2.2.2.1, K.2.2.2.2.2.1, K.2.2.2.2.2.2) = if K.1 = -10000 then K else ((-10000 : Int32), K.2) := by
    by_cases h : K.1 = -10000
    · rw [if_pos h, ← h]
    · rw [if_neg h]
  by_cases f1 : F = -10000
  · have nF : ∀ z : Prop, ¬ (¬ F = -10000 ∧ z) := fun z q => q.1 f1
    rw [if_pos f1, if_neg (nF _), if_neg (nF _)]
    by_cases g1 : G = -10000
    · have nG : ∀ z : Prop, ¬ (¬ G = -10000 ∧ z) := fun z q => q.1 g1
      rw [if_pos g1, if_neg (nG _), if_neg (nG _)]
      by_cases h : K.1 = -10000
      · rw [if_pos h, if_pos h, eK, if_pos h]
      · rw [if_neg h, if_neg h]
    · rw [if_neg g1]
      by_cases a : f_X1_asks bnd G x = 0
      · rw [if_pos a, if_pos (show ¬ G = -10000 ∧ f_X1_asks bnd G x = 0 from ⟨g1, a⟩), if_pos f1]; rfl
      · rw [if_neg a, if_neg (show ¬ (¬ G = -10000 ∧ f_X1_asks bnd G x = 0) from fun q => a q.2)]
        by_cases h : K.1 = -10000
        · rw [if_pos h, if_pos h, eK, if_pos h]
        · rw [if_neg h, if_neg h]
          by_cases b : f_X1_gives bnd G K.1 = 0
          · rw [if_pos b, if_pos (show ¬ G = -10000 ∧ f_X1_gives bnd G K.1 = 0 from ⟨g1, b⟩)]
          · rw [if_neg b, if_neg (show ¬ (¬ G = -10000 ∧ f_X1_gives bnd G K.1 = 0) from fun q => b q.2)]
  · rw [if_neg f1]
    by_cases fa : f_X1_asks bnd F x = 0
    · rw [if_pos fa, if_pos (show ¬ F = -10000 ∧ f_X1_asks bnd F x = 0 from ⟨f1, fa⟩)]; rfl
    · rw [if_neg fa, if_neg (show ¬ (¬ F = -10000 ∧ f_X1_asks bnd F x = 0) from fun q => fa q.2)]
      by_cases g1 : G = -10000
      · have nG : ∀ z : Prop, ¬ (¬ G = -10000 ∧ z) := fun z q => q.1 g1
        rw [if_pos g1, if_neg (nG _), if_neg (nG _), if_pos g1]
        by_cases h : K.1 = -10000
        · rw [if_pos h, if_pos h, eK, if_pos h]
        · rw [if_neg h, if_neg h]
          by_cases b : f_X1_gives bnd F K.1 = 0
          · rw [if_pos b, if_pos (show ¬ F = -10000 ∧ f_X1_gives bnd F K.1 = 0 from ⟨f1, b⟩)]
          · rw [if_neg b, if_neg (show ¬ (¬ F = -10000 ∧ f_X1_gives bnd F K.1 = 0) from fun q => b q.2)]
      · rw [if_neg g1]
        by_cases a : f_X1_asks bnd G x = 0
        · rw [if_pos a, if_pos (show ¬ G = -10000 ∧ f_X1_asks bnd G x = 0 from ⟨g1, a⟩), if_neg f1]; rfl
        · rw [if_neg a, if_neg (show ¬ (¬ G = -10000 ∧ f_X1_asks bnd G x = 0) from fun q => a q.2)]
          by_cases h : K.1 = -10000
          · rw [if_pos h, if_pos h, eK, if_pos h]
          · rw [if_neg h, if_neg h]
            by_cases b : f_X1_gives bnd G K.1 = 0
            · rw [if_pos b, if_pos (show ¬ G = -10000 ∧ f_X1_gives bnd G K.1 = 0 from ⟨g1, b⟩)]
            · rw [if_neg b, if_neg (show ¬ (¬ G = -10000 ∧ f_X1_gives bnd G K.1 = 0) from fun q => b q.2)]
              by_cases b2 : f_X1_gives bnd F K.1 = 0
              · rw [if_pos b2, if_pos (show ¬ F = -10000 ∧ f_X1_gives bnd F K.1 = 0 from ⟨f1, b2⟩), if_neg g1]
              · rw [if_neg b2, if_neg (show ¬ (¬ F = -10000 ∧ f_X1_gives bnd F K.1 = 0) from fun q => b2 q.2)]
end
