-- THE PURE PART, 16: texts, of both: commands that are read
noncomputable section
/-- the first char that doesn't fit -/
def fIn (ss : Nat) (sc : Nat → Int32) : List Int32 → Nat → Option Nat
  | [], _ => none
  | c :: L, b => if f_X6_fits (f_X6_codeAt ss sc b) c = 0 then some b else fIn ss sc L (b + 1)
theorem feIn_eq {ss : Nat} {sc : Nat → Int32} {sh : Nat} : ∀ (L : List Int32) (k b : Nat), (∀ (i : Nat) (c : Int32), L[i]? = some c → ∀ x, f_X6_fits x (kCh sh (k + i)) = f_X6_fits x c) → feIn ss sc sh L.length k b = fIn ss sc L b := by
  intro L
  induction L with
  | nil => intro k b _; rfl
  | cons c L ih =>
    intro k b h
    have h0 := h 0 c rfl (f_X6_codeAt ss sc b)
    rw [Nat.add_zero] at h0
    rw [List.length_cons, feIn, fIn, h0]
    by_cases a : f_X6_fits (f_X6_codeAt ss sc b) c = 0
    · rw [if_pos a, if_pos a]
    · rw [if_neg a, if_neg a]
      exact ih (k + 1) (b + 1) (fun i c2 hi x => by
        have := h (i + 1) c2 hi x
        rw [show k + (i + 1) = k + 1 + i by omega] at this
        exact this)
theorem fits_d (x : Int32) : f_X6_fits x 100 = f_X6_fits x 57 := rfl
section TX
variable {ss : Nat} {sc : Nat → Int32}
theorem tokS {mt : Int32} (hmt : mt = 0 ∨ mt = 9) (L : List Int32) (b : Nat) : (tS ss b sc 1 mt = (kSgn ss sc b, 1, b + 3) ∧ fIn ss sc (115 :: mtC mt :: 57 :: L) b = fIn ss sc L (b + 3)) ∨ (∃ e, fIn ss sc (115 :: mtC mt :: 57 :: L) b = some e ∧ (tS ss b sc 1 mt).2 = (0, e)) := by
  rw [fIn, fIn, fIn]
  by_cases h0 : f_X6_fits (f_X6_codeAt ss sc b) 115 = 0
  · rw [if_pos h0]
    exact Or.inr ⟨b, rfl, tS_stop hmt b (Or.inl ⟨rfl, h0⟩)⟩
  · rw [if_neg h0]
    by_cases h1 : f_X6_fits (f_X6_codeAt ss sc (b + 1)) (mtC mt) = 0
    · rw [if_pos h1]
      exact Or.inr ⟨b + 1, rfl, tS_stop hmt (b + 1) (Or.inr (Or.inl ⟨rfl, h0, h1⟩))⟩
    · rw [if_neg h1]
      by_cases h2 : f_X6_fits (f_X6_codeAt ss sc (b + 1 + 1)) 57 = 0
      · rw [if_pos h2]
        exact Or.inr ⟨b + 2, rfl, tS_stop hmt (b + 2) (Or.inr (Or.inr ⟨rfl, h0, h1, h2⟩))⟩
      · rw [if_neg h2]
        exact Or.inl ⟨tS_ok hmt h0 h1 h2, rfl⟩
theorem tokD (L : List Int32) (b : Nat) : (tD ss b sc 1 = ((f_X6_codeAt ss sc b - 48).toNatClampNeg, 1, b + 1) ∧ ¬ f_X6_fits (f_X6_codeAt ss sc b) 57 = 0 ∧ fIn ss sc (57 :: L) b = fIn ss sc L (b + 1)) ∨ (∃ e, fIn ss sc (57 :: L) b = some e ∧ (tD ss b sc 1).2 = (0, e)) := by
  rw [fIn]
  by_cases h0 : f_X6_fits (f_X6_codeAt ss sc b) 57 = 0
  · rw [if_pos h0]
    exact Or.inr ⟨b, rfl, tD_stop h0⟩
  · rw [if_neg h0]
    exact Or.inl ⟨tD_ok h0, h0, rfl⟩
theorem goes_1 (lo : Int32) : f_X8_goes 1 lo 1 = (1, lo + 0) ∧ f_X8_goes 1 lo 0 = (0, lo + 1) := by
  unfold f_X8_goes
  exact ⟨by rw [if_neg (by decide), if_neg (by decide)], by rw [if_neg (by decide), if_pos rfl]⟩
theorem readPart_rel (sp : Nat) (lo : Int32) (rw : Nat → Int32) (mn : Nat) : (∃ e, fIn ss sc [115, 48, 57, 115, 57, 57] sp = some e ∧ (f_X8_readPart ss sp 1 lo sc rw mn).1 = 0 ∧ (f_X8_readPart ss sp 1 lo sc rw mn).2.1 = e) ∨ (fIn ss sc [115, 48, 57, 115, 57, 57] sp = none ∧ f_X8_readPart ss sp 1 lo sc rw mn = (1, sp + 6, if 10 ≤ mn then (lo + 1, rw) else (lo + 0, f_X8_addIn rw (kSgn ss sc sp) (kSgn ss sc (sp + 3)) mn))) := by
  have m0 : mtC 0 = 48 := by decide
  have m9 : mtC 9 = 57 := by decide
  have lf : ∀ v1 v2 : Int32 × Int32 × Nat, tS ss sp sc 1 0 = v1 → tS ss v1.2.2 sc v1.2.1 9 = v2 → f_X8_readPart ss sp 1 lo sc rw mn = (if 10 ≤ mn then (v2.2.1, v2.2.2, (f_X8_goes v2.2.1 lo 0).2, rw) else if (f_X8_goes v2.2.1 lo 1).1 = 0 then (v2.2.1, v2.2.2, (f_X8_goes v2.2.1 lo 1).2, rw) else (v2.2.1, v2.2.2, (f_X8_goes v2.2.1 lo 1).2, f_X8_addIn rw v1.1 v2.1 mn)) := by
    intro v1 v2 e1 e2
    subst e1
    subst e2
    rfl
  have bad : ∀ (v1 v2 : Int32 × Int32 × Nat) (e : Nat), tS ss sp sc 1 0 = v1 → tS ss v1.2.2 sc v1.2.1 9 = v2 → v2.2 = (0, e) → (f_X8_readPart ss sp 1 lo sc rw mn).1 = 0 ∧ (f_X8_readPart ss sp 1 lo sc rw mn).2.1 = e := by
    intro v1 v2 e e1 e2 e3
    rw [lf v1 v2 e1 e2]
    have z1 : v2.2.1 = 0 := congrArg Prod.fst e3
    have z2 : v2.2.2 = e := congrArg Prod.snd e3
    repeat' split
    all_goals exact ⟨z1, z2⟩
  rcases tokS (ss := ss) (sc := sc) (mt := 0) (Or.inl rfl) [115, 57, 57] sp with ⟨t1, f1⟩ | ⟨e, f1, t1⟩
  · rw [m0] at f1
    rcases tokS (ss := ss) (sc := sc) (mt := 9) (Or.inr rfl) [] (sp + 3) with ⟨t2, f2⟩ | ⟨e, f2, t2⟩
    · rw [m9] at f2
      refine Or.inr ⟨by rw [f1, f2]; rfl, ?_⟩
      rw [lf _ _ t1 t2]
      dsimp only
      rw [(goes_1 lo).1, (goes_1 lo).2]
      by_cases c : 10 ≤ mn
      · rw [if_pos c, if_pos c]
      · rw [if_neg c, if_neg c, if_neg (show ¬ ((1 : Int32), lo + 0).1 = 0 by show ¬ (1 : Int32) = 0; decide)]
    · rw [m9] at f2
      exact Or.inl ⟨e, by rw [f1, f2], bad _ _ e t1 rfl t2⟩
  · rw [m0] at f1
    refine Or.inl ⟨e, f1, bad _ _ e rfl rfl ?_⟩
    have z1 : (tS ss sp sc 1 0).2.1 = 0 := congrArg Prod.fst t1
    have z2 : (tS ss sp sc 1 0).2.2 = e := congrArg Prod.snd t1
    rw [z1, z2]
    exact tS_0
theorem readDrop_rel (sp : Nat) (lo : Int32) (rw : Nat → Int32) : (∃ e, fIn ss sc [57] sp = some e ∧ (f_X8_readDrop ss sp 1 lo sc rw).1 = 0 ∧ (f_X8_readDrop ss sp 1 lo sc rw).2.1 = e) ∨ (fIn ss sc [57] sp = none ∧ ¬ f_X6_fits (f_X6_codeAt ss sc sp) 57 = 0 ∧ f_X8_readDrop ss sp 1 lo sc rw = (1, sp + 1, if f_X8_isRead rw (nI (f_X6_codeAt ss sc sp - 48).toNatClampNeg) = 0 then (lo + 1, rw) else if f_X8_hasContract rw 0 (f_X6_codeAt ss sc sp - 48).toNatClampNeg = 0 then (lo + 1, rw) else (lo + 0, upd rw (81 + 5 * (10 * 0 + (f_X6_codeAt ss sc sp - 48).toNatClampNeg) + 0) 0))) := by
  rcases tokD (ss := ss) (sc := sc) [] sp with ⟨t1, h1, f1⟩ | ⟨e, f1, t1⟩
  · refine Or.inr ⟨f1, h1, ?_⟩
    unfold f_X8_readDrop
    dsimp only
    rw [t1]
    dsimp only
    rw [(goes_1 lo).1, (goes_1 lo).2]
    by_cases c : f_X8_isRead rw (nI (f_X6_codeAt ss sc sp - 48).toNatClampNeg) = 0
    · rw [if_pos c, if_pos c]
    · rw [if_neg c, if_neg c]
      by_cases d : f_X8_hasContract rw 0 (f_X6_codeAt ss sc sp - 48).toNatClampNeg = 0
      · rw [if_pos d, if_pos d]
      · rw [if_neg d, if_neg d, if_neg (show ¬ ((1 : Int32), lo + 0).1 = 0 by show ¬ (1 : Int32) = 0; decide)]
  · refine Or.inl ⟨e, f1, ?_⟩
    have z1 : (tD ss sp sc 1).2.1 = 0 := congrArg Prod.fst t1
    have z2 : (tD ss sp sc 1).2.2 = e := congrArg Prod.snd t1
    unfold f_X8_readDrop
    dsimp only
    repeat' split
    all_goals exact ⟨z1, z2⟩
theorem readCall_rel (sp : Nat) (lo : Int32) (rw cp cn : Nat → Int32) (mn : Nat) : (∃ e, fIn ss sc [115, 57, 57] sp = some e ∧ (f_X8_readCall ss sp 1 lo sc rw cp cn mn).1 = 0 ∧ (f_X8_readCall ss sp 1 lo sc rw cp cn mn).2.1 = e) ∨ (fIn ss sc [115, 57, 57] sp = none ∧ f_X8_readCall ss sp 1 lo sc rw cp cn mn = (1, sp + 3, if mn ≤ 0 then (lo + 1, rw, cp, cn) else (lo + 0, (h_X8_callIn cp cn rw (mn - 1) (kSgn ss sc sp)).2))) := by
  have m9 : mtC 9 = 57 := by decide
  rcases tokS (ss := ss) (sc := sc) (mt := 9) (Or.inr rfl) [] sp with ⟨t1, f1⟩ | ⟨e, f1, t1⟩
  · rw [m9] at f1
    refine Or.inr ⟨f1, ?_⟩
    unfold f_X8_readCall
    dsimp only
    rw [t1]
    dsimp only
    rw [(goes_1 lo).1, (goes_1 lo).2]
    by_cases c : mn ≤ 0
    · rw [if_pos c, if_pos c]
    · rw [if_neg c, if_neg c, if_neg (show ¬ ((1 : Int32), lo + 0).1 = 0 by show ¬ (1 : Int32) = 0; decide)]
  · rw [m9] at f1
    refine Or.inl ⟨e, f1, ?_⟩
    have z1 : (tS ss sp sc 1 9).2.1 = 0 := congrArg Prod.fst t1
    have z2 : (tS ss sp sc 1 9).2.2 = e := congrArg Prod.snd t1
    unfold f_X8_readCall
    dsimp only
    repeat' split
    all_goals exact ⟨z1, z2⟩
end TX
end
