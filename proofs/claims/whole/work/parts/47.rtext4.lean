-- MODULE: the reference, its text, 4
noncomputable section
theorem rStep_same {lv u : Nat} {cp cn rw0 rw : Nat → Int32} {v b : Int32} (h : rOk lv cp) (hu : u ≤ lv) (hs : kSame rw0 rw) : kSame rw0 (rStep lv cp cn u rw v b).1 := by
  have hp := (h.1 u hu).2
  unfold rStep
  repeat' split
  · exact rEnd_same h hu hs
  · exact rEnd_same h hu hs
  · exact hs.upd (by unfold kFix; omega)
  · exact hs.upd (by unfold kFix; omega)
  · exact rEnd_same h hu (((hs.upd (by unfold kFix; omega)).upd (by unfold kFix; omega)).upd (by unfold kFix; omega))
theorem rUp_same {lv : Nat} {cp cn rw0 : Nat → Int32} (h : rOk lv cp) : ∀ (u : Nat) (rw : Nat → Int32) (v b : Int32), u ≤ lv + 1 → kSame rw0 rw → kSame rw0 (rUp lv cp cn u rw v b).1 := by
  intro u
  induction u with
  | zero => intro rw v b _ hs; exact hs
  | succ u ih =>
    intro rw v b hu hs
    rw [rUp]
    exact ih _ _ _ (by omega) (rStep_same h (by omega) hs)
theorem callIn_same {cp cn rw : Nat → Int32} {pa : Nat} {x : Int32} (hR : rNx rw) (hp : pa < 10) : kSame rw (h_X8_callIn cp cn rw pa x).2.1 := by
  rw [h_X8_callIn_eq]
  obtain ⟨h1, h2⟩ := rDN_ok (fu := 10) (cp := cp) (cn := cn) (x := x) hR hp
  unfold f_X8_callIn
  split
  · exact (rUp_same h2 _ _ _ _ (Nat.le_refl _) h1).upd (by unfold kFix; omega)
  · exact (rUp_same h2 _ _ _ _ (Nat.le_refl _) h1).upd (by unfold kFix; omega)
/-- a row that holds a plan, as far as its walks need it -/
def rdOk (rw : Nat → Int32) : Prop := (∃ mn : Nat, rw 0 = nI mn ∧ mn ≤ 10) ∧ rNx rw
theorem rdOk_low {a b : Nat → Int32} (h : ∀ i : Nat, i < 81 → b i = a i) (ho : rdOk a) : rdOk b := by
  obtain ⟨⟨mn, h1, h2⟩, h3⟩ := ho
  refine ⟨⟨mn, by rw [h 0 (by omega), h1], h2⟩, fun q hq => ?_⟩
  obtain ⟨j, hj, e⟩ := h3 q hq
  exact ⟨j, hj, by rw [h _ (by omega), e]⟩
theorem rdOk_same {a b : Nat → Int32} (h : kSame a b) (ho : rdOk a) : rdOk b := by
  obtain ⟨⟨mn, h1, h2⟩, h3⟩ := ho
  exact ⟨⟨mn, by rw [h 0 (Or.inl rfl), h1], h2⟩, rNx_same h h3⟩
theorem rdOk_0 : rdOk (fun _ => 0) := ⟨⟨0, rfl, by omega⟩, fun q _ => ⟨0, by omega, rfl⟩⟩
theorem addIn_ok {rw : Nat → Int32} {f m : Int32} {mn : Nat} (h0 : rw 0 = nI mn) (h9 : mn < 10) (hR : rNx rw) : rdOk (f_X8_addIn rw f m mn) := by
  refine ⟨⟨mn + 1, ?_, by omega⟩, fun q hq => ?_⟩
  · unfold f_X8_addIn
    rw [pk_us]
    unfold clr
    rw [if_neg (by omega), h0, nI_1]
  · unfold f_X8_addIn
    rw [pk_un (by omega), pk_un (by omega), pk_un (by omega), pk_un (by omega)]
    unfold clr
    by_cases h : 1 + 8 * mn ≤ 1 + 8 * q + 2 ∧ 1 + 8 * q + 2 < 1 + 8 * mn + 8
    · rw [if_pos h]; exact ⟨0, by omega, rfl⟩
    · rw [if_neg h]; exact hR q hq
theorem chainIn_ok {rw : Nat → Int32} {st : Int32} {p q : Nat} (hp : p < 10) (hq : q < p) (ho : rdOk rw) : rdOk (f_X8_chainIn rw p (nI q) st) := by
  obtain ⟨⟨mn, h1, h2⟩, h3⟩ := ho
  have hne : ¬ nI q = -10000 := k_nneg (by omega) (by decide)
  unfold f_X8_chainIn
  rw [if_neg hne]
  refine ⟨⟨mn, by rw [pk_un (by omega), pk_un (by omega), h1], h2⟩, fun k hk => ?_⟩
  rw [pk_un (by omega)]
  by_cases h : k = p
  · subst h
    rw [pk_us]
    exact ⟨q + 1, by omega, nI_1 q⟩
  · rw [pk_un (by omega)]
    exact h3 k hk
theorem chainIn_none {rw : Nat → Int32} {st : Int32} {p : Nat} (hp : p < 10) (ho : rdOk rw) : rdOk (f_X8_chainIn rw p (-10000) st) := by
  obtain ⟨⟨mn, h1, h2⟩, h3⟩ := ho
  unfold f_X8_chainIn
  rw [if_pos rfl]
  refine ⟨⟨mn, by rw [pk_un (by omega), pk_un (by omega), h1], h2⟩, fun k hk => ?_⟩
  rw [pk_un (by omega)]
  by_cases h : k = p
  · subst h
    rw [pk_us]
    exact ⟨0, by omega, rfl⟩
  · rw [pk_un (by omega)]
    exact h3 k hk
theorem promise_low {rw : Nat → Int32} {sd pa : Nat} {al ah gl gh : Int32} {i : Nat} (hi : i < 81) : f_X8_promise rw sd pa al ah gl gh i = rw i := by
  unfold f_X8_promise
  rw [pk_un (by omega), pk_un (by omega), pk_un (by omega), pk_un (by omega), pk_un (by omega)]
theorem kAccS_ge (sp : Nat) (ig b9 : Int32) : sp ≤ kAccS sp ig b9 := by
  unfold kAccS
  repeat' split
  all_goals omega
theorem tS_ge (ss sp : Nat) (sc : Nat → Int32) (ig mt : Int32) : sp ≤ (tS ss sp sc ig mt).2.2 := by
  rw [tS_eq]
  exact Nat.le_trans (kAccS_ge _ _ _) (Nat.le_trans (kAccS_ge _ _ _) (kAccS_ge _ _ _))
theorem tD_ge (ss sp : Nat) (sc : Nat → Int32) (ig : Int32) : sp ≤ (tD ss sp sc ig).2.2 := by
  rw [tD_eq]
  exact kAccS_ge _ _ _
theorem readPart_b (ss sp : Nat) (ig lo : Int32) (sc rw : Nat → Int32) (mn : Nat) : sp ≤ (h_X8_readPart ss sp ig lo sc rw mn).2.1 ∧ (h_X8_readPart ss sp ig lo sc rw mn).2.1 ≤ sp + 13 := by
  have e : (h_X8_readPart ss sp ig lo sc rw mn).2.1 = (tS ss (tS ss sp sc ig 0).2.2 sc (tS ss sp sc ig 0).2.1 9).2.2 := by
    rw [h_X8_readPart_eq]; unfold f_X8_readPart; dsimp only; (repeat' split) <;> rfl
  rw [e]
  have g0 := tS_ge ss sp sc ig 0
  have l0 := tS_le ss sp sc ig 0
  have g1 := tS_ge ss (tS ss sp sc ig 0).2.2 sc (tS ss sp sc ig 0).2.1 9
  have l1 := tS_le ss (tS ss sp sc ig 0).2.2 sc (tS ss sp sc ig 0).2.1 9
  clear e
  generalize (tS ss sp sc ig 0) = A0 at *
  generalize (tS ss A0.2.2 sc A0.2.1 9) = A1 at *
  omega
theorem readChain_b (ss sp : Nat) (ig lo : Int32) (sc rw : Nat → Int32) : sp ≤ (h_X8_readChain ss sp ig lo sc rw).2.1 ∧ (h_X8_readChain ss sp ig lo sc rw).2.1 ≤ sp + 13 := by
  have e : (h_X8_readChain ss sp ig lo sc rw).2.1 = (tS ss (tD ss (tD ss sp sc ig).2.2 sc (tD ss sp sc ig).2.1).2.2 sc (tD ss (tD ss sp sc ig).2.2 sc (tD ss sp sc ig).2.1).2.1 9).2.2 := by
    rw [h_X8_readChain_eq]; unfold f_X8_readChain; dsimp only; (repeat' split) <;> rfl
  rw [e]
  have g0 := tD_ge ss sp sc ig
  have l0 := tD_le ss sp sc ig
  have g1 := tD_ge ss (tD ss sp sc ig).2.2 sc (tD ss sp sc ig).2.1
  have l1 := tD_le ss (tD ss sp sc ig).2.2 sc (tD ss sp sc ig).2.1
  have g2 := tS_ge ss (tD ss (tD ss sp sc ig).2.2 sc (tD ss sp sc ig).2.1).2.2 sc (tD ss (tD ss sp sc ig).2.2 sc (tD ss sp sc ig).2.1).2.1 9
  have l2 := tS_le ss (tD ss (tD ss sp sc ig).2.2 sc (tD ss sp sc ig).2.1).2.2 sc (tD ss (tD ss sp sc ig).2.2 sc (tD ss sp sc ig).2.1).2.1 9
  clear e
  generalize (tD ss sp sc ig) = A0 at *
  generalize (tD ss A0.2.2 sc A0.2.1) = A1 at *
  generalize (tS ss A1.2.2 sc A1.2.1 9) = A2 at *
  omega
theorem readOwn_b (ss sp : Nat) (ig lo : Int32) (sc rw : Nat → Int32) : sp ≤ (h_X8_readOwn ss sp ig lo sc rw).2.1 ∧ (h_X8_readOwn ss sp ig lo sc rw).2.1 ≤ sp + 13 := by
  have e : (h_X8_readOwn ss sp ig lo sc rw).2.1 = (tS ss (tS ss (tS ss (tS ss (tD ss sp sc ig).2.2 sc (tD ss sp sc ig).2.1 9).2.2 sc (tS ss (tD ss sp sc ig).2.2 sc (tD ss sp sc ig).2.1 9).2.1 9).2.2 sc (tS ss (tS ss (tD ss sp sc ig).2.2 sc (tD ss sp sc ig).2.1 9).2.2 sc (tS ss (tD ss sp sc ig).2.2 sc (tD ss sp sc ig).2.1 9).2.1 9).2.1 9).2.2 sc (tS ss (tS ss (tS ss (tD ss sp sc ig).2.2 sc (tD ss sp sc ig).2.1 9).2.2 sc (tS ss (tD ss sp sc ig).2.2 sc (tD ss sp sc ig).2.1 9).2.1 9).2.2 sc (tS ss (tS ss (tD ss sp sc ig).2.2 sc (tD ss sp sc ig).2.1 9).2.2 sc (tS ss (tD ss sp sc ig).2.2 sc (tD ss sp sc ig).2.1 9).2.1 9).2.1 9).2.1 9).2.2 := by
    rw [h_X8_readOwn_eq]; unfold f_X8_readOwn; dsimp only; (repeat' split) <;> rfl
  rw [e]
  have g0 := tD_ge ss sp sc ig
  have l0 := tD_le ss sp sc ig
  have g1 := tS_ge ss (tD ss sp sc ig).2.2 sc (tD ss sp sc ig).2.1 9
  have l1 := tS_le ss (tD ss sp sc ig).2.2 sc (tD ss sp sc ig).2.1 9
  have g2 := tS_ge ss (tS ss (tD ss sp sc ig).2.2 sc (tD ss sp sc ig).2.1 9).2.2 sc (tS ss (tD ss sp sc ig).2.2 sc (tD ss sp sc ig).2.1 9).2.1 9
  have l2 := tS_le ss (tS ss (tD ss sp sc ig).2.2 sc (tD ss sp sc ig).2.1 9).2.2 sc (tS ss (tD ss sp sc ig).2.2 sc (tD ss sp sc ig).2.1 9).2.1 9
  have g3 := tS_ge ss (tS ss (tS ss (tD ss sp sc ig).2.2 sc (tD ss sp sc ig).2.1 9).2.2 sc (tS ss (tD ss sp sc ig).2.2 sc (tD ss sp sc ig).2.1 9).2.1 9).2.2 sc (tS ss (tS ss (tD ss sp sc ig).2.2 sc (tD ss sp sc ig).2.1 9).2.2 sc (tS ss (tD ss sp sc ig).2.2 sc (tD ss sp sc ig).2.1 9).2.1 9).2.1 9
  have l3 := tS_le ss (tS ss (tS ss (tD ss sp sc ig).2.2 sc (tD ss sp sc ig).2.1 9).2.2 sc (tS ss (tD ss sp sc ig).2.2 sc (tD ss sp sc ig).2.1 9).2.1 9).2.2 sc (tS ss (tS ss (tD ss sp sc ig).2.2 sc (tD ss sp sc ig).2.1 9).2.2 sc (tS ss (tD ss sp sc ig).2.2 sc (tD ss sp sc ig).2.1 9).2.1 9).2.1 9
  have g4 := tS_ge ss (tS ss (tS ss (tS ss (tD ss sp sc ig).2.2 sc (tD ss sp sc ig).2.1 9).2.2 sc (tS ss (tD ss sp sc ig).2.2 sc (tD ss sp sc ig).2.1 9).2.1 9).2.2 sc (tS ss (tS ss (tD ss sp sc ig).2.2 sc (tD ss sp sc ig).2.1 9).2.2 sc (tS ss (tD ss sp sc ig).2.2 sc (tD ss sp sc ig).2.1 9).2.1 9).2.1 9).2.2 sc (tS ss (tS ss (tS ss (tD ss sp sc ig).2.2 sc (tD ss sp sc ig).2.1 9).2.2 sc (tS ss (tD ss sp sc ig).2.2 sc (tD ss sp sc ig).2.1 9).2.1 9).2.2 sc (tS ss (tS ss (tD ss sp sc ig).2.2 sc (tD ss sp sc ig).2.1 9).2.2 sc (tS ss (tD ss sp sc ig).2.2 sc (tD ss sp sc ig).2.1 9).2.1 9).2.1 9).2.1 9
  have l4 := tS_le ss (tS ss (tS ss (tS ss (tD ss sp sc ig).2.2 sc (tD ss sp sc ig).2.1 9).2.2 sc (tS ss (tD ss sp sc ig).2.2 sc (tD ss sp sc ig).2.1 9).2.1 9).2.2 sc (tS ss (tS ss (tD ss sp sc ig).2.2 sc (tD ss sp sc ig).2.1 9).2.2 sc (tS ss (tD ss sp sc ig).2.2 sc (tD ss sp sc ig).2.1 9).2.1 9).2.1 9).2.2 sc (tS ss (tS ss (tS ss (tD ss sp sc ig).2.2 sc (tD ss sp sc ig).2.1 9).2.2 sc (tS ss (tD ss sp sc ig).2.2 sc (tD ss sp sc ig).2.1 9).2.1 9).2.2 sc (tS ss (tS ss (tD ss sp sc ig).2.2 sc (tD ss sp sc ig).2.1 9).2.2 sc (tS ss (tD ss sp sc ig).2.2 sc (tD ss sp sc ig).2.1 9).2.1 9).2.1 9).2.1 9
  clear e
  generalize (tD ss sp sc ig) = A0 at *
  generalize (tS ss A0.2.2 sc A0.2.1 9) = A1 at *
  generalize (tS ss A1.2.2 sc A1.2.1 9) = A2 at *
  generalize (tS ss A2.2.2 sc A2.2.1 9) = A3 at *
  generalize (tS ss A3.2.2 sc A3.2.1 9) = A4 at *
  omega
theorem readCall_b (ss sp : Nat) (ig lo : Int32) (sc rw cp cn : Nat → Int32) (mn : Nat) : sp ≤ (h_X8_readCall ss sp ig lo sc rw cp cn mn).2.1 ∧ (h_X8_readCall ss sp ig lo sc rw cp cn mn).2.1 ≤ sp + 13 := by
  have e : (h_X8_readCall ss sp ig lo sc rw cp cn mn).2.1 = (tS ss sp sc ig 9).2.2 := by
    rw [h_X8_readCall_eq]; unfold f_X8_readCall; dsimp only; (repeat' split) <;> rfl
  rw [e]
  have g0 := tS_ge ss sp sc ig 9
  have l0 := tS_le ss sp sc ig 9
  clear e
  generalize (tS ss sp sc ig 9) = A0 at *
  omega
theorem readDrop_b (ss sp : Nat) (ig lo : Int32) (sc rw : Nat → Int32) : sp ≤ (h_X8_readDrop ss sp ig lo sc rw).2.1 ∧ (h_X8_readDrop ss sp ig lo sc rw).2.1 ≤ sp + 13 := by
  have e : (h_X8_readDrop ss sp ig lo sc rw).2.1 = (tD ss sp sc ig).2.2 := by
    rw [h_X8_readDrop_eq]; unfold f_X8_readDrop; dsimp only; (repeat' split) <;> rfl
  rw [e]
  have g0 := tD_ge ss sp sc ig
  have l0 := tD_le ss sp sc ig
  clear e
  generalize (tD ss sp sc ig) = A0 at *
  omega
theorem readPart_ok {ss sp mn : Nat} {ig lo : Int32} {sc rw : Nat → Int32} (h0 : rw 0 = nI mn) (h9 : mn ≤ 10) (ho : rdOk rw) : rdOk (h_X8_readPart ss sp ig lo sc rw mn).2.2.2 := by
  rw [h_X8_readPart_eq]
  unfold f_X8_readPart
  dsimp only
  split
  · exact ho
  · split
    · exact ho
    · exact addIn_ok h0 (by omega) ho.2
theorem readChain_ok {ss sp : Nat} {ig lo : Int32} {sc rw : Nat → Int32} (ho : rdOk rw) : rdOk (h_X8_readChain ss sp ig lo sc rw).2.2.2 := by
  have h9 := tD_9 ss sp sc ig
  rw [h_X8_readChain_eq]
  unfold f_X8_readChain
  dsimp only
  split
  · exact ho
  · split
    · exact ho
    · split
      · exact ho
      · exact chainIn_ok (by omega) (by omega) ho
theorem readOwn_ok {ss sp : Nat} {ig lo : Int32} {sc rw : Nat → Int32} (ho : rdOk rw) : rdOk (h_X8_readOwn ss sp ig lo sc rw).2.2.2 := by
  rw [h_X8_readOwn_eq]
  unfold f_X8_readOwn
  dsimp only
  repeat' split
  all_goals first | exact ho | exact rdOk_low (fun i hi => promise_low hi) ho
theorem readCall_ok {ss sp mn : Nat} {ig lo : Int32} {sc rw cp cn : Nat → Int32} (h9 : mn ≤ 10) (ho : rdOk rw) : rdOk (h_X8_readCall ss sp ig lo sc rw cp cn mn).2.2.2.1 := by
  rw [h_X8_readCall_eq]
  unfold f_X8_readCall
  dsimp only
  split
  · exact ho
  · split
    · exact ho
    · exact rdOk_same (callIn_same ho.2 (by omega)) ho
theorem readDrop_ok {ss sp : Nat} {ig lo : Int32} {sc rw : Nat → Int32} (ho : rdOk rw) : rdOk (h_X8_readDrop ss sp ig lo sc rw).2.2.2 := by
  rw [h_X8_readDrop_eq]
  unfold f_X8_readDrop
  dsimp only
  repeat' split
  all_goals first | exact ho | exact rdOk_low (fun i hi => pk_un (by omega)) ho
theorem tA_prog {sp : Nat} {ig : Int32} (h : ¬ ig = 0) : tA sp ig 1 = (1, sp + 1) := by
  rw [tA_eq]
  unfold kAccG kAccS
  rw [if_neg h, if_neg (by decide), if_neg h, if_neg (by decide)]
theorem tA_0 {sp : Nat} {ig : Int32} : tA sp ig 0 = (0, sp) := by
  rw [tA_eq]
  unfold kAccG kAccS
  by_cases h : ig = 0
  · rw [if_pos h, if_pos h]
  · rw [if_neg h, if_neg h, if_pos rfl, if_pos rfl]
theorem tA_b (sp : Nat) (ig b9 : Int32) : sp ≤ (tA sp ig b9).2 := by
  rw [tA_eq]
  exact kAccS_ge _ _ _
theorem readCmd_ok {ss sp mn : Nat} {ig lo : Int32} {sc rw cp cn : Nat → Int32} (h0 : rw 0 = nI mn) (h9 : mn ≤ 10) (ho : rdOk rw) : rdOk (h_X8_readCommand ss sp ig lo sc rw cp cn mn).2.2.2.1 := by
  rw [h_X8_readCommand_eq]
  unfold f_X8_readCommand
  dsimp only
  repeat' split
  all_goals first | exact ho | exact readPart_ok h0 h9 ho | exact readChain_ok ho | exact readOwn_ok ho | exact readCall_ok h9 ho | exact readDrop_ok ho
theorem readCmd_le {ss sp mn : Nat} {ig lo : Int32} {sc rw cp cn : Nat → Int32} : (h_X8_readCommand ss sp ig lo sc rw cp cn mn).2.1 ≤ sp + 14 := by
  have h1 := tA_le sp ig 1
  have h2 := tA_le sp ig 0
  rw [h_X8_readCommand_eq]
  unfold f_X8_readCommand
  dsimp only
  generalize tA sp ig 1 = A at *
  generalize tA sp ig 0 = B at *
  repeat' split
  all_goals first | (show A.2 ≤ _; omega) | (show B.2 ≤ _; omega) | (have h := (readPart_b ss A.2 A.1 lo sc rw mn).2; show (h_X8_readPart ss A.2 A.1 lo sc rw mn).2.1 ≤ _; omega) | (have h := (readChain_b ss A.2 A.1 lo sc rw).2; show (h_X8_readChain ss A.2 A.1 lo sc rw).2.1 ≤ _; omega) | (have h := (readOwn_b ss A.2 A.1 lo sc rw).2; show (h_X8_readOwn ss A.2 A.1 lo sc rw).2.1 ≤ _; omega) | (have h := (readCall_b ss A.2 A.1 lo sc rw cp cn mn).2; show (h_X8_readCall ss A.2 A.1 lo sc rw cp cn mn).2.1 ≤ _; omega) | (have h := (readDrop_b ss A.2 A.1 lo sc rw).2; show (h_X8_readDrop ss A.2 A.1 lo sc rw).2.1 ≤ _; omega) | (have h := (readDrop_b ss B.2 B.1 lo sc rw).2; show (h_X8_readDrop ss B.2 B.1 lo sc rw).2.1 ≤ _; omega)
theorem readCmd_prog {ss sp mn : Nat} {ig lo : Int32} {sc rw cp cn : Nat → Int32} (hi : ¬ ig = 0) : (h_X8_readCommand ss sp ig lo sc rw cp cn mn).1 = 0 ∨ sp < (h_X8_readCommand ss sp ig lo sc rw cp cn mn).2.1 := by
  rw [h_X8_readCommand_eq]
  unfold f_X8_readCommand
  dsimp only
  rw [tA_prog hi, tA_0]
  dsimp only
  have hn : ¬ (1 : Int32) = 0 := by decide
  by_cases c1 : sc sp = 110
  · rw [if_pos c1, if_neg hn]; exact Or.inr (readPart_b ss (sp + 1) 1 lo sc rw mn).1
  · rw [if_neg c1]
    by_cases c2 : sc sp = 115
    · rw [if_pos c2, if_neg hn]; exact Or.inr (readChain_b ss (sp + 1) 1 lo sc rw).1
    · rw [if_neg c2]
      by_cases c3 : sc sp = 111
      · rw [if_pos c3, if_neg hn]; exact Or.inr (readOwn_b ss (sp + 1) 1 lo sc rw).1
      · rw [if_neg c3]
        by_cases c4 : sc sp = 107
        · rw [if_pos c4, if_neg hn]; exact Or.inr (readCall_b ss (sp + 1) 1 lo sc rw cp cn mn).1
        · rw [if_neg c4]
          by_cases c5 : sc sp = 120
          · rw [if_pos c5, if_neg hn]; exact Or.inr (readDrop_b ss (sp + 1) 1 lo sc rw).1
          · rw [if_neg c5, if_pos rfl]; exact Or.inl rfl
/-- what the reading of a text holds: good, place, left out, the row, the chain's two rows -/
abbrev KRd : Type := Int32 × Nat × Int32 × (Nat → Int32) × (Nat → Int32) × (Nat → Int32)
def rdStep (ss : Nat) (sc : Nat → Int32) (v : KRd) : KRd := h_X8_readCommand ss v.2.1 v.1 v.2.2.1 sc v.2.2.2.1 v.2.2.2.2.1 v.2.2.2.2.2 (v.2.2.2.1 0).toNatClampNeg
def rdOut (ss : Nat) (sc : Nat → Int32) : Nat → KRd → KRd
  | 0, v => v
  | f + 1, v => if v.1 = 0 then v else if ss ≤ v.2.1 then v else rdOut ss sc f (rdStep ss sc v)
theorem rdOut_end {ss fu : Nat} {sc : Nat → Int32} {v : KRd} (h : v.1 = 0 ∨ ss ≤ v.2.1) : rdOut ss sc fu v = v := by
  cases fu with
  | zero => rfl
  | succ f =>
    rw [rdOut]
    by_cases h1 : v.1 = 0
    · rw [if_pos h1]
    · rw [if_neg h1]
      rcases h with h | h
      · exact absurd h h1
      · rw [if_pos h]
theorem rdOut_go {ss fu mn : Nat} {sc : Nat → Int32} {v v2 : KRd} (h1 : ¬ v.1 = 0) (h2 : ¬ ss ≤ v.2.1) (hf : v.1 = 0 ∨ ss < v.2.1 + fu) (hm : mn = (v.2.2.2.1 0).toNatClampNeg) (h : v2 = h_X8_readCommand ss v.2.1 v.1 v.2.2.1 sc v.2.2.2.1 v.2.2.2.2.1 v.2.2.2.2.2 mn) : rdOut ss sc (fu - 1) v2 = rdOut ss sc fu v := by
  rcases hf with hf | hf
  · exact absurd hf h1
  · obtain ⟨f, rfl⟩ : ∃ f, fu = f + 1 := ⟨fu - 1, by omega⟩
    rw [rdOut, if_neg h1, if_neg h2]
    subst hm h
    rfl
theorem rdOk_mn {rw : Nat → Int32} (h : rdOk rw) : rw 0 = nI (rw 0).toNatClampNeg ∧ (rw 0).toNatClampNeg ≤ 10 := by
  obtain ⟨⟨mn, h1, h2⟩, -⟩ := h
  rw [h1, nI_clamp (by omega)]
  exact ⟨rfl, h2⟩
theorem rdStep_ok {ss : Nat} {sc : Nat → Int32} {v : KRd} (h : rdOk v.2.2.2.1) : rdOk (rdStep ss sc v).2.2.2.1 := readCmd_ok (rdOk_mn h).1 (rdOk_mn h).2 h
theorem rdOut_ok {ss : Nat} {sc : Nat → Int32} : ∀ (f : Nat) (v : KRd), rdOk v.2.2.2.1 → v.2.1 ≤ ss + 14 → rdOk (rdOut ss sc f v).2.2.2.1 ∧ (rdOut ss sc f v).2.1 ≤ ss + 14 := by
  intro f
  induction f with
  | zero => intro v h1 h2; exact ⟨h1, h2⟩
  | succ f ih =>
    intro v h1 h2
    rw [rdOut]
    by_cases c1 : v.1 = 0
    · rw [if_pos c1]; exact ⟨h1, h2⟩
    · rw [if_neg c1]
      by_cases c2 : ss ≤ v.2.1
      · rw [if_pos c2]; exact ⟨h1, h2⟩
      · rw [if_neg c2]
        refine ih _ (rdStep_ok h1) (Nat.le_trans readCmd_le (by omega))
/-- the start of a reading, and its end -/
def rdV0 (ss : Nat) (sc cp cn : Nat → Int32) : KRd := ((tA 0 1 (f_X8_isNext ss 0 sc 67)).1, (tA 0 1 (f_X8_isNext ss 0 sc 67)).2, 0, fun _ => 0, cp, cn)
def tR : Nat → (Nat → Int32) → (Nat → Int32) → (Nat → Int32) → KRd := hid (fun ss sc cp cn => rdOut ss sc (ss + 1) (rdV0 ss sc cp cn))
theorem tR_eq (ss : Nat) (sc cp cn : Nat → Int32) : tR ss sc cp cn = rdOut ss sc (ss + 1) (rdV0 ss sc cp cn) := by
  unfold tR
  rw [hid_eq]
theorem tR_ok (ss : Nat) (sc cp cn : Nat → Int32) : rdOk (tR ss sc cp cn).2.2.2.1 ∧ (tR ss sc cp cn).2.1 ≤ ss + 14 := by
  rw [tR_eq]
  exact rdOut_ok _ _ rdOk_0 (Nat.le_trans (tA_le 0 1 (f_X8_isNext ss 0 sc 67)) (by omega))
/-- a row that is emptied, its first k places -/
def zf (rw : Nat → Int32) (k : Nat) : Nat → Int32 := fun i => if i < k then 0 else rw i
theorem zf_0 {rw : Nat → Int32} : zf rw 0 = rw := by
  funext i
  unfold zf
  exact if_neg (by omega)
theorem zf_s {rw : Nat → Int32} {k : Nat} : upd (zf rw k) k 0 = zf rw (k + 1) := by
  funext i
  unfold upd zf
  by_cases h1 : i = k
  · subst h1
    rw [if_pos rfl, if_pos (by omega)]
  · rw [if_neg h1]
    by_cases h2 : i < k
    · rw [if_pos h2, if_pos (by omega)]
    · rw [if_neg h2, if_neg (by omega)]
theorem qX8_readText_0 : Cond.fieldLink RX8 112 "BlameChainsModel" "spot" "I" ∈ wsX8_readText := (List.mem_cons_of_mem _ (List.mem_append_left _ (List.mem_append_left _ (List.mem_of_getElem? (i := 0) rfl))))
theorem qX8_readText_1 : Cond.fieldLink RX8 115 "BlameChainsModel" "isGood" "Z" ∈ wsX8_readText := (List.mem_cons_of_mem _ (List.mem_append_left _ (List.mem_append_left _ (List.mem_of_getElem? (i := 1) rfl))))
theorem qX8_readText_2 : Cond.fieldLink RX8 131 "BlameChainsModel" "leftOut" "I" ∈ wsX8_readText := (List.mem_cons_of_mem _ (List.mem_append_left _ (List.mem_append_left _ (List.mem_of_getElem? (i := 2) rfl))))
theorem qX8_readText_3 : Cond.fieldLink RX8 105 "BlameChainsModel" "scriptSize" "I" ∈ wsX8_readText := (List.mem_cons_of_mem _ (List.mem_append_left _ (List.mem_append_left _ (List.mem_of_getElem? (i := 4) rfl))))
theorem qX8_readText_4 : Cond.fieldLink RX8 13 "BlameChainsModel" "read" "[I" ∈ wsX8_readText := (List.mem_cons_of_mem _ (List.mem_append_left _ (List.mem_append_left _ (List.mem_of_getElem? (i := 3) rfl))))
set_option maxHeartbeats 4000000 in
set_option maxRecDepth 100000 in
theorem c_X8_readText (l : Launch) (D : va_G) (g : Nat → Nat) (m0 sc0 rd0 nw0 tr0 di0 ke0 ik0 cp0 cn0 be0 : Nat) (sz : Nat) (rf : Int32) (ss : Nat) (sp : Nat) (ig : Int32) (lo : Int32) (ac : Nat) (sc : Nat → Int32) (rw : Nat → Int32) (cp : Nat → Int32) (cn : Nat → Int32) (hss : ss ≤ 120) : kMi l D g yX8_readText wsX8_readText 8 0 0 [.ref m0] [(m0, .inr (8, [.int rf, .ref sc0, .int (nI ss), .int (nI sp), .int ig, .int lo, .ref rd0, .ref nw0, .ref tr0, .ref di0, .int (nI ac), .ref ke0, .ref ik0, .ref cp0, .ref cn0, .ref be0])), (sc0, .inl (g 0, 120, .inl sc)), (rd0, .inl (g 0, 748, .inl rw)), (cp0, .inl (g 0, 10, .inl cp)), (cn0, .inl (g 0, 10, .inl cn))] sz (if (tR ss sc cp cn).1 = 0 then nI (tR ss sc cp cn).2.1 else -10000) [(m0, .inr (8, [.int rf, .ref sc0, .int (nI ss), .int (nI ((tR ss sc cp cn).2.1)), .int ((tR ss sc cp cn).1), .int ((tR ss sc cp cn).2.2.1), .ref rd0, .ref nw0, .ref tr0, .ref di0, .int (nI ac), .ref ke0, .ref ik0, .ref cp0, .ref cn0, .ref be0])), (sc0, .inl (g 0, 120, .inl sc)), (rd0, .inl (g 0, 748, .inl ((tR ss sc cp cn).2.2.2.1))), (cp0, .inl (g 0, 10, .inl ((tR ss sc cp cn).2.2.2.2.1))), (cn0, .inl (g 0, 10, .inl ((tR ss sc cp cn).2.2.2.2.2)))] := by
  refine k_enter (nm := "readText") (own := RX8) (bytes := cX8_readText) (maxL := 2) (ret := (some .int)) (Qf := fun A => kQi D [(m0, .inr (8, [.int rf, .ref sc0, .int (nI ss), .int (nI ((tR ss sc cp cn).2.1)), .int ((tR ss sc cp cn).1), .int ((tR ss sc cp cn).2.2.1), .ref rd0, .ref nw0, .ref tr0, .ref di0, .int (nI ac), .ref ke0, .ref ik0, .ref cp0, .ref cn0, .ref be0])), (sc0, .inl (g 0, 120, .inl sc)), (rd0, .inl (g 0, 748, .inl ((tR ss sc cp cn).2.2.2.1))), (cp0, .inl (g 0, 10, .inl ((tR ss sc cp cn).2.2.2.2.1))), (cn0, .inl (g 0, 10, .inl ((tR ss sc cp cn).2.2.2.2.2)))] A (if (tR ss sc cp cn).1 = 0 then nI (tR ss sc cp cn).2.1 else -10000)) (by decide) rfl rfl rfl (Nat.le_of_ble_eq_true rfl) ?_
  rintro pp ee s mm below meth cc A ls args Q H locs hQ ⟨hx, hb, hr, hml, hown, hts, hlocks, hin⟩ hP hK hD hA hS hE hl
  have hl : lv_has ls 2 [(0, .ref m0)] := hl
  refine lv_aload_n hx hb dX8_readText_0 rfl (lv_at hl 0 rfl) ?_
  refine lv_iconst (v := 0) hx hb dX8_readText_1 (by decide) ?_
  refine va_put (D := D) (ci := 8) (v := .int 0) (ty := .int) (C := RX8) (T := TX8) (N := 16) hx hb hts (fun w h => (List.mem_cons_of_mem _ (List.mem_append_right _ h))) tyX8 tyX8_ok nmX8 hown hK hP hD hS 0 rfl rfl 3 (by decide) (hts _ qX8_readText_0) (fun _ h9 => h9) rfl (by decide +kernel) rfl rfl (Nat.le_of_ble_eq_true rfl) dX8_readText_2 (fun H locs hP hD hS => ?_)
  have hP : va_P D vwCl [(m0, .inr (8, [.int rf, .ref sc0, .int (nI ss), .int 0, .int ig, .int lo, .ref rd0, .ref nw0, .ref tr0, .ref di0, .int (nI ac), .ref ke0, .ref ik0, .ref cp0, .ref cn0, .ref be0])), (sc0, .inl (g 0, 120, .inl sc)), (rd0, .inl (g 0, 748, .inl rw)), (cp0, .inl (g 0, 10, .inl cp)), (cn0, .inl (g 0, 10, .inl cn))] H := hP
  have hD : va_D A [(m0, .inr (8, [.int rf, .ref sc0, .int (nI ss), .int 0, .int ig, .int lo, .ref rd0, .ref nw0, .ref tr0, .ref di0, .int (nI ac), .ref ke0, .ref ik0, .ref cp0, .ref cn0, .ref be0])), (sc0, .inl (g 0, 120, .inl sc)), (rd0, .inl (g 0, 748, .inl rw)), (cp0, .inl (g 0, 10, .inl cp)), (cn0, .inl (g 0, 10, .inl cn))] := hD
  refine lv_aload_n hx hb dX8_readText_5 rfl (lv_at hl 0 rfl) ?_
  refine lv_iconst (v := 1) hx hb dX8_readText_6 (by decide) ?_
  refine va_put (D := D) (ci := 8) (v := .int 1) (ty := .boolean) (C := RX8) (T := TX8) (N := 16) hx hb hts (fun w h => (List.mem_cons_of_mem _ (List.mem_append_right _ h))) tyX8 tyX8_ok nmX8 hown hK hP hD hS 0 rfl rfl 4 (by decide) (hts _ qX8_readText_1) (fun _ h9 => h9) rfl (by decide +kernel) rfl rfl (Nat.le_of_ble_eq_true rfl) dX8_readText_7 (fun H locs hP hD hS => ?_)
  have hP : va_P D vwCl [(m0, .inr (8, [.int rf, .ref sc0, .int (nI ss), .int 0, .int 1, .int lo, .ref rd0, .ref nw0, .ref tr0, .ref di0, .int (nI ac), .ref ke0, .ref ik0, .ref cp0, .ref cn0, .ref be0])), (sc0, .inl (g 0, 120, .inl sc)), (rd0, .inl (g 0, 748, .inl rw)), (cp0, .inl (g 0, 10, .inl cp)), (cn0, .inl (g 0, 10, .inl cn))] H := hP
  have hD : va_D A [(m0, .inr (8, [.int rf, .ref sc0, .int (nI ss), .int 0, .int 1, .int lo, .ref rd0, .ref nw0, .ref tr0, .ref di0, .int (nI ac), .ref ke0, .ref ik0, .ref cp0, .ref cn0, .ref be0])), (sc0, .inl (g 0, 120, .inl sc)), (rd0, .inl (g 0, 748, .inl rw)), (cp0, .inl (g 0, 10, .inl cp)), (cn0, .inl (g 0, 10, .inl cn))] := hD
  refine lv_aload_n hx hb dX8_readText_10 rfl (lv_at hl 0 rfl) ?_
  refine lv_iconst (v := 0) hx hb dX8_readText_11 (by decide) ?_
  refine va_put (D := D) (ci := 8) (v := .int 0) (ty := .int) (C := RX8) (T := TX8) (N := 16) hx hb hts (fun w h => (List.mem_cons_of_mem _ (List.mem_append_right _ h))) tyX8 tyX8_ok nmX8 hown hK hP hD hS 0 rfl rfl 5 (by decide) (hts _ qX8_readText_2) (fun _ h9 => h9) rfl (by decide +kernel) rfl rfl (Nat.le_of_ble_eq_true rfl) dX8_readText_12 (fun H locs hP hD hS => ?_)
  have hP : va_P D vwCl [(m0, .inr (8, [.int rf, .ref sc0, .int (nI ss), .int 0, .int 1, .int 0, .ref rd0, .ref nw0, .ref tr0, .ref di0, .int (nI ac), .ref ke0, .ref ik0, .ref cp0, .ref cn0, .ref be0])), (sc0, .inl (g 0, 120, .inl sc)), (rd0, .inl (g 0, 748, .inl rw)), (cp0, .inl (g 0, 10, .inl cp)), (cn0, .inl (g 0, 10, .inl cn))] H := hP
  have hD : va_D A [(m0, .inr (8, [.int rf, .ref sc0, .int (nI ss), .int 0, .int 1, .int 0, .ref rd0, .ref nw0, .ref tr0, .ref di0, .int (nI ac), .ref ke0, .ref ik0, .ref cp0, .ref cn0, .ref be0])), (sc0, .inl (g 0, 120, .inl sc)), (rd0, .inl (g 0, 748, .inl rw)), (cp0, .inl (g 0, 10, .inl cp)), (cn0, .inl (g 0, 10, .inl cn))] := hD
  refine lv_iconst (v := 0) hx hb dX8_readText_15 (by decide) ?_
  refine lv_istore_n (lv' := [(1, .int 0), (0, .ref m0)]) hx hb dX8_readText_16 rfl hl (by decide) rfl (fun ls hl => ?_)
  have hcont_17 : ∀ (H : Heap) (locs : List Loc) (ls : Array Slot), va_P D vwCl [(m0, .inr (8, [.int rf, .ref sc0, .int (nI ss), .int 0, .int 1, .int 0, .ref rd0, .ref nw0, .ref tr0, .ref di0, .int (nI ac), .ref ke0, .ref ik0, .ref cp0, .ref cn0, .ref be0])), (sc0, .inl (g 0, 120, .inl sc)), (rd0, .inl (g 0, 748, .inl (zf rw 748))), (cp0, .inl (g 0, 10, .inl cp)), (cn0, .inl (g 0, 10, .inl cn))] H → va_D A [(m0, .inr (8, [.int rf, .ref sc0, .int (nI ss), .int 0, .int 1, .int 0, .ref rd0, .ref nw0, .ref tr0, .ref di0, .int (nI ac), .ref ke0, .ref ik0, .ref cp0, .ref cn0, .ref be0])), (sc0, .inl (g 0, 120, .inl sc)), (rd0, .inl (g 0, 748, .inl (zf rw 748))), (cp0, .inl (g 0, 10, .inl cp)), (cn0, .inl (g 0, 10, .inl cn))] → va_S A s.heap H locs → lv_has ls 2 [(0, .ref m0)] → W pp l ee (kR 8 0 0) s mm args below meth cc H locs 0 0 Q (F0 mm 37 ls []) := by
    intro H locs ls hP hD hS hl
    obtain ⟨hP, hD⟩ := k_swap (q0 := 2) (f' := fun _ => 0) hP hD rfl (fun j hj => if_pos hj)
    have hP : va_P D vwCl [(m0, .inr (8, [.int rf, .ref sc0, .int (nI ss), .int 0, .int 1, .int 0, .ref rd0, .ref nw0, .ref tr0, .ref di0, .int (nI ac), .ref ke0, .ref ik0, .ref cp0, .ref cn0, .ref be0])), (sc0, .inl (g 0, 120, .inl sc)), (rd0, .inl (g 0, 748, .inl (fun _ => 0))), (cp0, .inl (g 0, 10, .inl cp)), (cn0, .inl (g 0, 10, .inl cn))] H := hP
    have hD : va_D A [(m0, .inr (8, [.int rf, .ref sc0, .int (nI ss), .int 0, .int 1, .int 0, .ref rd0, .ref nw0, .ref tr0, .ref di0, .int (nI ac), .ref ke0, .ref ik0, .ref cp0, .ref cn0, .ref be0])), (sc0, .inl (g 0, 120, .inl sc)), (rd0, .inl (g 0, 748, .inl (fun _ => 0))), (cp0, .inl (g 0, 10, .inl cp)), (cn0, .inl (g 0, 10, .inl cn))] := hD
    refine lv_aload_n hx hb dX8_readText_37 rfl (lv_at hl 0 rfl) ?_
    refine lv_aload_n hx hb dX8_readText_38 rfl (lv_at hl 0 rfl) ?_
    refine lv_bipush (v := 67) hx hb dX8_readText_39 (by decide) ?_
    refine k_ai (wr := [(rd0, .inl (g 0, 748, .inl (fun _ => 0))), (cp0, .inl (g 0, 10, .inl cp)), (cn0, .inl (g 0, 10, .inl cn))]) (w2 := [(m0, .inr (8, [.int rf, .ref sc0, .int (nI ss), .int 0, .int 1, .int 0, .ref rd0, .ref nw0, .ref tr0, .ref di0, .int (nI ac), .ref ke0, .ref ik0, .ref cp0, .ref cn0, .ref be0])), (sc0, .inl (g 0, 120, .inl sc)), (rd0, .inl (g 0, 748, .inl (fun _ => 0))), (cp0, .inl (g 0, 10, .inl cp)), (cn0, .inl (g 0, 10, .inl cn))]) (va_runV (As := [.int 67]) (rest := [.ref m0]) ⟨hx, hb, hml, hown, hts⟩ (c_X8_isNext l D g m0 sc0 rd0 nw0 tr0 di0 ke0 ik0 cp0 cn0 be0 H.size rf ss 0 1 0 ac sc 67 (by omega) (by omega)) (cwV 1 hts gX8_readText_X8_isNext rfl rfl rfl (by decide +kernel) (k_lvl (by omega) (by decide))) (kPV hP hD hK hS hA hE [0, 1] rfl (by decide) 0 8 rfl rfl rfl) rfl rfl hl.1 rfl (lv_room (Nat.le_of_ble_eq_true rfl)) dX8_readText_41 ⟨Nat.le_of_ble_eq_true rfl, Nat.le_of_ble_eq_true rfl⟩) hP hD hS hA [0, 1] [2, 3, 4] [3, 4, 0, 1, 2] rfl rfl (by decide) (by decide) rfl (by decide) (fun H locs hP hD hS => ?_)
    have hC := c_X8_acceptT l D g m0 sc0 rd0 nw0 tr0 di0 ke0 ik0 cp0 cn0 be0 H.size rf ss 0 1 0 ac (f_X8_isNext ss 0 sc 67) (by omega)
    obtain ⟨v_1, ev_1⟩ : ∃ z, z = (tA 0 1 (f_X8_isNext ss 0 sc 67)) := ⟨_, rfl⟩
    rw [← ev_1] at hC
    have hsv_1_0 : (tA 0 1 (f_X8_isNext ss 0 sc 67)).2 ≤ 0 + 1 := tA_le 0 1 (f_X8_isNext ss 0 sc 67)
    rw [← ev_1] at hsv_1_0
    have kev_1 : kEq v_1 (tA 0 1 (f_X8_isNext ss 0 sc 67)) := ev_1
    clear ev_1
    refine k_av (wr := [(sc0, .inl (g 0, 120, .inl sc)), (rd0, .inl (g 0, 748, .inl (fun _ => 0))), (cp0, .inl (g 0, 10, .inl cp)), (cn0, .inl (g 0, 10, .inl cn))]) (w2 := [(m0, .inr (8, [.int rf, .ref sc0, .int (nI ss), .int (nI v_1.2), .int v_1.1, .int 0, .ref rd0, .ref nw0, .ref tr0, .ref di0, .int (nI ac), .ref ke0, .ref ik0, .ref cp0, .ref cn0, .ref be0])), (sc0, .inl (g 0, 120, .inl sc)), (rd0, .inl (g 0, 748, .inl (fun _ => 0))), (cp0, .inl (g 0, 10, .inl cp)), (cn0, .inl (g 0, 10, .inl cn))]) (va_runV (As := [.int (f_X8_isNext ss 0 sc 67)]) (rest := []) ⟨hx, hb, hml, hown, hts⟩ hC (cwV 1 hts gX8_readText_X8_accept rfl rfl rfl (by decide +kernel) (k_lvl (by omega) (by decide))) (kPV hP hD hK hS hA hE [0] rfl (by decide) 0 8 rfl rfl rfl) rfl rfl hl.1 rfl (lv_room (Nat.le_of_ble_eq_true rfl)) dX8_readText_44 ⟨Nat.le_of_ble_eq_true rfl, Nat.le_of_ble_eq_true rfl⟩) hP hD hS hA [0] [1, 2, 3, 4] [4, 0, 1, 2, 3] rfl rfl (by decide) (by decide) rfl (by decide) (fun H locs hP hD hS => ?_)
    have hloop_47 : ∀ (nn_47 : Nat) (fu : Nat) (v : KRd), fu < nn_47 → ∀ (hf : v.1 = 0 ∨ ss < v.2.1 + fu) (hsp : v.2.1 ≤ 140) (hO : rdOk v.2.2.2.1) (hr9 : rdOut ss sc fu v = (tR ss sc cp cn)) (H : Heap) (locs : List Loc) (ls : Array Slot), va_P D vwCl [(m0, .inr (8, [.int rf, .ref sc0, .int (nI ss), .int (nI v.2.1), .int v.1, .int v.2.2.1, .ref rd0, .ref nw0, .ref tr0, .ref di0, .int (nI ac), .ref ke0, .ref ik0, .ref cp0, .ref cn0, .ref be0])), (sc0, .inl (g 0, 120, .inl sc)), (rd0, .inl (g 0, 748, .inl (v.2.2.2.1))), (cp0, .inl (g 0, 10, .inl (v.2.2.2.2.1))), (cn0, .inl (g 0, 10, .inl (v.2.2.2.2.2)))] H → va_D A [(m0, .inr (8, [.int rf, .ref sc0, .int (nI ss), .int (nI v.2.1), .int v.1, .int v.2.2.1, .ref rd0, .ref nw0, .ref tr0, .ref di0, .int (nI ac), .ref ke0, .ref ik0, .ref cp0, .ref cn0, .ref be0])), (sc0, .inl (g 0, 120, .inl sc)), (rd0, .inl (g 0, 748, .inl (v.2.2.2.1))), (cp0, .inl (g 0, 10, .inl (v.2.2.2.2.1))), (cn0, .inl (g 0, 10, .inl (v.2.2.2.2.2)))] → va_S A s.heap H locs → lv_has ls 2 [(0, .ref m0)] → W pp l ee (kR 8 0 0) s mm args below meth cc H locs 0 0 Q (F0 mm 47 ls []) := by
      intro nn_47
      induction nn_47 with
      | zero => intro fu v hm9; exact absurd hm9 (Nat.not_lt_zero _)
      | succ nn_47 ih_47 =>
        intro fu v hm_47 hf hsp hO hr9 H locs ls hP hD hS hl
        refine lv_aload_n hx hb dX8_readText_47 rfl (lv_at hl 0 rfl) ?_
        refine va_get (D := D) (ci := 8) (v := .int v.1) (C := RX8) (T := TX8) (N := 16) hx hb hts (fun w h => (List.mem_cons_of_mem _ (List.mem_append_right _ h))) hown hK hP 0 rfl rfl 4 (by decide) (hts _ qX8_readText_1) (fun _ h9 => h9) rfl dX8_readText_48 ?_
        refine lv_if_eq (tgt := 72) hx hb dX8_readText_51 (by decide) (fun c_2 => ?_) (fun c_2 => ?_)
        · refine lv_aload_n hx hb dX8_readText_72 rfl (lv_at hl 0 rfl) ?_
          refine va_get (D := D) (ci := 8) (v := .int v.1) (C := RX8) (T := TX8) (N := 16) hx hb hts (fun w h => (List.mem_cons_of_mem _ (List.mem_append_right _ h))) hown hK hP 0 rfl rfl 4 (by decide) (hts _ qX8_readText_1) (fun _ h9 => h9) rfl dX8_readText_73 ?_
          refine lv_if_eq (tgt := 85) hx hb dX8_readText_76 (by decide) (fun c_3 => ?_) (fun c_3 => ?_)
          · refine lv_aload_n hx hb dX8_readText_85 rfl (lv_at hl 0 rfl) ?_
            refine va_get (D := D) (ci := 8) (v := .int (nI v.2.1)) (C := RX8) (T := TX8) (N := 16) hx hb hts (fun w h => (List.mem_cons_of_mem _ (List.mem_append_right _ h))) hown hK hP 0 rfl rfl 3 (by decide) (hts _ qX8_readText_0) (fun _ h9 => h9) rfl dX8_readText_86 ?_
            have ev_1 : (tA 0 1 (f_X8_isNext ss 0 sc 67)) = v_1 := Eq.symm kev_1
            have hE2 := (rdOut_end (fu := fu) (sc := sc) (Or.inl c_2)).symm.trans hr9
            subst hQ
            exact k_ri hx hb hr hlocks hP hD hS dX8_readText_89 (by rw [← hE2, if_pos c_2]) (by rw [← hE2])
          · exact absurd c_2 c_3
        · refine lv_aload_n hx hb dX8_readText_54 rfl (lv_at hl 0 rfl) ?_
          refine va_get (D := D) (ci := 8) (v := .int (nI v.2.1)) (C := RX8) (T := TX8) (N := 16) hx hb hts (fun w h => (List.mem_cons_of_mem _ (List.mem_append_right _ h))) hown hK hP 0 rfl rfl 3 (by decide) (hts _ qX8_readText_0) (fun _ h9 => h9) rfl dX8_readText_55 ?_
          refine lv_aload_n hx hb dX8_readText_58 rfl (lv_at hl 0 rfl) ?_
          refine va_get (D := D) (ci := 8) (v := .int (nI ss)) (C := RX8) (T := TX8) (N := 16) hx hb hts (fun w h => (List.mem_cons_of_mem _ (List.mem_append_right _ h))) hown hK hP 0 rfl rfl 2 (by decide) (hts _ qX8_readText_3) (fun _ h9 => h9) rfl dX8_readText_59 ?_
          refine lv_icmp_ge (tgt := 72) hx hb dX8_readText_62 (by decide) (fun c_4 => ?_) (fun c_4 => ?_)
          · have c_4 : ss ≤ v.2.1 := (nI_leI (a := ss) (b := v.2.1) (by omega) (by omega)).mp c_4
            refine lv_aload_n hx hb dX8_readText_72 rfl (lv_at hl 0 rfl) ?_
            refine va_get (D := D) (ci := 8) (v := .int v.1) (C := RX8) (T := TX8) (N := 16) hx hb hts (fun w h => (List.mem_cons_of_mem _ (List.mem_append_right _ h))) hown hK hP 0 rfl rfl 4 (by decide) (hts _ qX8_readText_1) (fun _ h9 => h9) rfl dX8_readText_73 ?_
            refine lv_if_eq (tgt := 85) hx hb dX8_readText_76 (by decide) (fun c_5 => ?_) (fun c_5 => ?_)
            · exact absurd c_5 c_2
            · refine lv_sipush (v := (-10000)) hx hb dX8_readText_79 (by decide) ?_
              refine lv_goto (tgt := 89) hx hb dX8_readText_82 (by decide) ?_
              have ev_1 : (tA 0 1 (f_X8_isNext ss 0 sc 67)) = v_1 := Eq.symm kev_1
              have hE2 := (rdOut_end (fu := fu) (sc := sc) (Or.inr (by omega))).symm.trans hr9
              subst hQ
              exact k_ri hx hb hr hlocks hP hD hS dX8_readText_89 (by rw [← hE2, if_neg c_2]) (by rw [← hE2])
          · have c_4 : ¬ (ss ≤ v.2.1) := fun h9 => c_4 ((nI_leI (a := ss) (b := v.2.1) (by omega) (by omega)).mpr h9)
            have hfu1 : 1 ≤ fu := hf.elim (fun h7 => absurd h7 c_2) (fun h7 => by omega)
            obtain ⟨mn, hmE⟩ : ∃ z, z = (v.2.2.2.1 0).toNatClampNeg := ⟨_, rfl⟩
            have hmn : v.2.2.2.1 0 = nI mn := by rw [hmE]; exact (rdOk_mn hO).1
            have hm9 : mn ≤ 10 := by rw [hmE]; exact (rdOk_mn hO).2
            have hmK : kEq mn (v.2.2.2.1 0).toNatClampNeg := hmE
            clear hmE
            refine lv_aload_n hx hb dX8_readText_65 rfl (lv_at hl 0 rfl) ?_
            have hC := c_X8_readCommandH l D g m0 sc0 rd0 nw0 tr0 di0 ke0 ik0 cp0 cn0 be0 H.size rf ss v.2.1 v.1 v.2.2.1 ac sc (v.2.2.2.1) (v.2.2.2.2.1) (v.2.2.2.2.2) mn (by omega) (by omega) hmn hm9 hO.2
            obtain ⟨v_6, ev_6⟩ : ∃ z, z = (h_X8_readCommand ss v.2.1 v.1 v.2.2.1 sc (v.2.2.2.1) (v.2.2.2.2.1) (v.2.2.2.2.2) mn) := ⟨_, rfl⟩
            rw [← ev_6] at hC
            have kev_6 : kEq v_6 (h_X8_readCommand ss v.2.1 v.1 v.2.2.1 sc (v.2.2.2.1) (v.2.2.2.2.1) (v.2.2.2.2.2) mn) := ev_6
            clear ev_6
            refine k_av (wr := []) (w2 := [(m0, .inr (8, [.int rf, .ref sc0, .int (nI ss), .int (nI v_6.2.1), .int v_6.1, .int v_6.2.2.1, .ref rd0, .ref nw0, .ref tr0, .ref di0, .int (nI ac), .ref ke0, .ref ik0, .ref cp0, .ref cn0, .ref be0])), (sc0, .inl (g 0, 120, .inl sc)), (rd0, .inl (g 0, 748, .inl v_6.2.2.2.1)), (cp0, .inl (g 0, 10, .inl v_6.2.2.2.2.1)), (cn0, .inl (g 0, 10, .inl v_6.2.2.2.2.2))]) (va_runV (As := []) (rest := []) ⟨hx, hb, hml, hown, hts⟩ hC (cwV 0 hts gX8_readText_X8_readCommand rfl rfl rfl (by decide +kernel) (k_lvl (by omega) (by decide))) (kPV hP hD hK hS hA hE [0, 1, 2, 3, 4] rfl (by decide) 0 8 rfl rfl rfl) rfl rfl hl.1 rfl (lv_room (Nat.le_of_ble_eq_true rfl)) dX8_readText_66 ⟨Nat.le_of_ble_eq_true rfl, Nat.le_of_ble_eq_true rfl⟩) hP hD hS hA [0, 1, 2, 3, 4] [] [0, 1, 2, 3, 4] rfl rfl (by decide) (by decide) rfl (by decide) (fun H locs hP hD hS => ?_)
            refine lv_goto (tgt := 47) hx hb dX8_readText_69 (by decide) ?_
            exact ih_47 (fu - 1) v_6 (by omega) (by have e9 : v_6 = (h_X8_readCommand ss v.2.1 v.1 v.2.2.1 sc (v.2.2.2.1) (v.2.2.2.2.1) (v.2.2.2.2.2) mn) := kev_6; have hm7 : mn = (v.2.2.2.1 0).toNatClampNeg := hmK; exact hf.elim (fun h7 => absurd h7 c_2) (fun h7 => (readCmd_prog (ss := ss) (sp := v.2.1) (mn := mn) (lo := v.2.2.1) (sc := sc) (rw := v.2.2.2.1) (cp := v.2.2.2.2.1) (cn := v.2.2.2.2.2) c_2).elim (fun h8 => Or.inl (by rw [e9]; exact h8)) (fun h8 => Or.inr (by rw [← e9] at h8; omega)))) (by have e9 : v_6 = (h_X8_readCommand ss v.2.1 v.1 v.2.2.1 sc (v.2.2.2.1) (v.2.2.2.2.1) (v.2.2.2.2.2) mn) := kev_6; have h8 := readCmd_le (ss := ss) (sp := v.2.1) (mn := mn) (ig := v.1) (lo := v.2.2.1) (sc := sc) (rw := v.2.2.2.1) (cp := v.2.2.2.2.1) (cn := v.2.2.2.2.2); rw [← e9] at h8; omega) (by have e9 : v_6 = (h_X8_readCommand ss v.2.1 v.1 v.2.2.1 sc (v.2.2.2.1) (v.2.2.2.2.1) (v.2.2.2.2.2) mn) := kev_6; rw [e9]; exact readCmd_ok hmn hm9 hO) ((rdOut_go c_2 (show ¬ ss ≤ v.2.1 by omega) hf hmK kev_6).trans hr9) H locs ls hP hD hS (lv_sub hl [0] rfl)
    exact hloop_47 ((ss + 1) + 1) (ss + 1) (v_1.1, v_1.2, 0, fun _ => 0, cp, cn) (Nat.lt_succ_self _) (Or.inr (show ss < v_1.2 + (ss + 1) by omega)) (show v_1.2 ≤ 140 by omega) rdOk_0 (by have e9 : v_1 = tA 0 1 (f_X8_isNext ss 0 sc 67) := kev_1; rw [tR_eq]; unfold rdV0; rw [← e9]) H locs ls hP hD hS (lv_sub hl [0] rfl)
  have hloop_17 : ∀ (nn_17 : Nat) (k : Nat) (cf : Nat → Int32), 748 - k < nn_17 → ∀ (hk : k ≤ 748) (hc : cf = zf rw k) (H : Heap) (locs : List Loc) (ls : Array Slot), va_P D vwCl [(m0, .inr (8, [.int rf, .ref sc0, .int (nI ss), .int 0, .int 1, .int 0, .ref rd0, .ref nw0, .ref tr0, .ref di0, .int (nI ac), .ref ke0, .ref ik0, .ref cp0, .ref cn0, .ref be0])), (sc0, .inl (g 0, 120, .inl sc)), (rd0, .inl (g 0, 748, .inl cf)), (cp0, .inl (g 0, 10, .inl cp)), (cn0, .inl (g 0, 10, .inl cn))] H → va_D A [(m0, .inr (8, [.int rf, .ref sc0, .int (nI ss), .int 0, .int 1, .int 0, .ref rd0, .ref nw0, .ref tr0, .ref di0, .int (nI ac), .ref ke0, .ref ik0, .ref cp0, .ref cn0, .ref be0])), (sc0, .inl (g 0, 120, .inl sc)), (rd0, .inl (g 0, 748, .inl cf)), (cp0, .inl (g 0, 10, .inl cp)), (cn0, .inl (g 0, 10, .inl cn))] → va_S A s.heap H locs → lv_has ls 2 [(1, .int (nI k)), (0, .ref m0)] → W pp l ee (kR 8 0 0) s mm args below meth cc H locs 0 0 Q (F0 mm 17 ls []) := by
    intro nn_17
    induction nn_17 with
    | zero => intro k cf hm9; exact absurd hm9 (Nat.not_lt_zero _)
    | succ nn_17 ih_17 =>
      intro k cf hm_17 hk hc H locs ls hP hD hS hl
      refine lv_iload_n hx hb dX8_readText_17 rfl (lv_at hl 0 rfl) ?_
      refine lv_sipush (v := 748) hx hb dX8_readText_18 (by decide) ?_
      refine lv_icmp_ge (tgt := 37) hx hb dX8_readText_21 (by decide) (fun c_7 => ?_) (fun c_7 => ?_)
      · have c_7 : 748 ≤ k := (nI_leI (a := 748) (b := k) (by omega) (by omega)).mp c_7
        obtain rfl : k = 748 := by omega
        subst hc
        exact hcont_17 H locs ls hP hD hS (lv_sub hl [1] rfl)
      · have c_7 : ¬ (748 ≤ k) := fun h9 => c_7 ((nI_leI (a := 748) (b := k) (by omega) (by omega)).mpr h9)
        refine lv_aload_n hx hb dX8_readText_24 rfl (lv_at hl 1 rfl) ?_
        refine va_get (D := D) (ci := 8) (v := .ref rd0) (C := RX8) (T := TX8) (N := 16) hx hb hts (fun w h => (List.mem_cons_of_mem _ (List.mem_append_right _ h))) hown hK hP 0 rfl rfl 6 (by decide) (hts _ qX8_readText_4) (fun _ h9 => h9) rfl dX8_readText_25 ?_
        refine lv_iload_n hx hb dX8_readText_28 rfl (lv_at hl 0 rfl) ?_
        refine lv_iconst (v := 0) hx hb dX8_readText_29 (by decide) ?_
        refine va_iast (i := (nI k)) (x := 0) hx hb hK hP hD hS 2 0 rfl rfl (vp_in_nI (n := k) (by omega) (by omega)) dX8_readText_30 (fun H locs hP hD hS => ?_)
        rw [nI_clamp (n := k) (by omega)] at hP hD
        have hP : va_P D vwCl [(m0, .inr (8, [.int rf, .ref sc0, .int (nI ss), .int 0, .int 1, .int 0, .ref rd0, .ref nw0, .ref tr0, .ref di0, .int (nI ac), .ref ke0, .ref ik0, .ref cp0, .ref cn0, .ref be0])), (sc0, .inl (g 0, 120, .inl sc)), (rd0, .inl (g 0, 748, .inl (upd cf k 0))), (cp0, .inl (g 0, 10, .inl cp)), (cn0, .inl (g 0, 10, .inl cn))] H := hP
        have hD : va_D A [(m0, .inr (8, [.int rf, .ref sc0, .int (nI ss), .int 0, .int 1, .int 0, .ref rd0, .ref nw0, .ref tr0, .ref di0, .int (nI ac), .ref ke0, .ref ik0, .ref cp0, .ref cn0, .ref be0])), (sc0, .inl (g 0, 120, .inl sc)), (rd0, .inl (g 0, 748, .inl (upd cf k 0))), (cp0, .inl (g 0, 10, .inl cp)), (cn0, .inl (g 0, 10, .inl cn))] := hD
        refine lv_iinc (v := (nI (k + 1))) (lv' := [(1, .int (nI (k + 1))), (0, .ref m0)]) hx hb dX8_readText_31 hl (k := 0) rfl (nI_1 _) (by decide) rfl (fun ls hl => ?_)
        refine lv_goto (tgt := 17) hx hb dX8_readText_34 (by decide) ?_
        exact ih_17 (k + 1) (upd cf k 0) (by omega) (by omega) (by rw [hc]; exact zf_s) H locs ls hP hD hS (lv_sub hl [0, 1] rfl)
  exact hloop_17 ((748 - 0) + 1) 0 rw (Nat.lt_succ_self _) (by omega) zf_0.symm H locs ls hP hD hS (lv_sub hl [0, 1] rfl)
end
