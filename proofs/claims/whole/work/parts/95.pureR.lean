-- THE PURE PART, 27: texts, of both: from a place on; how often a part was blamed at most behind a text
noncomputable section
section TX
variable {ss : Nat} {sc : Nat → Int32} {v : KPV} {rw : Nat → Int32}
theorem feOut_step {f a : Nat} (h : a < ss) : feOut ss sc (f + 1) a = (match feN ss sc a with
      | some e => nI e
      | none => feOut ss sc f (a + 1 + kLen.getD (fShape (f_X6_codeAt ss sc a)) 0)) := by
  rw [feOut, if_pos h]
  unfold feN
  by_cases c : f_J0_isEmpty_aae02 (fShape (f_X6_codeAt ss sc a)) = 0
  · rw [if_pos c, if_pos c]
    cases feIn ss sc (fShape (f_X6_codeAt ss sc a)) (kLen.getD (fShape (f_X6_codeAt ss sc a)) 0) 0 (a + 1) <;> rfl
  · rw [if_neg c, if_neg c]
theorem step_len {a : Nat} (h : feN ss sc a = none) : (kStep ss sc a v).2.1 = a + 1 + kLen.getD (fShape (f_X6_codeAt ss sc a)) 0 := by
  unfold feN at h
  unfold kStep
  generalize f_X6_codeAt ss sc a = x at *
  by_cases c1 : x = 107
  · rw [if_pos c1, c1, show kLen.getD (fShape 107) 0 = 3 by decide]
  · rw [if_neg c1]
    by_cases c2 : x = 110
    · rw [if_pos c2, c2, show kLen.getD (fShape 110) 0 = 6 by decide]
    · rw [if_neg c2]
      by_cases c3 : x = 111
      · rw [if_pos c3, c3, show kLen.getD (fShape 111) 0 = 13 by decide]
      · rw [if_neg c3]
        by_cases c4 : x = 115
        · rw [if_pos c4, c4, show kLen.getD (fShape 115) 0 = 5 by decide]
        · rw [if_neg c4]
          by_cases c5 : x = 120
          · rw [c5, show kLen.getD (fShape 120) 0 = 1 by decide]
          · have hs : fShape x = 10 := by
              unfold fShape
              rw [if_neg c1, if_neg c2, if_neg c3, if_neg c4, if_neg c5]
            rw [hs, if_neg (show ¬ f_J0_isEmpty_aae02 10 = 0 by decide)] at h
            exact absurd h (fun q => by cases q)
theorem upd_bd {N i : Nat} {y : Int32} (h : pBd N rw) (hi : ∀ p : Nat, p < 10 → ¬ 1 + 8 * p + 6 = i) : pBd N (upd rw i y) := fun p hp => by
  rw [pk_un (hi p hp)]
  exact h p hp
theorem addIn_bd {N : Nat} {x y : Int32} {mn : Nat} (h : pBd N rw) : pBd N (f_X8_addIn rw x y mn) := fun p hp => by
  unfold f_X8_addIn
  rw [pk_un (by omega), pk_un (by omega), pk_un (by omega), pk_un (by omega)]
  unfold clr
  by_cases c : 1 + 8 * mn ≤ 1 + 8 * p + 6 ∧ 1 + 8 * p + 6 < 1 + 8 * mn + 8
  · rw [if_pos c]; exact ⟨0, Nat.zero_le _, rfl⟩
  · rw [if_neg c]; exact h p hp
theorem chainIn_bd {N pa : Nat} {q st : Int32} (h : pBd N rw) : pBd N (f_X8_chainIn rw pa q st) := fun p hp => by
  unfold f_X8_chainIn
  split
  · rw [pk_un (by omega), pk_un (by omega)]; exact h p hp
  · rw [pk_un (by omega), pk_un (by omega)]; exact h p hp
theorem promise_bd {N sd pa : Nat} {al ah gl gh : Int32} (h : pBd N rw) : pBd N (f_X8_promise rw sd pa al ah gl gh) := fun p hp => by
  unfold f_X8_promise
  rw [pk_un (by omega), pk_un (by omega), pk_un (by omega), pk_un (by omega), pk_un (by omega)]
  exact h p hp
theorem readPart_bd {N sp mn : Nat} {ig lo : Int32} (h : pBd N rw) : pBd (N + 22) (h_X8_readPart ss sp ig lo sc rw mn).2.2.2 := by
  have h := h.le (Nat.le_add_right N 22)
  rw [h_X8_readPart_eq]
  unfold f_X8_readPart
  dsimp only
  repeat' split
  all_goals first | exact h | exact addIn_bd h
theorem readChain_bd {N sp : Nat} {ig lo : Int32} (h : pBd N rw) : pBd (N + 22) (h_X8_readChain ss sp ig lo sc rw).2.2.2 := by
  have h := h.le (Nat.le_add_right N 22)
  rw [h_X8_readChain_eq]
  unfold f_X8_readChain
  dsimp only
  repeat' split
  all_goals first | exact h | exact chainIn_bd h
theorem readOwn_bd {N sp : Nat} {ig lo : Int32} (h : pBd N rw) : pBd (N + 22) (h_X8_readOwn ss sp ig lo sc rw).2.2.2 := by
  have h := h.le (Nat.le_add_right N 22)
  rw [h_X8_readOwn_eq]
  unfold f_X8_readOwn
  dsimp only
  repeat' split
  all_goals first | exact h | exact promise_bd h
theorem readDrop_bd {N sp : Nat} {ig lo : Int32} (h : pBd N rw) : pBd (N + 22) (h_X8_readDrop ss sp ig lo sc rw).2.2.2 := by
  have h := h.le (Nat.le_add_right N 22)
  rw [h_X8_readDrop_eq]
  unfold f_X8_readDrop
  dsimp only
  repeat' split
  all_goals first | exact h | exact upd_bd h (fun p hp => by omega)
theorem readCall_bd {N sp mn : Nat} {ig lo : Int32} {cp cn : Nat → Int32} (hm : mn ≤ 10) (h : pBd N rw) : pBd (N + 22) (h_X8_readCall ss sp ig lo sc rw cp cn mn).2.2.2.1 := by
  have h2 := h.le (Nat.le_add_right N 22)
  rw [h_X8_readCall_eq]
  unfold f_X8_readCall
  dsimp only
  split
  · exact h2
  · split
    · exact h2
    · exact h.grow (callIn_grow cp cn rw _ (by omega))
theorem readCmd_bd {N sp mn : Nat} {ig lo : Int32} {cp cn : Nat → Int32} (hm : mn ≤ 10) (h : pBd N rw) : pBd (N + 22) (h_X8_readCommand ss sp ig lo sc rw cp cn mn).2.2.2.1 := by
  have h2 := h.le (Nat.le_add_right N 22)
  rw [h_X8_readCommand_eq]
  unfold f_X8_readCommand
  dsimp only
  repeat' split
  all_goals first | exact h2 | exact readPart_bd h | exact readChain_bd h | exact readOwn_bd h | exact readCall_bd hm h | exact readDrop_bd h
theorem rdOut_bd : ∀ (f N : Nat) (r : KRd), rdOk r.2.2.2.1 → pBd N r.2.2.2.1 → pBd (N + 22 * f) (rdOut ss sc f r).2.2.2.1 := by
  intro f
  induction f with
  | zero => intro N r _ h; exact h
  | succ f ih =>
    intro N r ho h
    have h2 := h.le (Nat.le_add_right N (22 * (f + 1)))
    rw [rdOut]
    by_cases c1 : r.1 = 0
    · rw [if_pos c1]; exact h2
    · rw [if_neg c1]
      by_cases c2 : ss ≤ r.2.1
      · rw [if_pos c2]; exact h2
      · rw [if_neg c2]
        have h3 := ih (N + 22) (rdStep ss sc r) (rdStep_ok ho) (readCmd_bd (rdOk_mn ho).2 h)
        rw [show N + 22 * (f + 1) = N + 22 + 22 * f by omega]
        exact h3
theorem pBd_0 : pBd 0 (fun _ => 0) := fun _ _ => ⟨0, Nat.zero_le _, rfl⟩
theorem tR_bd (cp cn : Nat → Int32) (hs : ss ≤ 120) : pBd 3000 (tR ss sc cp cn).2.2.2.1 := by
  rw [tR_eq]
  exact (rdOut_bd (ss + 1) 0 _ rdOk_0 pBd_0).le (by omega)
/-- from a place on: where the text goes wrong, or what comes of it, of both -/
theorem txt_rel : ∀ (f g a : Nat) (v : KPV) (lo : Int32) (rw cp cn : Nat → Int32), pPlan v rw → ss < a + f → ss < a + g →
    (feOut ss sc f a = -10000 ∧ (rdOut ss sc g (1, a, lo, rw, cp, cn)).1 = 1 ∧ (rdOut ss sc g (1, a, lo, rw, cp, cn)).2.2.1 = (ldOut ss sc f a v lo).1 ∧ pPlan (ldOut ss sc f a v lo).2.2 (rdOut ss sc g (1, a, lo, rw, cp, cn)).2.2.2.1) ∨
    ((rdOut ss sc g (1, a, lo, rw, cp, cn)).1 = 0 ∧ feOut ss sc f a = nI (rdOut ss sc g (1, a, lo, rw, cp, cn)).2.1) := by
  intro f
  induction f with
  | zero =>
    intro g a v lo rw cp cn hv hf hg
    left
    rw [feOut_out (by omega), rdOut_end (Or.inr (show ss ≤ a by omega)), ldOut_out (by omega)]
    exact ⟨rfl, rfl, rfl, hv⟩
  | succ f ih =>
    intro g a v lo rw cp cn hv hf hg
    by_cases ha : a < ss
    · obtain ⟨g, rfl⟩ : ∃ g2, g = g2 + 1 := ⟨g - 1, by omega⟩
      have hR : rdOut ss sc (g + 1) (1, a, lo, rw, cp, cn) = rdOut ss sc g (rdStep ss sc (1, a, lo, rw, cp, cn)) := by
        rw [rdOut, if_neg (show ¬ (1 : Int32) = 0 by decide), if_neg (show ¬ ss ≤ a by omega)]
      have hL : ldOut ss sc (f + 1) a v lo = ldOut ss sc f (kStep ss sc a v).2.1 (kStep ss sc a v).2.2 (if (kStep ss sc a v).1 = 0 then lo + 1 else lo) := by
        rw [ldOut, if_pos ha]
      rw [hR, hL, feOut_step ha]
      rcases cmd_rel (sc := sc) hv ha lo cp cn with ⟨e, q, r1, r2⟩ | ⟨q, r1, r2, r3, r4⟩
      · right
        rw [q, rdOut_end (Or.inl r1)]
        exact ⟨r1, by rw [r2]⟩
      · rw [q]
        have hb := step_len (v := v) q
        generalize hz : rdStep ss sc (1, a, lo, rw, cp, cn) = z at *
        obtain ⟨z1, z2, z3, z4, z5, z6⟩ := z
        have e1 : z1 = 1 := r1
        have e2 : z2 = (kStep ss sc a v).2.1 := r2
        have e3 : z3 = (if (kStep ss sc a v).1 = 0 then lo + 1 else lo) := r3
        have e4 : pPlan (kStep ss sc a v).2.2 z4 := r4
        rw [e1, e2, e3, ← hb]
        exact ih g _ _ _ _ z5 z6 e4 (by omega) (by omega)
    · left
      rw [feOut_out ha, rdOut_end (Or.inr (show ss ≤ a by omega)), ldOut_out ha]
      exact ⟨rfl, rfl, rfl, hv⟩
end TX
end
