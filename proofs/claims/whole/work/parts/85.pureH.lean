-- THE PURE PART, 17: texts, of both: chains and own contracts that are read
noncomputable section
section TX
variable {ss : Nat} {sc : Nat → Int32}
theorem tD_sticky {sp e : Nat} {v : Nat × Int32 × Nat} (h : v.2 = (0, e)) : (tD ss v.2.2 sc v.2.1).2 = (0, e) := by
  have z1 : v.2.1 = 0 := congrArg Prod.fst h
  have z2 : v.2.2 = e := congrArg Prod.snd h
  rw [z1, z2]
  exact tD_0
theorem tS_stickyD {e : Nat} {mt : Int32} {v : Nat × Int32 × Nat} (h : v.2 = (0, e)) : (tS ss v.2.2 sc v.2.1 mt).2 = (0, e) := by
  have z1 : v.2.1 = 0 := congrArg Prod.fst h
  have z2 : v.2.2 = e := congrArg Prod.snd h
  rw [z1, z2]
  exact tS_0
theorem tS_sticky {e : Nat} {mt : Int32} {v : Int32 × Int32 × Nat} (h : v.2 = (0, e)) : (tS ss v.2.2 sc v.2.1 mt).2 = (0, e) := by
  have z1 : v.2.1 = 0 := congrArg Prod.fst h
  have z2 : v.2.2 = e := congrArg Prod.snd h
  rw [z1, z2]
  exact tS_0
theorem readChain_rel (sp : Nat) (lo : Int32) (rw : Nat → Int32) : (∃ e, fIn ss sc [57, 57, 115, 57, 57] sp = some e ∧ (f_X8_readChain ss sp 1 lo sc rw).1 = 0 ∧ (f_X8_readChain ss sp 1 lo sc rw).2.1 = e) ∨ (fIn ss sc [57, 57, 115, 57, 57] sp = none ∧ ¬ f_X6_fits (f_X6_codeAt ss sc sp) 57 = 0 ∧ ¬ f_X6_fits (f_X6_codeAt ss sc (sp + 1)) 57 = 0 ∧ f_X8_readChain ss sp 1 lo sc rw = (1, sp + 5, if f_X8_isRead rw (nI (f_X6_codeAt ss sc sp - 48).toNatClampNeg) = 0 then (lo + 1, rw) else if (f_X6_codeAt ss sc sp - 48).toNatClampNeg ≤ (f_X6_codeAt ss sc (sp + 1) - 48).toNatClampNeg then (lo + 1, rw) else (lo + 0, f_X8_chainIn rw (f_X6_codeAt ss sc sp - 48).toNatClampNeg (nI (f_X6_codeAt ss sc (sp + 1) - 48).toNatClampNeg) (kSgn ss sc (sp + 2))))) := by
  have m9 : mtC 9 = 57 := by decide
  have lf : ∀ (v1 v2 : Nat × Int32 × Nat) (v3 : Int32 × Int32 × Nat), tD ss sp sc 1 = v1 → tD ss v1.2.2 sc v1.2.1 = v2 → tS ss v2.2.2 sc v2.2.1 9 = v3 → f_X8_readChain ss sp 1 lo sc rw = (if f_X8_isRead rw (nI v1.1) = 0 then (v3.2.1, v3.2.2, (f_X8_goes v3.2.1 lo 0).2, rw) else if v1.1 ≤ v2.1 then (v3.2.1, v3.2.2, (f_X8_goes v3.2.1 lo 0).2, rw) else if (f_X8_goes v3.2.1 lo 1).1 = 0 then (v3.2.1, v3.2.2, (f_X8_goes v3.2.1 lo 1).2, rw) else (v3.2.1, v3.2.2, (f_X8_goes v3.2.1 lo 1).2, f_X8_chainIn rw v1.1 (nI v2.1) v3.1)) := by
    intro v1 v2 v3 e1 e2 e3
    subst e1
    subst e2
    subst e3
    rfl
  have bad : ∀ (v1 v2 : Nat × Int32 × Nat) (v3 : Int32 × Int32 × Nat) (e : Nat), tD ss sp sc 1 = v1 → tD ss v1.2.2 sc v1.2.1 = v2 → tS ss v2.2.2 sc v2.2.1 9 = v3 → v3.2 = (0, e) → (f_X8_readChain ss sp 1 lo sc rw).1 = 0 ∧ (f_X8_readChain ss sp 1 lo sc rw).2.1 = e := by
    intro v1 v2 v3 e e1 e2 e3 e4
    rw [lf v1 v2 v3 e1 e2 e3]
    have z1 : v3.2.1 = 0 := congrArg Prod.fst e4
    have z2 : v3.2.2 = e := congrArg Prod.snd e4
    repeat' split
    all_goals exact ⟨z1, z2⟩
  rcases tokD (ss := ss) (sc := sc) [57, 115, 57, 57] sp with ⟨t1, h1, f1⟩ | ⟨e, f1, t1⟩
  · rcases tokD (ss := ss) (sc := sc) [115, 57, 57] (sp + 1) with ⟨t2, h2, f2⟩ | ⟨e, f2, t2⟩
    · rcases tokS (ss := ss) (sc := sc) (mt := 9) (Or.inr rfl) [] (sp + 2) with ⟨t3, f3⟩ | ⟨e, f3, t3⟩
      · rw [m9] at f3
        refine Or.inr ⟨by rw [f1, f2]; exact f3, h1, h2, ?_⟩
        rw [lf _ _ _ t1 t2 t3]
        dsimp only
        rw [(goes_1 lo).1, (goes_1 lo).2]
        by_cases c : f_X8_isRead rw (nI (f_X6_codeAt ss sc sp - 48).toNatClampNeg) = 0
        · rw [if_pos c, if_pos c]
        · rw [if_neg c, if_neg c]
          by_cases d : (f_X6_codeAt ss sc sp - 48).toNatClampNeg ≤ (f_X6_codeAt ss sc (sp + 1) - 48).toNatClampNeg
          · rw [if_pos d, if_pos d]
          · rw [if_neg d, if_neg d, if_neg (show ¬ ((1 : Int32), lo + 0).1 = 0 by show ¬ (1 : Int32) = 0; decide)]
      · rw [m9] at f3
        exact Or.inl ⟨e, by rw [f1, f2]; exact f3, bad _ _ _ e t1 t2 rfl t3⟩
    · exact Or.inl ⟨e, by rw [f1]; exact f2, bad _ _ _ e t1 rfl rfl (tS_stickyD t2)⟩
  · exact Or.inl ⟨e, f1, bad _ _ _ e rfl rfl rfl (tS_stickyD (tD_sticky (sp := sp) t1))⟩
theorem readOwn_rel (sp : Nat) (lo : Int32) (rw : Nat → Int32) : (∃ e, fIn ss sc [57, 115, 57, 57, 115, 57, 57, 115, 57, 57, 115, 57, 57] sp = some e ∧ (f_X8_readOwn ss sp 1 lo sc rw).1 = 0 ∧ (f_X8_readOwn ss sp 1 lo sc rw).2.1 = e) ∨ (fIn ss sc [57, 115, 57, 57, 115, 57, 57, 115, 57, 57, 115, 57, 57] sp = none ∧ ¬ f_X6_fits (f_X6_codeAt ss sc sp) 57 = 0 ∧ f_X8_readOwn ss sp 1 lo sc rw = (1, sp + 13, if f_X8_isRead rw (nI (f_X6_codeAt ss sc sp - 48).toNatClampNeg) = 0 then (lo + 1, rw) else if kSgn ss sc (sp + 4) < kSgn ss sc (sp + 1) then (lo + 1, rw) else if kSgn ss sc (sp + 10) < kSgn ss sc (sp + 7) then (lo + 1, rw) else (lo + 0, f_X8_promise rw 0 (f_X6_codeAt ss sc sp - 48).toNatClampNeg (kSgn ss sc (sp + 1)) (kSgn ss sc (sp + 4)) (kSgn ss sc (sp + 7)) (kSgn ss sc (sp + 10))))) := by
  have m9 : mtC 9 = 57 := by decide
  have lf : ∀ (v1 : Nat × Int32 × Nat) (v2 v3 v4 v5 : Int32 × Int32 × Nat), tD ss sp sc 1 = v1 → tS ss v1.2.2 sc v1.2.1 9 = v2 → tS ss v2.2.2 sc v2.2.1 9 = v3 → tS ss v3.2.2 sc v3.2.1 9 = v4 → tS ss v4.2.2 sc v4.2.1 9 = v5 → f_X8_readOwn ss sp 1 lo sc rw = (if f_X8_isRead rw (nI v1.1) = 0 then (v5.2.1, v5.2.2, (f_X8_goes v5.2.1 lo 0).2, rw) else if v3.1 < v2.1 then (v5.2.1, v5.2.2, (f_X8_goes v5.2.1 lo 0).2, rw) else if v5.1 < v4.1 then (v5.2.1, v5.2.2, (f_X8_goes v5.2.1 lo 0).2, rw) else if (f_X8_goes v5.2.1 lo 1).1 = 0 then (v5.2.1, v5.2.2, (f_X8_goes v5.2.1 lo 1).2, rw) else (v5.2.1, v5.2.2, (f_X8_goes v5.2.1 lo 1).2, f_X8_promise rw 0 v1.1 v2.1 v3.1 v4.1 v5.1)) := by
    intro v1 v2 v3 v4 v5 e1 e2 e3 e4 e5
    subst e1
    subst e2
    subst e3
    subst e4
    subst e5
    rfl
  have bad : ∀ (v1 : Nat × Int32 × Nat) (v2 v3 v4 v5 : Int32 × Int32 × Nat) (e : Nat), tD ss sp sc 1 = v1 → tS ss v1.2.2 sc v1.2.1 9 = v2 → tS ss v2.2.2 sc v2.2.1 9 = v3 → tS ss v3.2.2 sc v3.2.1 9 = v4 → tS ss v4.2.2 sc v4.2.1 9 = v5 → v5.2 = (0, e) → (f_X8_readOwn ss sp 1 lo sc rw).1 = 0 ∧ (f_X8_readOwn ss sp 1 lo sc rw).2.1 = e := by
    intro v1 v2 v3 v4 v5 e e1 e2 e3 e4 e5 e6
    rw [lf v1 v2 v3 v4 v5 e1 e2 e3 e4 e5]
    have z1 : v5.2.1 = 0 := congrArg Prod.fst e6
    have z2 : v5.2.2 = e := congrArg Prod.snd e6
    repeat' split
    all_goals exact ⟨z1, z2⟩
  rcases tokD (ss := ss) (sc := sc) [115, 57, 57, 115, 57, 57, 115, 57, 57, 115, 57, 57] sp with ⟨t1, h1, f1⟩ | ⟨e, f1, t1⟩
  · rcases tokS (ss := ss) (sc := sc) (mt := 9) (Or.inr rfl) [115, 57, 57, 115, 57, 57, 115, 57, 57] (sp + 1) with ⟨t2, f2⟩ | ⟨e, f2, t2⟩
    · rw [m9] at f2
      rcases tokS (ss := ss) (sc := sc) (mt := 9) (Or.inr rfl) [115, 57, 57, 115, 57, 57] (sp + 4) with ⟨t3, f3⟩ | ⟨e, f3, t3⟩
      · rw [m9] at f3
        rcases tokS (ss := ss) (sc := sc) (mt := 9) (Or.inr rfl) [115, 57, 57] (sp + 7) with ⟨t4, f4⟩ | ⟨e, f4, t4⟩
        · rw [m9] at f4
          rcases tokS (ss := ss) (sc := sc) (mt := 9) (Or.inr rfl) [] (sp + 10) with ⟨t5, f5⟩ | ⟨e, f5, t5⟩
          · rw [m9] at f5
            refine Or.inr ⟨f1.trans (f2.trans (f3.trans (f4.trans f5))), h1, ?_⟩
            rw [lf _ _ _ _ _ t1 t2 t3 t4 t5]
            dsimp only
            rw [(goes_1 lo).1, (goes_1 lo).2]
            by_cases c : f_X8_isRead rw (nI (f_X6_codeAt ss sc sp - 48).toNatClampNeg) = 0
            · rw [if_pos c, if_pos c]
            · rw [if_neg c, if_neg c]
              by_cases d : kSgn ss sc (sp + 4) < kSgn ss sc (sp + 1)
              · rw [if_pos d, if_pos d]
              · rw [if_neg d, if_neg d]
                by_cases d2 : kSgn ss sc (sp + 10) < kSgn ss sc (sp + 7)
                · rw [if_pos d2, if_pos d2]
                · rw [if_neg d2, if_neg d2, if_neg (show ¬ ((1 : Int32), lo + 0).1 = 0 by show ¬ (1 : Int32) = 0; decide)]
          · rw [m9] at f5
            exact Or.inl ⟨e, f1.trans (f2.trans (f3.trans (f4.trans f5))), bad _ _ _ _ _ e t1 t2 t3 t4 rfl t5⟩
        · rw [m9] at f4
          exact Or.inl ⟨e, f1.trans (f2.trans (f3.trans f4)), bad _ _ _ _ _ e t1 t2 t3 rfl rfl (tS_sticky t4)⟩
      · rw [m9] at f3
        exact Or.inl ⟨e, f1.trans (f2.trans f3), bad _ _ _ _ _ e t1 t2 rfl rfl rfl (tS_sticky (tS_sticky t3))⟩
    · rw [m9] at f2
      exact Or.inl ⟨e, f1.trans f2, bad _ _ _ _ _ e t1 rfl rfl rfl rfl (tS_sticky (tS_sticky (tS_sticky t2)))⟩
  · exact Or.inl ⟨e, f1, bad _ _ _ _ _ e rfl rfl rfl rfl rfl (tS_sticky (tS_sticky (tS_sticky (tS_stickyD t1))))⟩
end TX
end
