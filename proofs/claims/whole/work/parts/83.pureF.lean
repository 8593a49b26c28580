-- THE PURE PART, 15: texts, of both: single chars
noncomputable section
theorem nxt_eq {ss sp : Nat} {sc : Nat → Int32} {c : Int32} (hc : ¬ c = -1) : f_X8_isNext ss sp sc c = if f_X6_codeAt ss sc sp = c then 1 else 0 := by
  unfold f_X8_isNext f_X6_codeAt
  by_cases h : ss ≤ sp
  · rw [if_pos h, if_pos h, if_neg (fun q => hc q.symm)]
  · rw [if_neg h, if_neg h]
theorem sig_fit (ss sp : Nat) (sc : Nat → Int32) : kSb ss sp sc = f_X6_fits (f_X6_codeAt ss sc sp) 115 := by
  unfold kSb f_X6_fits
  rw [nxt_eq (by decide), nxt_eq (by decide), if_neg (show ¬ (115 : Int32) = 48 by decide), if_pos rfl]
  by_cases a : f_X6_codeAt ss sc sp = 45
  · rw [if_pos a, if_neg (show ¬ (1 : Int32) = 0 by decide), if_neg (show ¬ f_X6_codeAt ss sc sp = 43 by rw [a]; decide)]
  · rw [if_neg a, if_pos rfl]
    by_cases b : f_X6_codeAt ss sc sp = 43
    · rw [if_pos b, if_neg (show ¬ (1 : Int32) = 0 by decide)]
    · rw [if_neg b, if_pos rfl]
theorem sub48 (x : Int32) : (0 ≤ (x - 48).toInt ∧ (x - 48).toInt ≤ 9 ↔ 48 ≤ x.toInt ∧ x.toInt ≤ 57) ∧ ((x - 48).toInt = 0 ↔ x.toInt = 48) := by
  have h1 := Int32.toInt_lt x
  have h2 := Int32.le_toInt x
  have e : (x - 48).toInt = (x.toInt - 48).bmod (2 ^ 32) := by
    rw [Int32.toInt_sub, show (48 : Int32).toInt = 48 by decide]
  rw [e, Int.bmod_def]
  omega
theorem in_iff (x lo hi : Int32) : f_X8_in (Int32.toInt64 x) (Int32.toInt64 lo) (Int32.toInt64 hi) = if lo.toInt ≤ x.toInt ∧ x.toInt ≤ hi.toInt then 1 else 0 := by
  rw [in_32]
  by_cases a : x < lo
  · have := Int32.lt_iff_toInt_lt.mp a
    rw [if_pos a, if_neg (by omega)]
  · have ha : ¬ x.toInt < lo.toInt := fun q => a (Int32.lt_iff_toInt_lt.mpr q)
    rw [if_neg a]
    by_cases b : hi < x
    · have := Int32.lt_iff_toInt_lt.mp b
      rw [if_pos b, if_neg (by omega)]
    · have hb : ¬ hi.toInt < x.toInt := fun q => b (Int32.lt_iff_toInt_lt.mpr q)
      rw [if_neg b, if_pos (by omega)]
/-- the shape's char for a digit that is at most mt -/
def mtC (mt : Int32) : Int32 := if mt = 0 then 48 else 57
theorem dig_fit {ss sp : Nat} {sc : Nat → Int32} {mt : Int32} (hmt : mt = 0 ∨ mt = 9) : kDb ss sp sc 0 mt = f_X6_fits (f_X6_codeAt ss sc sp) (mtC mt) := by
  have e0 : (0 : Int32).toInt = 0 := by decide
  have e9 : (9 : Int32).toInt = 9 := by decide
  have i9 := in_iff (kDv ss sp sc) 0 9
  have im := in_iff (kDv ss sp sc) 0 mt
  rw [show Int32.toInt64 0 = (0 : Int64) from by decide, show Int32.toInt64 9 = (9 : Int64) from by decide, e0, e9] at i9
  rw [e0] at im
  unfold kDb
  rw [i9, im]
  unfold f_X6_fits mtC
  by_cases h : ss ≤ sp
  · have ev : kDv ss sp sc = -10000 := if_pos h
    have ec : f_X6_codeAt ss sc sp = -1 := if_pos h
    rw [ev, ec, show (-10000 : Int32).toInt = -10000 by decide, if_neg (show ¬ ((0 : Int) ≤ -10000 ∧ (-10000 : Int) ≤ 9) by omega), if_pos rfl]
    rcases hmt with rfl | rfl <;> decide
  · have ev : kDv ss sp sc = sc sp - 48 := if_neg h
    have ec : f_X6_codeAt ss sc sp = sc sp := if_neg h
    obtain ⟨s1, s2⟩ := sub48 (sc sp)
    have q48 : (48 : Int32).toInt = 48 := by decide
    have q57 : (57 : Int32).toInt = 57 := by decide
    rw [ev, ec]
    rcases hmt with rfl | rfl
    · rw [if_pos (show (0 : Int32) = 0 from rfl), if_pos rfl, e0]
      by_cases c : sc sp = 48
      · have : (sc sp).toInt = 48 := by rw [c]; decide
        have z := s2.mpr this
        rw [if_pos c, if_pos (show (0 : Int) ≤ (sc sp - 48).toInt ∧ (sc sp - 48).toInt ≤ 9 by omega), if_pos (show (0 : Int) ≤ (sc sp - 48).toInt ∧ (sc sp - 48).toInt ≤ 0 by omega), if_neg (show ¬ (1 : Int32) = 0 by decide), if_neg (show ¬ (1 : Int32) = 0 by decide)]
      · have : ¬ (sc sp).toInt = 48 := fun q => c (Int32.toInt_inj.mp (q.trans q48.symm))
        have z : ¬ (sc sp - 48).toInt = 0 := fun q => this (s2.mp q)
        rw [if_neg c, if_neg (show ¬ (0 ≤ (sc sp - 48).toInt ∧ (sc sp - 48).toInt ≤ 0) by omega)]
        repeat' split
        all_goals first | rfl | (exfalso; rename_i z9; exact z9 rfl)
    · rw [if_neg (show ¬ (9 : Int32) = 0 by decide), if_neg (show ¬ (57 : Int32) = 48 by decide), if_neg (show ¬ (57 : Int32) = 115 by decide), e9]
      by_cases a : sc sp < 48
      · have := Int32.lt_iff_toInt_lt.mp a
        rw [if_pos a, if_neg (show ¬ ((0 : Int) ≤ (sc sp - 48).toInt ∧ (sc sp - 48).toInt ≤ 9) by omega), if_pos rfl]
      · have ha : ¬ (sc sp).toInt < (48 : Int32).toInt := fun q => a (Int32.lt_iff_toInt_lt.mpr q)
        rw [if_neg a]
        by_cases b : 57 < sc sp
        · have := Int32.lt_iff_toInt_lt.mp b
          rw [if_pos b, if_neg (show ¬ ((0 : Int) ≤ (sc sp - 48).toInt ∧ (sc sp - 48).toInt ≤ 9) by omega), if_pos rfl]
        · have hb : ¬ (57 : Int32).toInt < (sc sp).toInt := fun q => b (Int32.lt_iff_toInt_lt.mpr q)
          have z := s1.mpr ⟨by omega, by omega⟩
          rw [if_neg b, if_pos z, if_neg (show ¬ (1 : Int32) = 0 by decide), if_neg (show ¬ (1 : Int32) = 0 by decide)]
theorem accG_1 (b : Int32) : kAccG 1 b = if b = 0 then 0 else 1 := by
  unfold kAccG
  rw [if_neg (by decide)]
theorem accS_1 (sp : Nat) (b : Int32) : kAccS sp 1 b = if b = 0 then sp else sp + 1 := by
  unfold kAccS
  rw [if_neg (by decide)]
theorem acc_0 (sp : Nat) (b : Int32) : kAccG 0 b = 0 ∧ kAccS sp 0 b = sp := ⟨if_pos rfl, if_pos rfl⟩
/-- a number of two digits with its sign, when all goes -/
theorem tS_ok {ss sp : Nat} {sc : Nat → Int32} {mt : Int32} (hmt : mt = 0 ∨ mt = 9) (h0 : ¬ f_X6_fits (f_X6_codeAt ss sc sp) 115 = 0) (h1 : ¬ f_X6_fits (f_X6_codeAt ss sc (sp + 1)) (mtC mt) = 0) (h2 : ¬ f_X6_fits (f_X6_codeAt ss sc (sp + 2)) 57 = 0) : tS ss sp sc 1 mt = (kSgn ss sc sp, 1, sp + 3) := by
  have a0 : kSi ss sp sc 1 = 1 := by unfold kSi; rw [accG_1, sig_fit, if_neg h0]
  have a1 : kSs ss sp sc 1 = sp + 1 := by unfold kSs; rw [accS_1, sig_fit, if_neg h0]
  have b0 : kTi ss sp sc 1 mt = 1 := by unfold kTi; rw [a0, a1, accG_1, dig_fit hmt, if_neg h1]
  have b1 : kTs ss sp sc 1 mt = sp + 2 := by unfold kTs; rw [a0, a1, accS_1, dig_fit hmt, if_neg h1]
  have m9 : mtC 9 = 57 := by decide
  have c0 : kUi ss sp sc 1 mt = 1 := by unfold kUi; rw [b0, b1, accG_1, dig_fit (Or.inr rfl), m9, if_neg h2]
  have c1 : kUs ss sp sc 1 mt = sp + 3 := by unfold kUs; rw [b0, b1, accS_1, dig_fit (Or.inr rfl), m9, if_neg h2]
  have l1 : ¬ ss ≤ sp + 1 := fun q => h1 (by
    rw [show f_X6_codeAt ss sc (sp + 1) = -1 from if_pos q]
    rcases hmt with rfl | rfl <;> decide)
  have l2 : ¬ ss ≤ sp + 2 := fun q => h2 (by
    rw [show f_X6_codeAt ss sc (sp + 2) = -1 from if_pos q]
    decide)
  have d1 : kDr ss (sp + 1) sc 1 0 mt = f_X6_codeAt ss sc (sp + 1) - 48 := by
    unfold kDr
    rw [accG_1, dig_fit hmt, if_neg h1, if_neg (by decide)]
    unfold kDv f_X6_codeAt
    rw [if_neg l1, if_neg l1]
  have d2 : kDr ss (sp + 2) sc 1 0 9 = f_X6_codeAt ss sc (sp + 2) - 48 := by
    unfold kDr
    rw [accG_1, dig_fit (Or.inr rfl), m9, if_neg h2, if_neg (by decide)]
    unfold kDv f_X6_codeAt
    rw [if_neg l2, if_neg l2]
  rw [tS_eq]
  show (kSv ss sp sc 1 mt, kUi ss sp sc 1 mt, kUs ss sp sc 1 mt) = _
  rw [c0, c1]
  have ev : kSv ss sp sc 1 mt = kSgn ss sc sp := by
    unfold kSv kSgn
    rw [a0, a1, b0, b1, d1, d2, nxt_eq (by decide)]
    by_cases m : f_X6_codeAt ss sc sp = 45
    · rw [if_pos m, if_neg (show ¬ (1 : Int32) = 0 by decide), if_pos m]
    · rw [if_neg m, if_pos rfl, if_neg m]
  rw [ev]
/-- where it stops -/
theorem tS_stop {ss sp : Nat} {sc : Nat → Int32} {mt : Int32} (hmt : mt = 0 ∨ mt = 9) (e : Nat) (h : (e = sp ∧ f_X6_fits (f_X6_codeAt ss sc sp) 115 = 0) ∨ (e = sp + 1 ∧ ¬ f_X6_fits (f_X6_codeAt ss sc sp) 115 = 0 ∧ f_X6_fits (f_X6_codeAt ss sc (sp + 1)) (mtC mt) = 0) ∨ (e = sp + 2 ∧ ¬ f_X6_fits (f_X6_codeAt ss sc sp) 115 = 0 ∧ ¬ f_X6_fits (f_X6_codeAt ss sc (sp + 1)) (mtC mt) = 0 ∧ f_X6_fits (f_X6_codeAt ss sc (sp + 2)) 57 = 0)) : (tS ss sp sc 1 mt).2 = (0, e) := by
  have m9 : mtC 9 = 57 := by decide
  rw [tS_eq]
  show (kUi ss sp sc 1 mt, kUs ss sp sc 1 mt) = _
  rcases h with ⟨rfl, h0⟩ | ⟨rfl, h0, h1⟩ | ⟨rfl, h0, h1, h2⟩
  · have a0 : kSi ss e sc 1 = 0 := by unfold kSi; rw [accG_1, sig_fit, if_pos h0]
    have a1 : kSs ss e sc 1 = e := by unfold kSs; rw [accS_1, sig_fit, if_pos h0]
    have b0 : kTi ss e sc 1 mt = 0 := by unfold kTi; rw [a0, (acc_0 0 _).1]
    have b1 : kTs ss e sc 1 mt = e := by unfold kTs; rw [a0, a1, (acc_0 _ _).2]
    have c0 : kUi ss e sc 1 mt = 0 := by unfold kUi; rw [b0, (acc_0 0 _).1]
    have c1 : kUs ss e sc 1 mt = e := by unfold kUs; rw [b0, b1, (acc_0 _ _).2]
    rw [c0, c1]
  · have a0 : kSi ss sp sc 1 = 1 := by unfold kSi; rw [accG_1, sig_fit, if_neg h0]
    have a1 : kSs ss sp sc 1 = sp + 1 := by unfold kSs; rw [accS_1, sig_fit, if_neg h0]
    have b0 : kTi ss sp sc 1 mt = 0 := by unfold kTi; rw [a0, a1, accG_1, dig_fit hmt, if_pos h1]
    have b1 : kTs ss sp sc 1 mt = sp + 1 := by unfold kTs; rw [a0, a1, accS_1, dig_fit hmt, if_pos h1]
    have c0 : kUi ss sp sc 1 mt = 0 := by unfold kUi; rw [b0, (acc_0 0 _).1]
    have c1 : kUs ss sp sc 1 mt = sp + 1 := by unfold kUs; rw [b0, b1, (acc_0 _ _).2]
    rw [c0, c1]
  · have a0 : kSi ss sp sc 1 = 1 := by unfold kSi; rw [accG_1, sig_fit, if_neg h0]
    have a1 : kSs ss sp sc 1 = sp + 1 := by unfold kSs; rw [accS_1, sig_fit, if_neg h0]
    have b0 : kTi ss sp sc 1 mt = 1 := by unfold kTi; rw [a0, a1, accG_1, dig_fit hmt, if_neg h1]
    have b1 : kTs ss sp sc 1 mt = sp + 2 := by unfold kTs; rw [a0, a1, accS_1, dig_fit hmt, if_neg h1]
    have c0 : kUi ss sp sc 1 mt = 0 := by unfold kUi; rw [b0, b1, accG_1, dig_fit (Or.inr rfl), m9, if_pos h2]
    have c1 : kUs ss sp sc 1 mt = sp + 2 := by unfold kUs; rw [b0, b1, accS_1, dig_fit (Or.inr rfl), m9, if_pos h2]
    rw [c0, c1]
theorem tS_0 {ss sp : Nat} {sc : Nat → Int32} {mt : Int32} : (tS ss sp sc 0 mt).2 = (0, sp) := by
  rw [tS_eq]
  show (kUi ss sp sc 0 mt, kUs ss sp sc 0 mt) = _
  have a0 : kSi ss sp sc 0 = 0 := by unfold kSi; rw [(acc_0 0 _).1]
  have a1 : kSs ss sp sc 0 = sp := by unfold kSs; rw [(acc_0 _ _).2]
  have b0 : kTi ss sp sc 0 mt = 0 := by unfold kTi; rw [a0, (acc_0 0 _).1]
  have b1 : kTs ss sp sc 0 mt = sp := by unfold kTs; rw [a0, a1, (acc_0 _ _).2]
  have c0 : kUi ss sp sc 0 mt = 0 := by unfold kUi; rw [b0, (acc_0 0 _).1]
  have c1 : kUs ss sp sc 0 mt = sp := by unfold kUs; rw [b0, b1, (acc_0 _ _).2]
  rw [c0, c1]
theorem tD_ok {ss sp : Nat} {sc : Nat → Int32} (h : ¬ f_X6_fits (f_X6_codeAt ss sc sp) 57 = 0) : tD ss sp sc 1 = ((f_X6_codeAt ss sc sp - 48).toNatClampNeg, 1, sp + 1) := by
  have m9 : mtC 9 = 57 := by decide
  have l1 : ¬ ss ≤ sp := fun q => h (by
    rw [show f_X6_codeAt ss sc sp = -1 from if_pos q]
    decide)
  rw [tD_eq]
  show ((kDr ss sp sc 1 0 9).toNatClampNeg, kAccG 1 (kDb ss sp sc 0 9), kAccS sp 1 (kDb ss sp sc 0 9)) = _
  have d : kDr ss sp sc 1 0 9 = f_X6_codeAt ss sc sp - 48 := by
    unfold kDr
    rw [accG_1, dig_fit (Or.inr rfl), m9, if_neg h, if_neg (by decide)]
    unfold kDv f_X6_codeAt
    rw [if_neg l1, if_neg l1]
  rw [d, accG_1, accS_1, dig_fit (Or.inr rfl), m9, if_neg h, if_neg h]
theorem tD_stop {ss sp : Nat} {sc : Nat → Int32} (h : f_X6_fits (f_X6_codeAt ss sc sp) 57 = 0) : (tD ss sp sc 1).2 = (0, sp) := by
  have m9 : mtC 9 = 57 := by decide
  rw [tD_eq]
  show (kAccG 1 (kDb ss sp sc 0 9), kAccS sp 1 (kDb ss sp sc 0 9)) = _
  rw [accG_1, accS_1, dig_fit (Or.inr rfl), m9, if_pos h, if_pos h]
theorem tD_0 {ss sp : Nat} {sc : Nat → Int32} : (tD ss sp sc 0).2 = (0, sp) := by
  rw [tD_eq]
  show (kAccG 0 (kDb ss sp sc 0 9), kAccS sp 0 (kDb ss sp sc 0 9)) = _
  rw [(acc_0 0 _).1, (acc_0 _ _).2]
end
