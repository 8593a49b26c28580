-- THE PURE PART, 7: what is asked first, of both
noncomputable section
theorem in_c {x lo hi : Int32} {a b : Int64} (ha : Int32.toInt64 lo = a) (hb : Int32.toInt64 hi = b) : f_X8_in (Int32.toInt64 x) a b = f_X7_isWithin x lo hi := by
  rw [← ha, ← hb, in_32]
  rfl
theorem has_part {mn : Nat} {rw : Nat → Int32} {pa : Int32} (hm : mn ≤ 10) (h0 : rw 0 = nI mn) : f_X8_isPart rw pa = f_X4_hasPart (nI mn) pa := by
  unfold f_X8_isPart f_X4_hasPart
  have e := in_32 pa 0 (rw 0 - 1)
  rw [show Int32.toInt64 0 = (0 : Int64) from by decide] at e
  rw [e, h0]
  by_cases h1 : pa < 0
  · rw [if_pos h1, if_pos h1]
  · rw [if_neg h1, if_neg h1]
    have e1 : (nI mn - 1).toInt = (mn : Int) - 1 := pk_sub_toInt (a := mn) (b := 1) (by omega) (by decide)
    have e2 := nI_toInt (n := mn) (by omega)
    by_cases h2 : nI mn - 1 < pa
    · have q := Int32.lt_iff_toInt_lt.mp h2
      rw [if_pos h2, if_pos (Int32.le_iff_toInt_le.mpr (by omega))]
    · have q : ¬ (nI mn - 1).toInt < pa.toInt := fun z => h2 (Int32.lt_iff_toInt_lt.mpr z)
      rw [if_neg h2, if_neg (fun z => by have := Int32.le_iff_toInt_le.mp z; omega)]
theorem part_N {mn : Nat} {pa : Int32} (hm : mn ≤ 10) (h : ¬ f_X4_hasPart (nI mn) pa = 0) : ∃ p : Nat, p < mn ∧ pa = nI p := by
  obtain ⟨h0, h1⟩ := kHas h
  obtain ⟨j, hj, ej⟩ := nI_of h0
  refine ⟨j, ?_, ej⟩
  rw [ej] at h1
  have : ¬ mn ≤ j := fun q => h1 ((nI_leI (a := mn) (b := j) (by omega) hj).mpr q)
  omega
theorem part_of {mn p : Nat} (hm : mn ≤ 10) (h : p < mn) : f_X4_hasPart (nI mn) (nI p) = 1 := by
  unfold f_X4_hasPart
  rw [if_neg (nI_nn (by omega)), if_neg (fun q => by have := (nI_leI (a := mn) (b := p) (by omega) (by omega)).mp q; omega)]
/-- where no contract can be -/
theorem find_none {mn : Nat} {bnd rw : Nat → Int32} {caller pa : Int32} (hm : mn ≤ 10) (h : pBnd mn bnd rw) (hn : ∀ p row : Nat, p < mn → pa = nI p → kCal caller row p → (10 ≤ row ∨ row < mn) → False) : f_X1_find bnd caller pa = -10000 := by
  -- a place is found only for a caller's row and a part
  have key : f_X1_placeFor caller pa = -10000 ∨ ∃ row p : Nat, p < 10 ∧ pa = nI p ∧ kCal caller row p := by
    unfold f_X1_placeFor
    have pn : ¬ pa < 0 → ¬ 10 ≤ pa → ∃ p : Nat, p < 10 ∧ pa = nI p := fun a b => by
      obtain ⟨j, hj, ej⟩ := nI_of a
      refine ⟨j, ?_, ej⟩
      rw [ej] at b
      have : ¬ 10 ≤ j := fun q => b ((nI_leI (a := 10) (b := j) (by decide) hj).mpr q)
      omega
    by_cases c1 : caller = -10001
    · rw [if_pos c1]
      by_cases a : pa < 0
      · rw [if_pos a]; exact Or.inl rfl
      · by_cases b : 10 ≤ pa
        · rw [if_neg a, if_pos b]; exact Or.inl rfl
        · obtain ⟨p, hp, ep⟩ := pn a b
          exact Or.inr ⟨11, p, hp, ep, Or.inl ⟨c1, rfl⟩⟩
    · rw [if_neg c1]
      by_cases c2 : caller = -10000
      · rw [if_pos c2]
        by_cases a : pa < 0
        · rw [if_pos a]; exact Or.inl rfl
        · by_cases b : 10 ≤ pa
          · rw [if_neg a, if_pos b]; exact Or.inl rfl
          · obtain ⟨p, hp, ep⟩ := pn a b
            exact Or.inr ⟨10, p, hp, ep, Or.inr (Or.inl ⟨c2, rfl⟩)⟩
      · rw [if_neg c2]
        by_cases l : caller ≤ pa
        · rw [if_pos l]; exact Or.inl rfl
        · rw [if_neg l]
          by_cases t : caller < 10
          · rw [if_pos t]
            by_cases a : pa < 0
            · rw [if_pos a]; exact Or.inl rfl
            · by_cases b : 10 ≤ pa
              · rw [if_neg a, if_pos b]; exact Or.inl rfl
              · obtain ⟨p, hp, ep⟩ := pn a b
                have e0 : (0 : Int32).toInt = 0 := by decide
                have e10 : (10 : Int32).toInt = 10 := by decide
                have q1 : ¬ pa.toInt < (0 : Int32).toInt := fun z => a (Int32.lt_iff_toInt_lt.mpr z)
                have q2 : ¬ caller.toInt ≤ pa.toInt := fun z => l (Int32.le_iff_toInt_le.mpr z)
                have q3 := Int32.lt_iff_toInt_lt.mp t
                obtain ⟨c, hc, ec⟩ := nI_of (x := caller) (fun z => by have := Int32.lt_iff_toInt_lt.mp z; omega)
                have e1 := nI_toInt hc
                have e2 := nI_toInt (n := p) (by omega)
                rw [← ec] at e1
                rw [← ep] at e2
                exact Or.inr ⟨c, p, hp, ep, Or.inr (Or.inr ⟨ec, by omega, by omega⟩)⟩
          · rw [if_neg t]; exact Or.inl rfl
  rcases key with h1 | ⟨row, p, hp, ep, hc⟩
  · unfold f_X1_find
    rw [if_pos h1]
  · rw [ep, find_ne hc hp]
    rcases h row p (kCal_lt hc) hp with ⟨_, _, _, _, _, _, h7, h8⟩ | ⟨_, h2⟩
    · exact absurd (hn p row h7 ep hc (by omega)) id
    · exact h2
/-- a contract is there: of both -/
theorem there_eq {mn : Nat} {bnd rw : Nat → Int32} {caller pa : Int32} (hm : mn ≤ 10) (h0 : rw 0 = nI mn) (h : pBnd mn bnd rw) : f_X8_isContract rw caller pa = f_X1_isThere bnd caller pa := by
  unfold f_X8_isContract f_X1_isThere
  dsimp only
  rw [has_part hm h0, has_part hm h0]
  have e1 : (-10001 : Int32).toInt = -10001 := by decide
  have e2 : (-10000 : Int32).toInt = -10000 := by decide
  have ein : f_X8_in (Int32.toInt64 caller) (-10001) (-10000) = if caller < -10001 then 0 else if -10000 < caller then 0 else 1 := by
    rw [← in_32]
    rfl
  by_cases hp : f_X4_hasPart (nI mn) pa = 0
  · rw [if_pos hp, if_pos (find_none hm h (fun p row hp2 ep _ _ => by rw [ep, part_of hm hp2] at hp; exact absurd hp (by decide)))]
  · obtain ⟨p, hp2, rfl⟩ := part_N hm hp
    have hp10 : p < 10 := by omega
    rw [if_neg hp, nI_clamp (by omega)]
    -- a special caller
    have spec : ∀ row, kCal caller row p → 10 ≤ row → f_X8_in (Int32.toInt64 caller) (-10001) (-10000) = 1 → (if f_X8_in (Int32.toInt64 caller) (-10001) (-10000) = 0 then (if f_X4_hasPart (nI mn) caller = 0 then 0 else if f_X8_hasContract rw (kSide caller) p = 0 then 0 else 1) else if f_X8_hasContract rw (kSide caller) p = 0 then (if f_X4_hasPart (nI mn) caller = 0 then 0 else 0) else (1 : Int32)) = if f_X1_find bnd caller (nI p) = -10000 then 0 else 1 := by
      intro row hc _ hi
      rw [hi, if_neg (by decide)]
      by_cases t : f_X8_hasContract rw (kSide caller) p = 0
      · rw [if_pos t, if_pos ((hasT h hc hp10).mp t)]
        by_cases z : f_X4_hasPart (nI mn) caller = 0
        · rw [if_pos z]
        · rw [if_neg z]
      · rw [if_neg t, if_neg (fun q => t ((hasT h hc hp10).mpr q))]
    by_cases c1 : caller = -10001
    · exact spec 11 (Or.inl ⟨c1, rfl⟩) (by omega) (by rw [c1]; decide)
    · by_cases c2 : caller = -10000
      · exact spec 10 (Or.inr (Or.inl ⟨c2, rfl⟩)) (by omega) (by rw [c2]; decide)
      · have hi : f_X8_in (Int32.toInt64 caller) (-10001) (-10000) = 0 := by
          rw [ein]
          by_cases z1 : caller < -10001
          · rw [if_pos z1]
          · rw [if_neg z1]
            by_cases z2 : -10000 < caller
            · rw [if_pos z2]
            · exfalso
              have n1 : ¬ caller.toInt = (-10001 : Int32).toInt := fun q => c1 (Int32.toInt_inj.mp q)
              have n2 : ¬ caller.toInt = (-10000 : Int32).toInt := fun q => c2 (Int32.toInt_inj.mp q)
              have q1 : ¬ caller.toInt < (-10001 : Int32).toInt := fun z => z1 (Int32.lt_iff_toInt_lt.mpr z)
              have q2 : ¬ (-10000 : Int32).toInt < caller.toInt := fun z => z2 (Int32.lt_iff_toInt_lt.mpr z)
              omega
        rw [if_pos hi]
        by_cases hca : f_X4_hasPart (nI mn) caller = 0
        · rw [if_pos hca, if_pos (find_none hm h (fun p2 row h7 ep hc h8 => by
            rcases hc with ⟨z, _⟩ | ⟨z, _⟩ | ⟨z, z2, z3⟩
            · exact c1 z
            · exact c2 z
            · rw [z, part_of hm (show row < mn by omega)] at hca
              exact absurd hca (by decide)))]
        · rw [if_neg hca]
          obtain ⟨c, hc, rfl⟩ := part_N hm hca
          by_cases l : p < c
          · have hk : kCal (nI c) c p := Or.inr (Or.inr ⟨rfl, l, by omega⟩)
            by_cases t : f_X8_hasContract rw (kSide (nI c)) p = 0
            · rw [if_pos t, if_pos ((hasT h hk hp10).mp t)]
            · rw [if_neg t, if_neg (fun q => t ((hasT h hk hp10).mpr q))]
          · -- no contract of a part below
            have hs : kSide (nI c) = kSd c := by
              unfold kSide kSd
              rw [if_neg (nI_ne1 (by omega)), if_neg (nI_ne (by omega)), if_neg (by omega), if_neg (by omega), nI_clamp (by omega)]
              omega
            have t : f_X8_hasContract rw (kSide (nI c)) p = 0 := by
              rw [hs]
              refine (hasC_N h (by omega) hp10).mpr ?_
              rcases h c p (by omega) hp10 with ⟨_, _, _, _, _, _, _, h8⟩ | ⟨_, h2⟩
              · omega
              · exact h2
            rw [if_pos t, if_pos (find_none hm h (fun p2 row h7 ep hc2 h8 => by
              have ep2 : p = p2 := (nI_eq (by omega) (by omega)).mp ep
              rcases hc2 with ⟨z, _⟩ | ⟨z, _⟩ | ⟨z, z2, z3⟩
              · exact c1 z
              · exact c2 z
              · have : c = row := (nI_eq (by omega) (by omega)).mp z
                omega))]
end
