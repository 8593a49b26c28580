-- THE PURE PART, 8: codes and answers of the methods, of both
noncomputable section
theorem small_eq (x : Int32) : f_X8_isSmall x = f_X7_isSmall x := in_c (by decide) (by decide)
theorem input_eq (x : Int32) : f_X8_isNumber x = f_X7_isInput x := in_c (by decide) (by decide)
theorem range_eq (low high : Int32) : f_X8_isRange low high = f_X7_isRange low high := by
  unfold f_X8_isRange f_X7_isRange
  have e1 : (-9999 : Int32).toInt = -9999 := by decide
  have e2 : (9999 : Int32).toInt = 9999 := by decide
  have i1 : f_X8_in (Int32.toInt64 low) (-9999) 9999 = f_X7_isWithin low (-9999) 9999 := in_c (by decide) (by decide)
  have i2 : f_X8_in (Int32.toInt64 high) (-9999) 9999 = f_X7_isWithin high (-9999) 9999 := in_c (by decide) (by decide)
  rw [i1, i2]
  unfold f_X7_isWithin
  by_cases a : low < -9999
  · rw [if_pos a, if_pos rfl, if_pos a]
  · have qa : ¬ low.toInt < (-9999 : Int32).toInt := fun z => a (Int32.lt_iff_toInt_lt.mpr z)
    rw [if_neg a, if_neg a]
    by_cases b : high < low
    · have qb := Int32.lt_iff_toInt_lt.mp b
      rw [if_pos b, if_pos b]
      by_cases c : 9999 < low
      · rw [if_pos c, if_pos rfl]
      · rw [if_neg c, if_neg (by decide)]
        by_cases d : high < -9999
        · rw [if_pos d, if_pos rfl]
        · rw [if_neg d]
          by_cases f : 9999 < high
          · rw [if_pos f, if_pos rfl]
          · rw [if_neg f, if_neg (by decide)]
    · have qb : ¬ high.toInt < low.toInt := fun z => b (Int32.lt_iff_toInt_lt.mpr z)
      rw [if_neg b, if_neg b]
      have d : ¬ high < -9999 := fun z => by have := Int32.lt_iff_toInt_lt.mp z; omega
      rw [if_neg d]
      by_cases f : 9999 < high
      · rw [if_pos f, if_pos rfl]
        by_cases c : 9999 < low
        · rw [if_pos c, if_pos rfl]
        · rw [if_neg c, if_neg (by decide)]
      · rw [if_neg f, if_neg (show ¬ (1 : Int32) = 0 by decide)]
        have qf : ¬ (9999 : Int32).toInt < high.toInt := fun z => f (Int32.lt_iff_toInt_lt.mpr z)
        have c : ¬ 9999 < low := fun z => by have := Int32.lt_iff_toInt_lt.mp z; omega
        rw [if_neg c, if_neg (by decide)]
theorem kd_append {ln : Nat} (hl : ln ≤ 120) (c9 : Int32) : kd_X7_append ln c9 = kc_X8_append ln c9 := by
  unfold kd_X7_append kc_X8_append
  have i1 : f_X8_in (Int32.toInt64 c9) 0 255 = f_X7_isWithin c9 0 255 := in_c (by decide) (by decide)
  rw [i1]
  unfold f_X6_isFull
  by_cases a : f_X7_isWithin c9 0 255 = 0
  · rw [if_pos a, if_pos a]
  · rw [if_neg a, if_neg a]
    by_cases b : ln < 120
    · rw [if_pos b, if_pos rfl, if_neg (by omega)]
    · rw [if_neg b, if_neg (by decide), if_pos (by omega)]
theorem kd_about (what : Int32) : kd_X7_about what = kc_X8_about what := by
  have i1 : f_X8_in (Int32.toInt64 what) 0 8 = f_X7_isWithin what 0 8 := in_c (by decide) (by decide)
  unfold kd_X7_about kc_X8_about
  rw [i1]
section PL
variable {v : KPV} {nw : Nat → Int32}
theorem pPlan.part (h : pPlan v nw) (pa : Int32) : f_X8_isPart nw pa = f_X4_hasPart v.1 pa := by
  obtain ⟨mn, hv, a1, a2, _⟩ := h
  rw [hv]
  exact has_part a1 a2
theorem pPlan.there (h : pPlan v nw) (caller pa : Int32) : f_X8_isContract nw caller pa = f_X1_isThere v.2.2.2.2.2.2.2.1 caller pa := by
  obtain ⟨mn, hv, a1, a2, _, _, _, _, _, _, a9, _⟩ := h
  exact there_eq a1 a2 a9
theorem kd_part (h : pPlan v nw) (pa what : Int32) : kd_X7_part v pa what = kc_X8_part nw pa what := by
  have i1 : f_X8_in (Int32.toInt64 what) 0 8 = f_X7_isWithin what 0 8 := in_c (by decide) (by decide)
  unfold kd_X7_part kc_X8_part
  rw [i1, h.part]
theorem kd_contract (h : pPlan v nw) (caller pa what : Int32) : kd_X7_contract v caller pa what = kc_X8_contract nw caller pa what := by
  have i1 : f_X8_in (Int32.toInt64 what) 0 3 = f_X7_isWithin what 0 3 := in_c (by decide) (by decide)
  unfold kd_X7_contract kc_X8_contract
  rw [i1, h.there]
theorem kd_blame (k what : Int32) : kd_X7_blame k what = kc_X8_blame k what := by
  have i1 : f_X8_in (Int32.toInt64 k) 0 9 = f_X7_isWithin k 0 9 := in_c (by decide) (by decide)
  have i2 : f_X8_in (Int32.toInt64 what) 0 5 = f_X7_isWithin what 0 5 := in_c (by decide) (by decide)
  unfold kd_X7_blame kc_X8_blame
  rw [i1, i2]
theorem kd_stands (h : pPlan v nw) (caller pa other qa : Int32) : kd_X7_stands v caller pa other qa = kc_X8_stands nw caller pa other qa := by
  unfold kd_X7_stands kc_X8_stands
  rw [h.there, h.there]
theorem kd_add (h : pPlan v nw) (factor more : Int32) : kd_X7_add v factor more = kc_X8_add nw factor more := by
  obtain ⟨mn, hv, a1, a2, _⟩ := h
  have i1 : f_X8_in (Int32.toInt64 factor) (-9) 9 = f_X7_isWithin factor (-9) 9 := in_c (by decide) (by decide)
  unfold kd_X7_add kc_X8_add f_X4_hasRoom
  dsimp only
  rw [i1, small_eq, hv, a2, nI_clamp (by omega)]
  by_cases b : mn = 10
  · rw [if_pos b, if_pos (show (10 : Int32) ≤ nI mn by rw [b]; decide), if_pos rfl]
  · rw [if_neg b, if_neg (show ¬ (10 : Int32) ≤ nI mn from fun q => by have := (nI_leI (a := 10) (b := mn) (by decide) (by omega)).mp q; omega), if_neg (show ¬ (1 : Int32) = 0 by decide)]
theorem kd_net (h : pPlan v nw) (pa net : Int32) : kd_X7_net v pa net = kc_X8_net nw pa net := by
  unfold kd_X7_net kc_X8_net
  rw [h.part, small_eq]
theorem kd_own (h : pPlan v nw) (pa al ah gl gh : Int32) : kd_X7_own v pa al ah gl gh = kc_X8_own nw pa al ah gl gh := by
  unfold kd_X7_own kc_X8_own
  rw [h.part, range_eq, range_eq]
  by_cases a : f_X4_hasPart v.1 pa = 0
  · rw [if_pos a, if_pos a]
    by_cases b : f_X7_isRange al ah = 0
    · rw [if_pos b]
    · rw [if_neg b]
      by_cases c : f_X7_isRange gl gh = 0
      · rw [if_pos c]
      · rw [if_neg c, if_pos a]
  · rw [if_neg a, if_neg a, if_neg a]
theorem kd_drop (h : pPlan v nw) (caller pa : Int32) : kd_X7_drop v caller pa = kc_X8_drop nw caller pa := by
  unfold kd_X7_drop kc_X8_drop
  rw [h.there]
theorem kd_call (h : pPlan v nw) (pa x : Int32) : kd_X7_call v pa x = kc_X8_call nw pa x := by
  unfold kd_X7_call kc_X8_call
  rw [h.part, input_eq]
theorem kd_link (h : pPlan v nw) (caller pa al ah gl gh : Int32) : kd_X7_link v caller pa al ah gl gh = kc_X8_link nw caller pa al ah gl gh := by
  unfold kd_X7_link kc_X8_link
  rw [h.part, h.part, range_eq, range_eq]
  by_cases a : f_X4_hasPart v.1 pa = 0
  · rw [if_pos a]
    by_cases c : caller = -10000
    · rw [if_pos c]
      by_cases b : f_X7_isRange al ah = 0
      · rw [if_pos b, if_pos a]
      · rw [if_neg b]
        by_cases d : f_X7_isRange gl gh = 0
        · rw [if_pos d, if_pos a]
        · rw [if_neg d, if_pos a]
    · rw [if_neg c]
      by_cases e : f_X4_hasPart v.1 caller = 0
      · rw [if_pos e, if_pos a]
      · rw [if_neg e]
        by_cases l : caller ≤ pa
        · rw [if_pos l, if_pos a]
        · rw [if_neg l]
          by_cases b : f_X7_isRange al ah = 0
          · rw [if_pos b, if_pos a]
          · rw [if_neg b]
            by_cases d : f_X7_isRange gl gh = 0
            · rw [if_pos d, if_pos a]
            · rw [if_neg d, if_pos a]
  · rw [if_neg a]
    by_cases c : caller = -10000
    · rw [if_pos c, if_pos c]
      by_cases b : f_X7_isRange al ah = 0
      · rw [if_pos b, if_pos b, if_neg a]
      · rw [if_neg b, if_neg b]
        by_cases d : f_X7_isRange gl gh = 0
        · rw [if_pos d, if_pos d, if_neg a]
        · rw [if_neg d, if_neg d, if_neg a]
    · rw [if_neg c, if_neg c]
      by_cases e : f_X4_hasPart v.1 caller = 0
      · rw [if_pos e, if_pos e, if_neg a]
      · rw [if_neg e, if_neg e]
        by_cases l : caller ≤ pa
        · rw [if_pos l, if_pos l, if_neg a]
        · rw [if_neg l, if_neg l]
          by_cases b : f_X7_isRange al ah = 0
          · rw [if_pos b, if_pos b, if_neg a]
          · rw [if_neg b, if_neg b]
            by_cases d : f_X7_isRange gl gh = 0
            · rw [if_pos d, if_pos d, if_neg a]
            · rw [if_neg d, if_neg d, if_neg a]
theorem may_eq {pa next : Int32} (hp : ¬ pa < 0) : f_X8_in (Int32.toInt64 next) 0 (Int32.toInt64 (pa - 1)) = f_X4_mayChainTo pa next := by
  have e := in_32 next 0 (pa - 1)
  rw [show Int32.toInt64 0 = (0 : Int64) from by decide] at e
  rw [e]
  unfold f_X4_mayChainTo
  by_cases a : next < 0
  · rw [if_pos a, if_pos a]
  · rw [if_neg a, if_neg a]
    obtain ⟨j, hj, ej⟩ := nI_of hp
    have e0 : (0 : Int32).toInt = 0 := by decide
    have e1 : (pa - 1).toInt = (j : Int) - 1 := by
      rw [ej, Int32.toInt_sub, nI_toInt hj, show (1 : Int32).toInt = 1 by decide, Int.bmod_def]
      omega
    have e2 : pa.toInt = (j : Int) := by rw [ej, nI_toInt hj]
    by_cases b : pa - 1 < next
    · have q := Int32.lt_iff_toInt_lt.mp b
      rw [if_pos b, if_pos (Int32.le_iff_toInt_le.mpr (by omega))]
    · have q : ¬ (pa - 1).toInt < next.toInt := fun z => b (Int32.lt_iff_toInt_lt.mpr z)
      rw [if_neg b, if_neg (fun z => by have := Int32.le_iff_toInt_le.mp z; omega)]
theorem kd_chain (h : pPlan v nw) (pa next step : Int32) : kd_X7_chain v pa next step = kc_X8_chain nw pa next step := by
  unfold kd_X7_chain kc_X8_chain
  rw [h.part, small_eq]
  by_cases c : next = -10000
  · rw [if_pos c, if_pos c]
    by_cases a : f_X4_hasPart v.1 pa = 0
    · rw [if_pos a, if_pos a]
      by_cases s : f_X7_isSmall step = 0
      · rw [if_pos s]
      · rw [if_neg s, if_pos a]
    · rw [if_neg a, if_neg a, if_neg a]
  · rw [if_neg c, if_neg c]
    by_cases a : f_X4_hasPart v.1 pa = 0
    · rw [if_pos a, if_pos a]
      repeat' split
      all_goals rfl
    · rw [if_neg a, if_neg a, may_eq (kHas a).1]
theorem kd_would (h : pPlan v nw) (pa x what : Int32) : kd_X7_would v pa x what = kc_X8_would nw pa x what := by
  have i1 : f_X8_in (Int32.toInt64 what) 0 4 = f_X7_isWithin what 0 4 := in_c (by decide) (by decide)
  unfold kd_X7_would kc_X8_would
  rw [h.part, input_eq, i1]
theorem tried_eq (low many : Int32) : f_X8_isTried low many = if f_X7_isInput low = 0 then 0 else if f_X7_isWithin many 1 200 = 0 then 0 else 1 := by
  have i1 : f_X8_in (Int32.toInt64 many) 1 200 = f_X7_isWithin many 1 200 := in_c (by decide) (by decide)
  unfold f_X8_isTried
  rw [input_eq, i1]
theorem tried_2 (low many : Int32) : (if f_X8_isTried low many = 0 then (2 : Int32) else 0) = if f_X7_isInput low = 0 then 2 else if f_X7_isWithin many 1 200 = 0 then 2 else 0 := by
  rw [tried_eq]
  by_cases a : f_X7_isInput low = 0
  · rw [if_pos a, if_pos a, if_pos rfl]
  · rw [if_neg a, if_neg a]
    by_cases b : f_X7_isWithin many 1 200 = 0
    · rw [if_pos b, if_pos b, if_pos rfl]
    · rw [if_neg b, if_neg b, if_neg (by decide)]
theorem kd_firstBad (h : pPlan v nw) (pa low many : Int32) : kd_X7_firstBad v pa low many = kc_X8_firstBad nw pa low many := by
  unfold kd_X7_firstBad kc_X8_firstBad
  rw [h.part, tried_2]
theorem kd_mostBlamed (h : pPlan v nw) (pa low many : Int32) : kd_X7_mostBlamed v pa low many = kc_X8_mostBlamed nw pa low many := by
  unfold kd_X7_mostBlamed kc_X8_mostBlamed
  rw [h.part, tried_2]
theorem kd_reach (h : pPlan v nw) (pa x : Int32) : kd_X7_reach v pa x = kc_X8_reach nw pa x := by
  unfold kd_X7_reach kc_X8_reach
  rw [h.part, input_eq]
theorem kd_simulate (m : Int32) : kd_X7_simulate m = kc_X8_simulate m := by
  have i1 : f_X8_in (Int32.toInt64 m) 1 99 = f_X7_isWithin m 1 99 := in_c (by decide) (by decide)
  unfold kd_X7_simulate kc_X8_simulate
  rw [i1]
theorem kd_save (slot : Int32) : kd_X7_save slot = kc_X8_save slot := by
  have i1 : f_X8_in (Int32.toInt64 slot) 0 1 = f_X7_isWithin slot 0 1 := in_c (by decide) (by decide)
  unfold kd_X7_save kc_X8_save
  rw [i1]
theorem kd_restore (fl : Nat → Int32) (slot : Int32) : kd_X7_restore fl slot = kc_X8_restore fl slot := by
  have i1 : f_X8_in (Int32.toInt64 slot) 0 1 = f_X7_isWithin slot 0 1 := in_c (by decide) (by decide)
  unfold kd_X7_restore kc_X8_restore
  dsimp only
  rw [i1]
theorem kd_undo {kc : Nat} : kd_X7_undo kc = kc_X8_undo kc := by
  unfold kd_X7_undo kc_X8_undo
  by_cases a : kc = 0
  · rw [if_pos a, if_pos (by omega)]
  · rw [if_neg a, if_neg (by omega)]
theorem gf_0 {t : Nat} (ht : t < 2 ^ 63) (n : Nat) (hn : n ≤ 3) : gf (lN t) n = 0 ↔ t < 10 ^ (5 * n) := by
  rw [gf_N ht n]
  have hp : (100000 : Nat) ^ n = 10 ^ (5 * n) := by rw [Nat.pow_mul]
  have h1 : t / 100000 ^ n < 2 ^ 63 := Nat.lt_of_le_of_lt (Nat.div_le_self _ _) ht
  rw [show (0 : Int64) = lN 0 from rfl, pk_lEQ h1 (by decide), hp]
  exact Nat.div_eq_zero_iff_lt (Nat.pow_pos (by decide))
end PL
end
