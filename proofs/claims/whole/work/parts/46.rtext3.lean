-- MODULE: the reference, its text, 3
/-- an equation that omega doesn't look at -/
def kEq {α : Type} (a b : α) : Prop := a = b
theorem in_09 {x : Int32} (h : ¬ f_X8_in (Int32.toInt64 x) 0 9 = 0) : ¬ x < 0 ∧ ¬ 10 ≤ x := by
  unfold f_X8_in at h
  have e : (Int32.toInt64 x).toInt = x.toInt := Int32.toInt_toInt64 x
  have e0 : (0 : Int64).toInt = 0 := by decide
  have e9 : (9 : Int64).toInt = 9 := by decide
  have f0 : (0 : Int32).toInt = 0 := by decide
  have f10 : (10 : Int32).toInt = 10 := by decide
  by_cases h1 : (Int32.toInt64 x) < 0
  · rw [if_pos h1] at h; exact absurd rfl h
  · rw [if_neg h1] at h
    by_cases h2 : 9 < Int32.toInt64 x
    · rw [if_pos h2] at h; exact absurd rfl h
    · refine ⟨fun q => h1 (Int64.lt_iff_toInt_lt.mpr ?_), fun q => h2 (Int64.lt_iff_toInt_lt.mpr ?_)⟩
      · have q1 := Int32.lt_iff_toInt_lt.mp q
        omega
      · have q1 := Int32.le_iff_toInt_le.mp q
        omega
theorem kDr_N (ss sp : Nat) (sc : Nat → Int32) (ig hi9 : Int32) : kDr ss sp sc ig 0 hi9 = nI (kDr ss sp sc ig 0 hi9).toNatClampNeg ∧ (kDr ss sp sc ig 0 hi9).toNatClampNeg ≤ 9 := by
  unfold kDr
  by_cases h1 : kAccG ig (kDb ss sp sc 0 hi9) = 0
  · rw [if_pos h1]
    decide
  · rw [if_neg h1]
    have h2 : ¬ kDb ss sp sc 0 hi9 = 0 := by
      intro h3
      apply h1
      unfold kAccG
      by_cases h4 : ig = 0
      · rw [if_pos h4]
      · rw [if_neg h4, if_pos h3]
    have h3 : ¬ f_X8_in (Int32.toInt64 (kDv ss sp sc)) 0 9 = 0 := by
      intro h4
      apply h2
      unfold kDb
      rw [if_pos h4]
    obtain ⟨h5, h6⟩ := in_09 h3
    exact ⟨k_cl h5, by have := k_clt (M := 10) (n := 10) (by decide) h5 h6; omega⟩
theorem goes_0 (ig lo : Int32) : (f_X8_goes ig lo 0).1 = 0 := by
  by_cases h : ig = 0 <;> simp [f_X8_goes, h]
