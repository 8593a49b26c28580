-- THE PURE PART, 6: what is remembered, of both
noncomputable section
theorem pPlan_ext {v : KPV} {rw rw2 : Nat → Int32} (e : ∀ i, i < 748 → rw2 i = rw i) (h : pPlan v rw) : pPlan v rw2 := by
  obtain ⟨mn, hv, a1, a2, a3, a4, a5, a6, a7, a8, a9, a10, a11⟩ := h
  exact ⟨mn, hv, a1, by rw [e _ (by omega)]; exact a2, by rw [e _ (by omega)]; exact a3, by rw [e _ (by omega)]; exact a4, by rw [e _ (by omega)]; exact a5, by rw [e _ (by omega)]; exact a6, by rw [e _ (by omega)]; exact a7, pNum_out a1 a8 (fun i _ _ => e _ (by omega)), pBnd_out a9 (fun i _ _ => e _ (by omega)), pBlm_out a10 (fun i _ _ => e _ (by omega)), rNx_out a11 (fun i _ _ => e _ (by omega))⟩
/-- a row of a longer array -/
def kRowAt (di : Nat → Int32) (k : Nat) : Nat → Int32 := fun i => di (748 * k + i)
/-- the class's memory and the reference's diary -/
def pMem (nx kc : Nat) (pl : Nat → KPV) (ac : Nat) (di : Nat → Int32) : Prop := nx < 14 ∧ kc = ac ∧ ac ≤ 14 ∧ ∀ k, k < ac → pPlan (pl ((nx + 14 - ac + k) % 14)) (kRowAt di k)
theorem cpy_row {nw di : Nat → Int32} {a k i : Nat} (hi : i < 748) : va_cpy nw di 0 (748 * a) 748 (748 * k + i) = if k = a then nw i else di (748 * k + i) := by
  unfold va_cpy
  by_cases h : k = a
  · subst h
    rw [if_pos rfl, if_pos (by omega), show 0 + (748 * k + i - 748 * k) = i by omega]
  · rw [if_neg h, if_neg (by omega)]
theorem pMem_remember {nx kc ac : Nat} {v : KPV} {pl : Nat → KPV} {nw di : Nat → Int32} (h : pMem nx kc pl ac di) (hv : pPlan v nw) : pMem (f_X3_remember nx kc v pl).1 (f_X3_remember nx kc v pl).2.1 (f_X3_remember nx kc v pl).2.2 (f_X8_remember ac nw di).1 (f_X8_remember ac nw di).2 := by
  obtain ⟨h1, h2, h3, h4⟩ := h
  subst h2
  unfold f_X3_remember f_X8_remember
  by_cases h14 : kc = 14
  · subst h14
    rw [if_pos rfl]
    refine ⟨Nat.mod_lt _ (by decide), rfl, (show 14 - 1 + 1 ≤ 14 by decide), fun k hk => ?_⟩
    show pPlan (updP pl nx v (((nx + 1) % 14 + 14 - (14 - 1 + 1) + k) % 14)) (kRowAt (va_cpy nw (va_cpy di di 748 0 9724) 0 (748 * (14 - 1)) 748) k)
    by_cases e : k = 13
    · subst e
      rw [show ((nx + 1) % 14 + 14 - (14 - 1 + 1) + 13) % 14 = nx by omega, updP_s]
      refine pPlan_ext (fun i hi => ?_) hv
      unfold kRowAt
      rw [cpy_row hi, if_pos rfl]
    · have e2 : ((nx + 1) % 14 + 14 - (14 - 1 + 1) + k) % 14 = (nx + 14 - 14 + (k + 1)) % 14 := by omega
      rw [e2, updP_n (by omega)]
      refine pPlan_ext (fun i hi => ?_) (h4 (k + 1) (by omega))
      unfold kRowAt
      rw [cpy_row hi, if_neg (by omega)]
      unfold va_cpy
      rw [if_pos (by omega)]
      congr 1
      omega
  · rw [if_neg h14]
    have em : min (kc + 1) 14 = kc + 1 := by omega
    refine ⟨Nat.mod_lt _ (by decide), em, by show kc + 1 ≤ 14; omega, fun k hk => ?_⟩
    have hk2 : k < kc + 1 := hk
    show pPlan (updP pl nx v (((nx + 1) % 14 + 14 - (kc + 1) + k) % 14)) (kRowAt (va_cpy nw di 0 (748 * kc) 748) k)
    by_cases e : k = kc
    · subst e
      rw [show ((nx + 1) % 14 + 14 - (k + 1) + k) % 14 = nx by omega, updP_s]
      refine pPlan_ext (fun i hi => ?_) hv
      unfold kRowAt
      rw [cpy_row hi, if_pos rfl]
    · have e2 : ((nx + 1) % 14 + 14 - (kc + 1) + k) % 14 = (nx + 14 - kc + k) % 14 := by omega
      rw [e2, updP_n (by omega)]
      refine pPlan_ext (fun i hi => ?_) (h4 k (by omega))
      unfold kRowAt
      rw [cpy_row hi, if_neg e]
theorem pMem_forget {nx kc ac : Nat} {pl : Nat → KPV} {di : Nat → Int32} (h : pMem nx kc pl ac di) (di2 : Nat → Int32) : pMem nx 0 pl 0 di2 := ⟨h.1, rfl, by omega, fun k hk => absurd hk (Nat.not_lt_zero _)⟩
theorem pMem_undo {nx kc ac : Nat} {pl : Nat → KPV} {nw di : Nat → Int32} (h : pMem nx kc pl ac di) (h0 : 1 ≤ ac) : pMem (f_X3_takeBackInto nx kc pl).1 (f_X3_takeBackInto nx kc pl).2.1 pl (ac - 1) di ∧ pPlan (f_X3_takeBackInto nx kc pl).2.2 (va_cpy di nw (748 * (ac - 1)) 0 748) := by
  obtain ⟨h1, h2, h3, h4⟩ := h
  subst h2
  unfold f_X3_takeBackInto
  refine ⟨⟨Nat.mod_lt _ (by decide), rfl, by omega, fun k hk => ?_⟩, ?_⟩
  · show pPlan (pl (((nx + 14 - 1) % 14 + 14 - (kc - 1) + k) % 14)) (kRowAt di k)
    have hk2 : k < kc - 1 := hk
    rw [show ((nx + 14 - 1) % 14 + 14 - (kc - 1) + k) % 14 = (nx + 14 - kc + k) % 14 by omega]
    exact h4 k (by omega)
  · show pPlan (pl ((nx + 14 - 1) % 14)) _
    rw [show (nx + 14 - 1) % 14 = (nx + 14 - kc + (kc - 1)) % 14 by omega]
    refine pPlan_ext (fun i hi => ?_) (h4 (kc - 1) (by omega))
    unfold va_cpy kRowAt
    rw [if_pos (by omega)]
    congr 1
/-- what is kept in a slot -/
def pKept (z : KPV) (ke ik : Nat → Int32) (j : Nat) : Prop := ¬ ik j = 0 → pPlan z (kRowAt ke j)
theorem pKept_save {v : KPV} {nw ke ik : Nat → Int32} {j : Nat} (h : pPlan v nw) : pKept v (va_cpy nw ke 0 (748 * j) 748) (upd ik j 1) j := fun _ => pPlan_ext (fun i hi => by
  unfold kRowAt
  rw [cpy_row hi, if_pos rfl]) h
theorem pKept_other {z : KPV} {nw ke ik : Nat → Int32} {j k : Nat} (hjk : ¬ k = j) (h : pKept z ke ik k) : pKept z (va_cpy nw ke 0 (748 * j) 748) (upd ik j 1) k := fun q => by
  rw [pk_un hjk] at q
  refine pPlan_ext (fun i hi => ?_) (h q)
  unfold kRowAt
  rw [cpy_row hi, if_neg hjk]
theorem pKept_restore {z : KPV} {nw ke ik : Nat → Int32} {j : Nat} (hk : ¬ ik j = 0) (h : pKept z ke ik j) : pPlan z (va_cpy ke nw (748 * j) 0 748) := pPlan_ext (fun i hi => by
  unfold va_cpy kRowAt
  rw [if_pos (by omega)]
  congr 1) (h hk)
end
