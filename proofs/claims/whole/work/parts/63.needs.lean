-- MODULE: BlameChains (X7): what is asked first
noncomputable section
theorem atS_X7_needArgument : ∀ w ∈ (vx_atS RX7 239 "java/lang/IllegalArgumentException" ["java/lang/RuntimeException", "java/lang/Exception"]).filter goodWord, w ∈ wsX7_needArgument := fun w h => (List.mem_cons_of_mem _ (List.mem_append_right _ h))
theorem atS_X7_needState : ∀ w ∈ (vx_atS RX7 246 "java/lang/IllegalStateException" ["java/lang/RuntimeException", "java/lang/Exception"]).filter goodWord, w ∈ wsX7_needState := fun w h => (List.mem_cons_of_mem _ (List.mem_append_right _ h))
theorem atS_X7_needSlot : ∀ w ∈ (vx_atS RX7 251 "java/lang/IndexOutOfBoundsException" ["java/lang/RuntimeException", "java/lang/Exception"]).filter goodWord, w ∈ wsX7_needSlot := fun w h => (List.mem_cons_of_mem _ (List.mem_append_right _ h))
theorem atS_X7_needPart : ∀ w ∈ (vx_atS RX7 251 "java/lang/IndexOutOfBoundsException" ["java/lang/RuntimeException", "java/lang/Exception"]).filter goodWord, w ∈ wsX7_needPart := fun w h => (List.mem_cons_of_mem _ (List.mem_append_right _ h))
theorem atS_X7_needContract : ∀ w ∈ (vx_atS RX7 251 "java/lang/IndexOutOfBoundsException" ["java/lang/RuntimeException", "java/lang/Exception"]).filter goodWord, w ∈ wsX7_needContract := fun w h => (List.mem_cons_of_mem _ (List.mem_append_right _ h))
def f_X7_isWithin (nb : Int32) (low : Int32) (high : Int32) : Int32 :=
  if nb < low then
    0
  else
    if high < nb then
      0
    else
      1
set_option maxHeartbeats 4000000 in
set_option maxRecDepth 100000 in
theorem c_X7_isWithin (l : Launch) (D : va_G) (g : Nat → Nat) (sz : Nat) (nb : Int32) (low : Int32) (high : Int32) : kMi l D g yX7_isWithin wsX7_isWithin 1 0 0 [.int nb, .int low, .int high] [] sz (f_X7_isWithin nb low high) [] := by
  refine k_enter (nm := "isWithin") (own := RX7) (bytes := cX7_isWithin) (maxL := 3) (ret := (some .boolean)) (Qf := fun A => kQi D [] A (f_X7_isWithin nb low high)) (by decide) rfl rfl rfl (Nat.le_of_ble_eq_true rfl) ?_
  rintro pp ee s mm below meth cc A ls args Q H locs hQ ⟨hx, hb, hr, hml, hown, hts, hlocks, hin⟩ hP hK hD hA hS hE hl
  have hl : lv_has ls 3 [(0, .int nb), (1, .int low), (2, .int high)] := hl
  refine lv_iload_n hx hb dX7_isWithin_0 rfl (lv_at hl 0 rfl) ?_
  refine lv_iload_n hx hb dX7_isWithin_1 rfl (lv_at hl 1 rfl) ?_
  refine lv_icmp_lt (tgt := 14) hx hb dX7_isWithin_2 (by decide) (fun c_1 => ?_) (fun c_1 => ?_)
  · refine lv_iconst (v := 0) hx hb dX7_isWithin_14 (by decide) ?_
    have hE2 : (f_X7_isWithin nb low high) = 0 := by
      exact (if_pos c_1).trans (rfl)
    subst hQ
    exact k_rz hx hb hr hlocks hP hD hS dX7_isWithin_15 (by rfl) (hE2.symm) (rfl)
  · refine lv_iload_n hx hb dX7_isWithin_5 rfl (lv_at hl 0 rfl) ?_
    refine lv_iload_n hx hb dX7_isWithin_6 rfl (lv_at hl 2 rfl) ?_
    refine lv_icmp_gt (tgt := 14) hx hb dX7_isWithin_7 (by decide) (fun c_2 => ?_) (fun c_2 => ?_)
    · refine lv_iconst (v := 0) hx hb dX7_isWithin_14 (by decide) ?_
      have hE2 : (f_X7_isWithin nb low high) = 0 := by
        exact (if_neg c_1).trans ((if_pos c_2).trans (rfl))
      subst hQ
      exact k_rz hx hb hr hlocks hP hD hS dX7_isWithin_15 (by rfl) (hE2.symm) (rfl)
    · refine lv_iconst (v := 1) hx hb dX7_isWithin_10 (by decide) ?_
      refine lv_goto (tgt := 15) hx hb dX7_isWithin_11 (by decide) ?_
      have hE2 : (f_X7_isWithin nb low high) = 1 := by
        exact (if_neg c_1).trans ((if_neg c_2).trans (rfl))
      subst hQ
      exact k_rz hx hb hr hlocks hP hD hS dX7_isWithin_15 (by rfl) (hE2.symm) (rfl)
theorem within_nar (a b c : Int32) : narrow .boolean (.int (f_X7_isWithin a b c)) = .int (f_X7_isWithin a b c) := by
  unfold f_X7_isWithin
  repeat' split
  all_goals rfl
theorem within_N {x hi : Int32} {K : Nat} (hK : hi.toInt = (K : Int)) (h : ¬ f_X7_isWithin x 0 hi = 0) : x = nI x.toNatClampNeg ∧ x.toNatClampNeg ≤ K := by
  unfold f_X7_isWithin at h
  have f0 : (0 : Int32).toInt = 0 := by decide
  by_cases h1 : x < 0
  · rw [if_pos h1] at h; exact absurd rfl h
  · rw [if_neg h1] at h
    by_cases h2 : hi < x
    · rw [if_pos h2] at h; exact absurd rfl h
    · obtain ⟨j, hj2, ej⟩ := nI_of h1
      have h4 : ¬ hi.toInt < x.toInt := fun q => h2 (Int32.lt_iff_toInt_lt.mpr q)
      rw [ej, nI_toInt hj2] at h4
      rw [ej, nI_clamp hj2]
      exact ⟨rfl, by omega⟩
theorem within_N1 {x hi : Int32} {K : Nat} (hK : hi.toInt = (K : Int)) (h : ¬ f_X7_isWithin x 1 hi = 0) : x = nI x.toNatClampNeg ∧ 1 ≤ x.toNatClampNeg ∧ x.toNatClampNeg ≤ K := by
  unfold f_X7_isWithin at h
  have f0 : (0 : Int32).toInt = 0 := by decide
  have f1 : (1 : Int32).toInt = 1 := by decide
  by_cases h1 : x < 1
  · rw [if_pos h1] at h; exact absurd rfl h
  · rw [if_neg h1] at h
    by_cases h2 : hi < x
    · rw [if_pos h2] at h; exact absurd rfl h
    · have h5 : ¬ x.toInt < 1 := fun q => h1 (Int32.lt_iff_toInt_lt.mpr (by omega))
      obtain ⟨j, hj2, ej⟩ := nI_of (x := x) (fun q => h5 (by have := Int32.lt_iff_toInt_lt.mp q; omega))
      have h4 : ¬ hi.toInt < x.toInt := fun q => h2 (Int32.lt_iff_toInt_lt.mpr q)
      rw [ej, nI_toInt hj2] at h4 h5
      rw [ej, nI_clamp hj2]
      exact ⟨rfl, by omega, by omega⟩
def f_X7_isSmall (nb : Int32) : Int32 :=
  (f_X7_isWithin nb (-99) 99)
set_option maxHeartbeats 4000000 in
set_option maxRecDepth 100000 in
theorem c_X7_isSmall (l : Launch) (D : va_G) (g : Nat → Nat) (sz : Nat) (nb : Int32) : kMi l D g yX7_isSmall wsX7_isSmall 2 0 0 [.int nb] [] sz (f_X7_isSmall nb) [] := by
  refine k_enter (nm := "isSmall") (own := RX7) (bytes := cX7_isSmall) (maxL := 1) (ret := (some .boolean)) (Qf := fun A => kQi D [] A (f_X7_isSmall nb)) (by decide) rfl rfl rfl (Nat.le_of_ble_eq_true rfl) ?_
  rintro pp ee s mm below meth cc A ls args Q H locs hQ ⟨hx, hb, hr, hml, hown, hts, hlocks, hin⟩ hP hK hD hA hS hE hl
  have hl : lv_has ls 1 [(0, .int nb)] := hl
  refine lv_iload_n hx hb dX7_isSmall_0 rfl (lv_at hl 0 rfl) ?_
  refine lv_bipush (v := (-99)) hx hb dX7_isSmall_1 (by decide) ?_
  refine lv_bipush (v := 99) hx hb dX7_isSmall_3 (by decide) ?_
  refine k_ai (wr := []) (w2 := []) (va_runS (As := [.int nb, .int (-99), .int 99]) (rest := []) ⟨hx, hb, hml, hown, hts⟩ (c_X7_isWithin l D g H.size nb (-99) 99) (va_cwS 3 hts gX7_isSmall_X7_isWithin rfl rfl rfl (by decide +kernel) (k_lvl (by omega) (by decide))) (kPS hP hD hK hS hA hE [] rfl (by decide)) rfl rfl hl.1 rfl (lv_room (Nat.le_of_ble_eq_true rfl)) dX7_isSmall_5 ⟨Nat.le_of_ble_eq_true rfl, Nat.le_of_ble_eq_true rfl⟩) hP hD hS hA [] [] [] rfl rfl (by decide) (by decide) rfl (by decide) (fun H locs hP hD hS => ?_)
  have hE2 : (f_X7_isSmall nb) = (f_X7_isWithin nb (-99) 99) := by
    exact rfl
  subst hQ
  exact k_rz hx hb hr hlocks hP hD hS dX7_isSmall_8 (within_nar _ _ _) (hE2.symm) (rfl)
def f_X7_isInput (nb : Int32) : Int32 :=
  (f_X7_isWithin nb (-999) 999)
set_option maxHeartbeats 4000000 in
set_option maxRecDepth 100000 in
theorem c_X7_isInput (l : Launch) (D : va_G) (g : Nat → Nat) (sz : Nat) (nb : Int32) : kMi l D g yX7_isInput wsX7_isInput 2 0 0 [.int nb] [] sz (f_X7_isInput nb) [] := by
  refine k_enter (nm := "isInput") (own := RX7) (bytes := cX7_isInput) (maxL := 1) (ret := (some .boolean)) (Qf := fun A => kQi D [] A (f_X7_isInput nb)) (by decide) rfl rfl rfl (Nat.le_of_ble_eq_true rfl) ?_
  rintro pp ee s mm below meth cc A ls args Q H locs hQ ⟨hx, hb, hr, hml, hown, hts, hlocks, hin⟩ hP hK hD hA hS hE hl
  have hl : lv_has ls 1 [(0, .int nb)] := hl
  refine lv_iload_n hx hb dX7_isInput_0 rfl (lv_at hl 0 rfl) ?_
  refine lv_sipush (v := (-999)) hx hb dX7_isInput_1 (by decide) ?_
  refine lv_sipush (v := 999) hx hb dX7_isInput_4 (by decide) ?_
  refine k_ai (wr := []) (w2 := []) (va_runS (As := [.int nb, .int (-999), .int 999]) (rest := []) ⟨hx, hb, hml, hown, hts⟩ (c_X7_isWithin l D g H.size nb (-999) 999) (va_cwS 3 hts gX7_isInput_X7_isWithin rfl rfl rfl (by decide +kernel) (k_lvl (by omega) (by decide))) (kPS hP hD hK hS hA hE [] rfl (by decide)) rfl rfl hl.1 rfl (lv_room (Nat.le_of_ble_eq_true rfl)) dX7_isInput_7 ⟨Nat.le_of_ble_eq_true rfl, Nat.le_of_ble_eq_true rfl⟩) hP hD hS hA [] [] [] rfl rfl (by decide) (by decide) rfl (by decide) (fun H locs hP hD hS => ?_)
  have hE2 : (f_X7_isInput nb) = (f_X7_isWithin nb (-999) 999) := by
    exact rfl
  subst hQ
  exact k_rz hx hb hr hlocks hP hD hS dX7_isInput_10 (within_nar _ _ _) (hE2.symm) (rfl)
set_option maxHeartbeats 4000000 in
set_option maxRecDepth 100000 in
theorem c_X7_needArgument (l : Launch) (D : va_G) (g : Nat → Nat) (sz : Nat) (b9 : Int32) (hb9 : ¬ b9 = 0) : kMv l D g yX7_needArgument wsX7_needArgument 6 0 0 [.int b9] [] sz [] := by
  refine k_enter (nm := "needArgument") (own := RX7) (bytes := cX7_needArgument) (maxL := 1) (ret := none) (Qf := fun A => kQv D [] A) (by decide) rfl rfl rfl (Nat.le_of_ble_eq_true rfl) ?_
  rintro pp ee s mm below meth cc A ls args Q H locs hQ ⟨hx, hb, hr, hml, hown, hts, hlocks, hin⟩ hP hK hD hA hS hE hl
  have hl : lv_has ls 1 [(0, .int b9)] := hl
  refine lv_iload_n hx hb dX7_needArgument_0 rfl (lv_at hl 0 rfl) ?_
  refine lv_if_ne (tgt := 14) hx hb dX7_needArgument_1 (by decide) (fun _ => ?_) (fun c_1 => absurd c_1 hb9)
  subst hQ
  exact k_rv hx hb hr hlocks hP hD hS dX7_needArgument_14 rfl
theorem qc_X7_needArgument_x_X7_needArgument_0 : Cond.classLink RX7 235 "java/lang/IllegalArgumentException" ∈ wsX7_needArgument := (List.mem_cons_of_mem _ (List.mem_append_left _ (List.mem_of_getElem? (i := 0) rfl)))
theorem qc_X7_needArgument_x_X7_needArgument_1 : Cond.initialized "java/lang/IllegalArgumentException" ∈ wsX7_needArgument := (List.mem_cons_of_mem _ (List.mem_append_left _ (List.mem_of_getElem? (i := 1) rfl)))
set_option maxHeartbeats 4000000 in
set_option maxRecDepth 100000 in
theorem c_X7_needArgument_x (l : Launch) (D : va_G) (g : Nat → Nat) (sz : Nat) (b9 : Int32) (hst : l.stackTraces = false) (hb9 : b9 = 0) : kMx l D g yX7_needArgument wsX7_needArgument 6 1 6 [.int b9] [] sz "java/lang/IllegalArgumentException" := by
  refine k_enterX (nm := "needArgument") (own := RX7) (bytes := cX7_needArgument) (maxL := 1) (ret := none) (by decide) rfl rfl rfl (Nat.le_of_ble_eq_true rfl) ?_
  rintro pp ee s mm below meth cc A ls args Q H locs hQ ⟨hx, hb, hr, hml, hown, hts, hlocks, hin⟩ hex hP hK hD hA hS hE hX hl
  have hl : lv_has ls 1 [(0, .int b9)] := hl
  refine lv_iload_n hx hb dX7_needArgument_0 rfl (lv_at hl 0 rfl) ?_
  refine lv_if_ne (tgt := 14) hx hb dX7_needArgument_1 (by decide) (fun c_1 => absurd hb9 c_1) (fun _ => ?_)
  subst hQ
  exact k_throw (R := kR 6 1 6) (rest := []) (mc := 1) (ms := 6) (cells := 0) (slots := 0) (names := ["java/lang/RuntimeException", "java/lang/Exception"]) hx hb hst hml hl hown (by decide +kernel) (by decide +kernel) hts qc_X7_needArgument_x_X7_needArgument_0 qc_X7_needArgument_x_X7_needArgument_1 hX atS_X7_needArgument atB_239 atG_239 (hE.2.1 0 _ rfl) hE hP hD hS dX7_needArgument_4 dX7_needArgument_7 dX7_needArgument_8 dX7_needArgument_10 dX7_needArgument_13 hex (by decide) (Nat.le_of_ble_eq_true rfl) (Nat.le_of_ble_eq_true rfl) (Nat.le_of_ble_eq_true rfl) hlocks (Nat.le_of_ble_eq_true rfl) (Nat.le_of_ble_eq_true rfl)
set_option maxHeartbeats 4000000 in
set_option maxRecDepth 100000 in
theorem c_X7_needState (l : Launch) (D : va_G) (g : Nat → Nat) (sz : Nat) (b9 : Int32) (hb9 : ¬ b9 = 0) : kMv l D g yX7_needState wsX7_needState 6 0 0 [.int b9] [] sz [] := by
  refine k_enter (nm := "needState") (own := RX7) (bytes := cX7_needState) (maxL := 1) (ret := none) (Qf := fun A => kQv D [] A) (by decide) rfl rfl rfl (Nat.le_of_ble_eq_true rfl) ?_
  rintro pp ee s mm below meth cc A ls args Q H locs hQ ⟨hx, hb, hr, hml, hown, hts, hlocks, hin⟩ hP hK hD hA hS hE hl
  have hl : lv_has ls 1 [(0, .int b9)] := hl
  refine lv_iload_n hx hb dX7_needState_0 rfl (lv_at hl 0 rfl) ?_
  refine lv_if_ne (tgt := 14) hx hb dX7_needState_1 (by decide) (fun _ => ?_) (fun c_1 => absurd c_1 hb9)
  subst hQ
  exact k_rv hx hb hr hlocks hP hD hS dX7_needState_14 rfl
theorem qc_X7_needState_x_X7_needState_0 : Cond.classLink RX7 242 "java/lang/IllegalStateException" ∈ wsX7_needState := (List.mem_cons_of_mem _ (List.mem_append_left _ (List.mem_of_getElem? (i := 0) rfl)))
theorem qc_X7_needState_x_X7_needState_1 : Cond.initialized "java/lang/IllegalStateException" ∈ wsX7_needState := (List.mem_cons_of_mem _ (List.mem_append_left _ (List.mem_of_getElem? (i := 1) rfl)))
set_option maxHeartbeats 4000000 in
set_option maxRecDepth 100000 in
theorem c_X7_needState_x (l : Launch) (D : va_G) (g : Nat → Nat) (sz : Nat) (b9 : Int32) (hst : l.stackTraces = false) (hb9 : b9 = 0) : kMx l D g yX7_needState wsX7_needState 6 1 6 [.int b9] [] sz "java/lang/IllegalStateException" := by
  refine k_enterX (nm := "needState") (own := RX7) (bytes := cX7_needState) (maxL := 1) (ret := none) (by decide) rfl rfl rfl (Nat.le_of_ble_eq_true rfl) ?_
  rintro pp ee s mm below meth cc A ls args Q H locs hQ ⟨hx, hb, hr, hml, hown, hts, hlocks, hin⟩ hex hP hK hD hA hS hE hX hl
  have hl : lv_has ls 1 [(0, .int b9)] := hl
  refine lv_iload_n hx hb dX7_needState_0 rfl (lv_at hl 0 rfl) ?_
  refine lv_if_ne (tgt := 14) hx hb dX7_needState_1 (by decide) (fun c_1 => absurd hb9 c_1) (fun _ => ?_)
  subst hQ
  exact k_throw (R := kR 6 1 6) (rest := []) (mc := 1) (ms := 6) (cells := 0) (slots := 0) (names := ["java/lang/RuntimeException", "java/lang/Exception"]) hx hb hst hml hl hown (by decide +kernel) (by decide +kernel) hts qc_X7_needState_x_X7_needState_0 qc_X7_needState_x_X7_needState_1 hX atS_X7_needState atB_246 atG_246 (hE.2.1 1 _ rfl) hE hP hD hS dX7_needState_4 dX7_needState_7 dX7_needState_8 dX7_needState_10 dX7_needState_13 hex (by decide) (Nat.le_of_ble_eq_true rfl) (Nat.le_of_ble_eq_true rfl) (Nat.le_of_ble_eq_true rfl) hlocks (Nat.le_of_ble_eq_true rfl) (Nat.le_of_ble_eq_true rfl)
set_option maxHeartbeats 4000000 in
set_option maxRecDepth 100000 in
theorem c_X7_needSlot (l : Launch) (D : va_G) (g : Nat → Nat) (sz : Nat) (slot : Int32) (hb9 : ¬ (f_X7_isWithin slot 0 1) = 0) : kMv l D g yX7_needSlot wsX7_needSlot 6 0 0 [.int slot] [] sz [] := by
  refine k_enter (nm := "needSlot") (own := RX7) (bytes := cX7_needSlot) (maxL := 1) (ret := none) (Qf := fun A => kQv D [] A) (by decide) rfl rfl rfl (Nat.le_of_ble_eq_true rfl) ?_
  rintro pp ee s mm below meth cc A ls args Q H locs hQ ⟨hx, hb, hr, hml, hown, hts, hlocks, hin⟩ hP hK hD hA hS hE hl
  have hl : lv_has ls 1 [(0, .int slot)] := hl
  refine lv_iload_n hx hb dX7_needSlot_0 rfl (lv_at hl 0 rfl) ?_
  refine lv_iconst (v := 0) hx hb dX7_needSlot_1 (by decide) ?_
  refine lv_iconst (v := 1) hx hb dX7_needSlot_2 (by decide) ?_
  refine k_ai (wr := []) (w2 := []) (va_runS (As := [.int slot, .int 0, .int 1]) (rest := []) ⟨hx, hb, hml, hown, hts⟩ (c_X7_isWithin l D g H.size slot 0 1) (va_cwS 3 hts gX7_needSlot_X7_isWithin rfl rfl rfl (by decide +kernel) (k_lvl (by omega) (by decide))) (kPS hP hD hK hS hA hE [] rfl (by decide)) rfl rfl hl.1 rfl (lv_room (Nat.le_of_ble_eq_true rfl)) dX7_needSlot_3 ⟨Nat.le_of_ble_eq_true rfl, Nat.le_of_ble_eq_true rfl⟩) hP hD hS hA [] [] [] rfl rfl (by decide) (by decide) rfl (by decide) (fun H locs hP hD hS => ?_)
  refine lv_if_ne (tgt := 19) hx hb dX7_needSlot_6 (by decide) (fun _ => ?_) (fun c_1 => absurd c_1 hb9)
  subst hQ
  exact k_rv hx hb hr hlocks hP hD hS dX7_needSlot_19 rfl
theorem qc_X7_needSlot_x_X7_needSlot_0 : Cond.classLink RX7 247 "java/lang/IndexOutOfBoundsException" ∈ wsX7_needSlot := (List.mem_cons_of_mem _ (List.mem_append_left _ (List.mem_of_getElem? (i := 0) rfl)))
theorem qc_X7_needSlot_x_X7_needSlot_1 : Cond.initialized "java/lang/IndexOutOfBoundsException" ∈ wsX7_needSlot := (List.mem_cons_of_mem _ (List.mem_append_left _ (List.mem_of_getElem? (i := 1) rfl)))
set_option maxHeartbeats 4000000 in
set_option maxRecDepth 100000 in
theorem c_X7_needSlot_x (l : Launch) (D : va_G) (g : Nat → Nat) (sz : Nat) (slot : Int32) (hst : l.stackTraces = false) (hb9 : (f_X7_isWithin slot 0 1) = 0) : kMx l D g yX7_needSlot wsX7_needSlot 6 1 6 [.int slot] [] sz "java/lang/IndexOutOfBoundsException" := by
  refine k_enterX (nm := "needSlot") (own := RX7) (bytes := cX7_needSlot) (maxL := 1) (ret := none) (by decide) rfl rfl rfl (Nat.le_of_ble_eq_true rfl) ?_
  rintro pp ee s mm below meth cc A ls args Q H locs hQ ⟨hx, hb, hr, hml, hown, hts, hlocks, hin⟩ hex hP hK hD hA hS hE hX hl
  have hl : lv_has ls 1 [(0, .int slot)] := hl
  refine lv_iload_n hx hb dX7_needSlot_0 rfl (lv_at hl 0 rfl) ?_
  refine lv_iconst (v := 0) hx hb dX7_needSlot_1 (by decide) ?_
  refine lv_iconst (v := 1) hx hb dX7_needSlot_2 (by decide) ?_
  refine k_ai (wr := []) (w2 := []) (va_runS (As := [.int slot, .int 0, .int 1]) (rest := []) ⟨hx, hb, hml, hown, hts⟩ (c_X7_isWithin l D g H.size slot 0 1) (va_cwS 3 hts gX7_needSlot_X7_isWithin rfl rfl rfl (by decide +kernel) (k_lvl (by omega) (by decide))) (kPS hP hD hK hS hA hE [] rfl (by decide)) rfl rfl hl.1 rfl (lv_room (Nat.le_of_ble_eq_true rfl)) dX7_needSlot_3 ⟨Nat.le_of_ble_eq_true rfl, Nat.le_of_ble_eq_true rfl⟩) hP hD hS hA [] [] [] rfl rfl (by decide) (by decide) rfl (by decide) (fun H locs hP hD hS => ?_)
  refine lv_if_ne (tgt := 19) hx hb dX7_needSlot_6 (by decide) (fun c_1 => absurd hb9 c_1) (fun _ => ?_)
  subst hQ
  exact k_throw (R := kR 6 1 6) (rest := []) (mc := 1) (ms := 6) (cells := 0) (slots := 0) (names := ["java/lang/RuntimeException", "java/lang/Exception"]) hx hb hst hml hl hown (by decide +kernel) (by decide +kernel) hts qc_X7_needSlot_x_X7_needSlot_0 qc_X7_needSlot_x_X7_needSlot_1 hX atS_X7_needSlot atB_251 atG_251 (hE.2.1 2 _ rfl) hE hP hD hS dX7_needSlot_9 dX7_needSlot_12 dX7_needSlot_13 dX7_needSlot_15 dX7_needSlot_18 hex (by decide) (Nat.le_of_ble_eq_true rfl) (Nat.le_of_ble_eq_true rfl) (Nat.le_of_ble_eq_true rfl) hlocks (Nat.le_of_ble_eq_true rfl) (Nat.le_of_ble_eq_true rfl)
theorem qX7_needPart_0 : Cond.fieldLink RX7 19 "BlameChains" "plan" "LBlameChains$Plan;" ∈ wsX7_needPart := (List.mem_cons_of_mem _ (List.mem_append_left _ (List.mem_append_left _ (List.mem_append_left _ (List.mem_of_getElem? (i := 2) rfl)))))
set_option maxHeartbeats 4000000 in
set_option maxRecDepth 100000 in
theorem c_X7_needPart (l : Launch) (D : va_G) (g : Nat → Nat) (x0 t0 p0 p0c p0t k0 sv0 fi0 c0 b0 p1 : Nat) (sz : Nat) (v : KPV) (pa : Int32) (hb9 : ¬ (f_X4_hasPart v.1 pa) = 0) : kMv l D g yX7_needPart wsX7_needPart 6 0 0 [.ref x0, .int pa] [(x0, .inr (7, [.ref t0, .ref p0, .ref p0c, .ref p0t, .ref k0, .ref sv0, .ref fi0])), (p0, .inr (4, [.ref c0, .ref b0, .ref p1, .int v.1, .int v.2.1, .int v.2.2.1, .int v.2.2.2.1, .int v.2.2.2.2.1, .int v.2.2.2.2.2.1]))] sz [(x0, .inr (7, [.ref t0, .ref p0, .ref p0c, .ref p0t, .ref k0, .ref sv0, .ref fi0])), (p0, .inr (4, [.ref c0, .ref b0, .ref p1, .int v.1, .int v.2.1, .int v.2.2.1, .int v.2.2.2.1, .int v.2.2.2.2.1, .int v.2.2.2.2.2.1]))] := by
  refine k_enter (nm := "needPart") (own := RX7) (bytes := cX7_needPart) (maxL := 2) (ret := none) (Qf := fun A => kQv D [(x0, .inr (7, [.ref t0, .ref p0, .ref p0c, .ref p0t, .ref k0, .ref sv0, .ref fi0])), (p0, .inr (4, [.ref c0, .ref b0, .ref p1, .int v.1, .int v.2.1, .int v.2.2.1, .int v.2.2.2.1, .int v.2.2.2.2.1, .int v.2.2.2.2.2.1]))] A) (by decide) rfl rfl rfl (Nat.le_of_ble_eq_true rfl) ?_
  rintro pp ee s mm below meth cc A ls args Q H locs hQ ⟨hx, hb, hr, hml, hown, hts, hlocks, hin⟩ hP hK hD hA hS hE hl
  have hl : lv_has ls 2 [(0, .ref x0), (1, .int pa)] := hl
  refine lv_aload_n hx hb dX7_needPart_0 rfl (lv_at hl 0 rfl) ?_
  refine va_get (D := D) (ci := 7) (v := .ref p0) (C := RX7) (T := TX7) (N := 7) hx hb hts (fun w h => (List.mem_cons_of_mem _ (List.mem_append_left _ (List.mem_append_left _ (List.mem_append_right _ h))))) hown hK hP 0 rfl rfl 1 (by decide) (hts _ qX7_needPart_0) (fun _ h9 => h9) rfl dX7_needPart_1 ?_
  refine lv_iload_n hx hb dX7_needPart_4 rfl (lv_at hl 1 rfl) ?_
  refine k_ai (wr := [(x0, .inr (7, [.ref t0, .ref p0, .ref p0c, .ref p0t, .ref k0, .ref sv0, .ref fi0]))]) (w2 := [(x0, .inr (7, [.ref t0, .ref p0, .ref p0c, .ref p0t, .ref k0, .ref sv0, .ref fi0])), (p0, .inr (4, [.ref c0, .ref b0, .ref p1, .int v.1, .int v.2.1, .int v.2.2.1, .int v.2.2.2.1, .int v.2.2.2.2.1, .int v.2.2.2.2.2.1]))]) (va_runV (As := [.int pa]) (rest := []) ⟨hx, hb, hml, hown, hts⟩ (c_X4_hasPart l D g p0 c0 b0 p1 H.size v.1 v.2.1 v.2.2.1 v.2.2.2.1 v.2.2.2.2.1 v.2.2.2.2.2.1 pa) (cwV 1 hts gX7_needPart_X4_hasPart rfl rfl rfl (by decide +kernel) (k_lvl (by omega) (by decide))) (kPV hP hD hK hS hA hE [1] rfl (by decide) 1 4 rfl rfl rfl) rfl rfl hl.1 rfl (lv_room (Nat.le_of_ble_eq_true rfl)) dX7_needPart_5 ⟨Nat.le_of_ble_eq_true rfl, Nat.le_of_ble_eq_true rfl⟩) hP hD hS hA [1] [0] [0, 1] rfl rfl (by decide) (by decide) rfl (by decide) (fun H locs hP hD hS => ?_)
  refine lv_if_ne (tgt := 21) hx hb dX7_needPart_8 (by decide) (fun _ => ?_) (fun c_1 => absurd c_1 hb9)
  subst hQ
  exact k_rv hx hb hr hlocks hP hD hS dX7_needPart_21 rfl
theorem qc_X7_needPart_x_X7_needPart_0 : Cond.fieldLink RX7 19 "BlameChains" "plan" "LBlameChains$Plan;" ∈ wsX7_needPart := (List.mem_cons_of_mem _ (List.mem_append_left _ (List.mem_append_left _ (List.mem_append_left _ (List.mem_of_getElem? (i := 2) rfl)))))
theorem qc_X7_needPart_x_X7_needPart_1 : Cond.classLink RX7 247 "java/lang/IndexOutOfBoundsException" ∈ wsX7_needPart := (List.mem_cons_of_mem _ (List.mem_append_left _ (List.mem_append_left _ (List.mem_append_left _ (List.mem_of_getElem? (i := 0) rfl)))))
theorem qc_X7_needPart_x_X7_needPart_2 : Cond.initialized "java/lang/IndexOutOfBoundsException" ∈ wsX7_needPart := (List.mem_cons_of_mem _ (List.mem_append_left _ (List.mem_append_left _ (List.mem_append_left _ (List.mem_of_getElem? (i := 1) rfl)))))
set_option maxHeartbeats 4000000 in
set_option maxRecDepth 100000 in
theorem c_X7_needPart_x (l : Launch) (D : va_G) (g : Nat → Nat) (x0 t0 p0 p0c p0t k0 sv0 fi0 c0 b0 p1 : Nat) (sz : Nat) (v : KPV) (pa : Int32) (hst : l.stackTraces = false) (hb9 : (f_X4_hasPart v.1 pa) = 0) : kMx l D g yX7_needPart wsX7_needPart 6 1 6 [.ref x0, .int pa] [(x0, .inr (7, [.ref t0, .ref p0, .ref p0c, .ref p0t, .ref k0, .ref sv0, .ref fi0])), (p0, .inr (4, [.ref c0, .ref b0, .ref p1, .int v.1, .int v.2.1, .int v.2.2.1, .int v.2.2.2.1, .int v.2.2.2.2.1, .int v.2.2.2.2.2.1]))] sz "java/lang/IndexOutOfBoundsException" := by
  refine k_enterX (nm := "needPart") (own := RX7) (bytes := cX7_needPart) (maxL := 2) (ret := none) (by decide) rfl rfl rfl (Nat.le_of_ble_eq_true rfl) ?_
  rintro pp ee s mm below meth cc A ls args Q H locs hQ ⟨hx, hb, hr, hml, hown, hts, hlocks, hin⟩ hex hP hK hD hA hS hE hX hl
  have hl : lv_has ls 2 [(0, .ref x0), (1, .int pa)] := hl
  refine lv_aload_n hx hb dX7_needPart_0 rfl (lv_at hl 0 rfl) ?_
  refine va_get (D := D) (ci := 7) (v := .ref p0) (C := RX7) (T := TX7) (N := 7) hx hb hts (fun w h => (List.mem_cons_of_mem _ (List.mem_append_left _ (List.mem_append_left _ (List.mem_append_right _ h))))) hown hK hP 0 rfl rfl 1 (by decide) (hts _ qc_X7_needPart_x_X7_needPart_0) (fun _ h9 => h9) rfl dX7_needPart_1 ?_
  refine lv_iload_n hx hb dX7_needPart_4 rfl (lv_at hl 1 rfl) ?_
  refine k_ai (wr := [(x0, .inr (7, [.ref t0, .ref p0, .ref p0c, .ref p0t, .ref k0, .ref sv0, .ref fi0]))]) (w2 := [(x0, .inr (7, [.ref t0, .ref p0, .ref p0c, .ref p0t, .ref k0, .ref sv0, .ref fi0])), (p0, .inr (4, [.ref c0, .ref b0, .ref p1, .int v.1, .int v.2.1, .int v.2.2.1, .int v.2.2.2.1, .int v.2.2.2.2.1, .int v.2.2.2.2.2.1]))]) (va_runV (As := [.int pa]) (rest := []) ⟨hx, hb, hml, hown, hts⟩ (c_X4_hasPart l D g p0 c0 b0 p1 H.size v.1 v.2.1 v.2.2.1 v.2.2.2.1 v.2.2.2.2.1 v.2.2.2.2.2.1 pa) (cwV 1 hts gX7_needPart_X4_hasPart rfl rfl rfl (by decide +kernel) (k_lvl (by omega) (by decide))) (kPV hP hD hK hS hA hE [1] rfl (by decide) 1 4 rfl rfl rfl) rfl rfl hl.1 rfl (lv_room (Nat.le_of_ble_eq_true rfl)) dX7_needPart_5 ⟨Nat.le_of_ble_eq_true rfl, Nat.le_of_ble_eq_true rfl⟩) hP hD hS hA [1] [0] [0, 1] rfl rfl (by decide) (by decide) rfl (by decide) (fun H locs hP hD hS => ?_)
  refine lv_if_ne (tgt := 21) hx hb dX7_needPart_8 (by decide) (fun c_1 => absurd hb9 c_1) (fun _ => ?_)
  subst hQ
  exact k_throw (R := kR 6 1 6) (rest := []) (mc := 1) (ms := 6) (cells := 0) (slots := 0) (names := ["java/lang/RuntimeException", "java/lang/Exception"]) hx hb hst hml hl hown (by decide +kernel) (by decide +kernel) hts qc_X7_needPart_x_X7_needPart_1 qc_X7_needPart_x_X7_needPart_2 hX atS_X7_needPart atB_251 atG_251 (hE.2.1 3 _ rfl) hE hP hD hS dX7_needPart_11 dX7_needPart_14 dX7_needPart_15 dX7_needPart_17 dX7_needPart_20 hex (by decide) (Nat.le_of_ble_eq_true rfl) (Nat.le_of_ble_eq_true rfl) (Nat.le_of_ble_eq_true rfl) hlocks (Nat.le_of_ble_eq_true rfl) (Nat.le_of_ble_eq_true rfl)
theorem qX7_needContract_0 : Cond.fieldLink RX7 19 "BlameChains" "plan" "LBlameChains$Plan;" ∈ wsX7_needContract := (List.mem_cons_of_mem _ (List.mem_append_left _ (List.mem_append_left _ (List.mem_append_left _ (List.mem_append_left _ (List.mem_of_getElem? (i := 2) rfl))))))
set_option maxHeartbeats 4000000 in
set_option maxRecDepth 100000 in
theorem c_X7_needContract (l : Launch) (D : va_G) (g : Nat → Nat) (x0 t0 p0 p0c p0t k0 sv0 fi0 c0 b0 p1 c1 : Nat) (sz : Nat) (v : KPV) (caller : Int32) (pa : Int32) (hb9 : ¬ (f_X1_isThere (v.2.2.2.2.2.2.2.1) caller pa) = 0) : kMv l D g yX7_needContract wsX7_needContract 6 0 0 [.ref x0, .int caller, .int pa] [(x0, .inr (7, [.ref t0, .ref p0, .ref p0c, .ref p0t, .ref k0, .ref sv0, .ref fi0])), (p0, .inr (4, [.ref c0, .ref b0, .ref p1, .int v.1, .int v.2.1, .int v.2.2.1, .int v.2.2.2.1, .int v.2.2.2.2.1, .int v.2.2.2.2.2.1])), (c0, .inr (1, [.ref c1])), (c1, .inl (g 0, 480, .inl (v.2.2.2.2.2.2.2.1)))] sz [(x0, .inr (7, [.ref t0, .ref p0, .ref p0c, .ref p0t, .ref k0, .ref sv0, .ref fi0])), (p0, .inr (4, [.ref c0, .ref b0, .ref p1, .int v.1, .int v.2.1, .int v.2.2.1, .int v.2.2.2.1, .int v.2.2.2.2.1, .int v.2.2.2.2.2.1])), (c0, .inr (1, [.ref c1])), (c1, .inl (g 0, 480, .inl (v.2.2.2.2.2.2.2.1)))] := by
  refine k_enter (nm := "needContract") (own := RX7) (bytes := cX7_needContract) (maxL := 3) (ret := none) (Qf := fun A => kQv D [(x0, .inr (7, [.ref t0, .ref p0, .ref p0c, .ref p0t, .ref k0, .ref sv0, .ref fi0])), (p0, .inr (4, [.ref c0, .ref b0, .ref p1, .int v.1, .int v.2.1, .int v.2.2.1, .int v.2.2.2.1, .int v.2.2.2.2.1, .int v.2.2.2.2.2.1])), (c0, .inr (1, [.ref c1])), (c1, .inl (g 0, 480, .inl (v.2.2.2.2.2.2.2.1)))] A) (by decide) rfl rfl rfl (Nat.le_of_ble_eq_true rfl) ?_
  rintro pp ee s mm below meth cc A ls args Q H locs hQ ⟨hx, hb, hr, hml, hown, hts, hlocks, hin⟩ hP hK hD hA hS hE hl
  have hl : lv_has ls 3 [(0, .ref x0), (1, .int caller), (2, .int pa)] := hl
  refine lv_aload_n hx hb dX7_needContract_0 rfl (lv_at hl 0 rfl) ?_
  refine va_get (D := D) (ci := 7) (v := .ref p0) (C := RX7) (T := TX7) (N := 7) hx hb hts (fun w h => (List.mem_cons_of_mem _ (List.mem_append_left _ (List.mem_append_left _ (List.mem_append_left _ (List.mem_append_right _ h)))))) hown hK hP 0 rfl rfl 1 (by decide) (hts _ qX7_needContract_0) (fun _ h9 => h9) rfl dX7_needContract_1 ?_
  refine va_getN (D := D) (ci := 4) (v := .ref c0) (C := RX4) (T := TX4) (N := 9) hx hb hts (fun w h => (List.mem_cons_of_mem _ (List.mem_append_left _ (List.mem_append_left _ (List.mem_append_right _ h))))) hown hK hP 1 rfl rfl 0 (by decide) (va_Nw.use rfl (hE.1.1 2 _ rfl)) (fun _ h9 => h9) rfl dX7_needContract_4 ?_
  refine lv_iload_n hx hb dX7_needContract_7 rfl (lv_at hl 1 rfl) ?_
  refine lv_iload_n hx hb dX7_needContract_8 rfl (lv_at hl 2 rfl) ?_
  refine k_ai (wr := [(x0, .inr (7, [.ref t0, .ref p0, .ref p0c, .ref p0t, .ref k0, .ref sv0, .ref fi0])), (p0, .inr (4, [.ref c0, .ref b0, .ref p1, .int v.1, .int v.2.1, .int v.2.2.1, .int v.2.2.2.1, .int v.2.2.2.2.1, .int v.2.2.2.2.2.1]))]) (w2 := [(x0, .inr (7, [.ref t0, .ref p0, .ref p0c, .ref p0t, .ref k0, .ref sv0, .ref fi0])), (p0, .inr (4, [.ref c0, .ref b0, .ref p1, .int v.1, .int v.2.1, .int v.2.2.1, .int v.2.2.2.1, .int v.2.2.2.2.1, .int v.2.2.2.2.2.1])), (c0, .inr (1, [.ref c1])), (c1, .inl (g 0, 480, .inl (v.2.2.2.2.2.2.2.1)))]) (va_runV (As := [.int caller, .int pa]) (rest := []) ⟨hx, hb, hml, hown, hts⟩ (c_X1_isThere l D g c0 c1 H.size (v.2.2.2.2.2.2.2.1) caller pa) (cwV 2 hts gX7_needContract_X1_isThere rfl rfl rfl (by decide +kernel) (k_lvl (by omega) (by decide))) (kPV hP hD hK hS hA hE [2, 3] rfl (by decide) 2 1 rfl rfl rfl) rfl rfl hl.1 rfl (lv_room (Nat.le_of_ble_eq_true rfl)) dX7_needContract_9 ⟨Nat.le_of_ble_eq_true rfl, Nat.le_of_ble_eq_true rfl⟩) hP hD hS hA [2, 3] [0, 1] [0, 1, 2, 3] rfl rfl (by decide) (by decide) rfl (by decide) (fun H locs hP hD hS => ?_)
  refine lv_if_ne (tgt := 26) hx hb dX7_needContract_12 (by decide) (fun _ => ?_) (fun c_1 => absurd c_1 hb9)
  subst hQ
  exact k_rv hx hb hr hlocks hP hD hS dX7_needContract_26 rfl
theorem qc_X7_needContract_x_X7_needContract_0 : Cond.fieldLink RX7 19 "BlameChains" "plan" "LBlameChains$Plan;" ∈ wsX7_needContract := (List.mem_cons_of_mem _ (List.mem_append_left _ (List.mem_append_left _ (List.mem_append_left _ (List.mem_append_left _ (List.mem_of_getElem? (i := 2) rfl))))))
theorem qc_X7_needContract_x_X7_needContract_1 : Cond.classLink RX7 247 "java/lang/IndexOutOfBoundsException" ∈ wsX7_needContract := (List.mem_cons_of_mem _ (List.mem_append_left _ (List.mem_append_left _ (List.mem_append_left _ (List.mem_append_left _ (List.mem_of_getElem? (i := 0) rfl))))))
theorem qc_X7_needContract_x_X7_needContract_2 : Cond.initialized "java/lang/IndexOutOfBoundsException" ∈ wsX7_needContract := (List.mem_cons_of_mem _ (List.mem_append_left _ (List.mem_append_left _ (List.mem_append_left _ (List.mem_append_left _ (List.mem_of_getElem? (i := 1) rfl))))))
set_option maxHeartbeats 4000000 in
set_option maxRecDepth 100000 in
theorem c_X7_needContract_x (l : Launch) (D : va_G) (g : Nat → Nat) (x0 t0 p0 p0c p0t k0 sv0 fi0 c0 b0 p1 c1 : Nat) (sz : Nat) (v : KPV) (caller : Int32) (pa : Int32) (hst : l.stackTraces = false) (hb9 : (f_X1_isThere (v.2.2.2.2.2.2.2.1) caller pa) = 0) : kMx l D g yX7_needContract wsX7_needContract 6 1 6 [.ref x0, .int caller, .int pa] [(x0, .inr (7, [.ref t0, .ref p0, .ref p0c, .ref p0t, .ref k0, .ref sv0, .ref fi0])), (p0, .inr (4, [.ref c0, .ref b0, .ref p1, .int v.1, .int v.2.1, .int v.2.2.1, .int v.2.2.2.1, .int v.2.2.2.2.1, .int v.2.2.2.2.2.1])), (c0, .inr (1, [.ref c1])), (c1, .inl (g 0, 480, .inl (v.2.2.2.2.2.2.2.1)))] sz "java/lang/IndexOutOfBoundsException" := by
  refine k_enterX (nm := "needContract") (own := RX7) (bytes := cX7_needContract) (maxL := 3) (ret := none) (by decide) rfl rfl rfl (Nat.le_of_ble_eq_true rfl) ?_
  rintro pp ee s mm below meth cc A ls args Q H locs hQ ⟨hx, hb, hr, hml, hown, hts, hlocks, hin⟩ hex hP hK hD hA hS hE hX hl
  have hl : lv_has ls 3 [(0, .ref x0), (1, .int caller), (2, .int pa)] := hl
  refine lv_aload_n hx hb dX7_needContract_0 rfl (lv_at hl 0 rfl) ?_
  refine va_get (D := D) (ci := 7) (v := .ref p0) (C := RX7) (T := TX7) (N := 7) hx hb hts (fun w h => (List.mem_cons_of_mem _ (List.mem_append_left _ (List.mem_append_left _ (List.mem_append_left _ (List.mem_append_right _ h)))))) hown hK hP 0 rfl rfl 1 (by decide) (hts _ qc_X7_needContract_x_X7_needContract_0) (fun _ h9 => h9) rfl dX7_needContract_1 ?_
  refine va_getN (D := D) (ci := 4) (v := .ref c0) (C := RX4) (T := TX4) (N := 9) hx hb hts (fun w h => (List.mem_cons_of_mem _ (List.mem_append_left _ (List.mem_append_left _ (List.mem_append_right _ h))))) hown hK hP 1 rfl rfl 0 (by decide) (va_Nw.use rfl (hE.1.1 2 _ rfl)) (fun _ h9 => h9) rfl dX7_needContract_4 ?_
  refine lv_iload_n hx hb dX7_needContract_7 rfl (lv_at hl 1 rfl) ?_
  refine lv_iload_n hx hb dX7_needContract_8 rfl (lv_at hl 2 rfl) ?_
  refine k_ai (wr := [(x0, .inr (7, [.ref t0, .ref p0, .ref p0c, .ref p0t, .ref k0, .ref sv0, .ref fi0])), (p0, .inr (4, [.ref c0, .ref b0, .ref p1, .int v.1, .int v.2.1, .int v.2.2.1, .int v.2.2.2.1, .int v.2.2.2.2.1, .int v.2.2.2.2.2.1]))]) (w2 := [(x0, .inr (7, [.ref t0, .ref p0, .ref p0c, .ref p0t, .ref k0, .ref sv0, .ref fi0])), (p0, .inr (4, [.ref c0, .ref b0, .ref p1, .int v.1, .int v.2.1, .int v.2.2.1, .int v.2.2.2.1, .int v.2.2.2.2.1, .int v.2.2.2.2.2.1])), (c0, .inr (1, [.ref c1])), (c1, .inl (g 0, 480, .inl (v.2.2.2.2.2.2.2.1)))]) (va_runV (As := [.int caller, .int pa]) (rest := []) ⟨hx, hb, hml, hown, hts⟩ (c_X1_isThere l D g c0 c1 H.size (v.2.2.2.2.2.2.2.1) caller pa) (cwV 2 hts gX7_needContract_X1_isThere rfl rfl rfl (by decide +kernel) (k_lvl (by omega) (by decide))) (kPV hP hD hK hS hA hE [2, 3] rfl (by decide) 2 1 rfl rfl rfl) rfl rfl hl.1 rfl (lv_room (Nat.le_of_ble_eq_true rfl)) dX7_needContract_9 ⟨Nat.le_of_ble_eq_true rfl, Nat.le_of_ble_eq_true rfl⟩) hP hD hS hA [2, 3] [0, 1] [0, 1, 2, 3] rfl rfl (by decide) (by decide) rfl (by decide) (fun H locs hP hD hS => ?_)
  refine lv_if_ne (tgt := 26) hx hb dX7_needContract_12 (by decide) (fun c_1 => absurd hb9 c_1) (fun _ => ?_)
  subst hQ
  exact k_throwW (R := kR 6 1 6) (rest := []) (mc := 1) (ms := 6) (cells := 0) (slots := 0) (names := ["java/lang/RuntimeException", "java/lang/Exception"]) hx hb hst hml hl hown (by decide +kernel) (by decide +kernel) hts qc_X7_needContract_x_X7_needContract_1 qc_X7_needContract_x_X7_needContract_2 hX atS_X7_needContract atB_251 atG_251 (hE.2.1 4 _ rfl) hE hP hD hS dX7_needContract_15 dX7_needContract_18 dX7_needContract_19 dX7_needContract_22 dX7_needContract_25 hex (by decide) (Nat.le_of_ble_eq_true rfl) (Nat.le_of_ble_eq_true rfl) (Nat.le_of_ble_eq_true rfl) hlocks (Nat.le_of_ble_eq_true rfl) (Nat.le_of_ble_eq_true rfl)
end
