-- MODULE: contracts (X1)
theorem k_place (a b : Nat) : ((nI a * 10 + nI b) * 4 : Int32) = nI ((a * 10 + b) * 4) := by
  rw [show (10 : Int32) = nI 10 from rfl, show (4 : Int32) = nI 4 from rfl, pk_mul, nI_add, pk_mul]
theorem k_nI4 {x M : Int32} {n : Nat} (hM : M.toInt = n) (h0 : ¬ x < 0) (h : ¬ M ≤ x) : ∃ j : Nat, j < n ∧ x = nI j := by
  obtain ⟨j, hj, e⟩ := nI_of h0
  refine ⟨j, ?_, e⟩
  have h1 := Int32.lt_iff_toInt_lt.mp (Int32.not_le.mp h)
  rw [e, nI_toInt hj, hM] at h1
  omega
def f_X1_place (row : Int32) (p : Int32) : Int32 :=
  (((row * 10) + p) * 4)
set_option maxHeartbeats 4000000 in
set_option maxRecDepth 100000 in
theorem c_X1_place (l : Launch) (D : va_G) (g : Nat → Nat) (sz : Nat) (row : Int32) (p : Int32) : kMi l D g yX1_place wsX1_place 1 0 0 [.int row, .int p] [] sz (f_X1_place row p) [] := by
  refine k_enter (nm := "place") (own := RX1) (bytes := cX1_place) (maxL := 2) (ret := (some .int)) (Qf := fun A => kQi D [] A (f_X1_place row p)) (by decide) rfl rfl rfl (Nat.le_of_ble_eq_true rfl) ?_
  rintro pp ee s mm below meth cc A ls args Q H locs hQ ⟨hx, hb, hr, hml, hown, hts, hlocks, hin⟩ hP hK hD hA hS hE hl
  have hl : lv_has ls 2 [(0, .int row), (1, .int p)] := hl
  refine lv_iload_n hx hb dX1_place_0 rfl (lv_at hl 0 rfl) ?_
  refine lv_bipush (v := 10) hx hb dX1_place_1 (by decide) ?_
  refine lv_imul hx hb dX1_place_3 ?_
  refine lv_iload_n hx hb dX1_place_4 rfl (lv_at hl 1 rfl) ?_
  refine lv_iadd hx hb dX1_place_5 ?_
  refine lv_iconst (v := 4) hx hb dX1_place_6 (by decide) ?_
  refine lv_imul hx hb dX1_place_7 ?_
  have hE2 : (f_X1_place row p) = (((row * 10) + p) * 4) := by
    exact rfl
  subst hQ
  exact k_ri hx hb hr hlocks hP hD hS dX1_place_8 (hE2.symm) (rfl)
def f_X1_placeFor (caller : Int32) (p : Int32) : Int32 :=
  if caller = (-10001) then
    if p < 0 then
      (-10000)
    else
      if 10 ≤ p then
        (-10000)
      else
        (f_X1_place 11 p)
  else
    if caller = (-10000) then
      if p < 0 then
        (-10000)
      else
        if 10 ≤ p then
          (-10000)
        else
          (f_X1_place 10 p)
    else
      if caller ≤ p then
        (-10000)
      else
        if caller < 10 then
          if p < 0 then
            (-10000)
          else
            if 10 ≤ p then
              (-10000)
            else
              (f_X1_place caller p)
        else
          (-10000)
set_option maxHeartbeats 4000000 in
set_option maxRecDepth 100000 in
theorem c_X1_placeFor (l : Launch) (D : va_G) (g : Nat → Nat) (sz : Nat) (caller : Int32) (p : Int32) : kMi l D g yX1_placeFor wsX1_placeFor 2 0 0 [.int caller, .int p] [] sz (f_X1_placeFor caller p) [] := by
  refine k_enter (nm := "placeFor") (own := RX1) (bytes := cX1_placeFor) (maxL := 3) (ret := (some .int)) (Qf := fun A => kQi D [] A (f_X1_placeFor caller p)) (by decide) rfl rfl rfl (Nat.le_of_ble_eq_true rfl) ?_
  rintro pp ee s mm below meth cc A ls args Q H locs hQ ⟨hx, hb, hr, hml, hown, hts, hlocks, hin⟩ hP hK hD hA hS hE hl
  have hl : lv_has ls 3 [(0, .int caller), (1, .int p)] := hl
  refine lv_iload_n hx hb dX1_placeFor_0 rfl (lv_at hl 0 rfl) ?_
  refine lv_istore_n (lv' := [(2, .int caller), (0, .int caller), (1, .int p)]) hx hb dX1_placeFor_1 rfl hl (by decide) rfl (fun ls hl => ?_)
  refine lv_iload_n hx hb dX1_placeFor_2 rfl (lv_at hl 1 rfl) ?_
  refine lv_sipush (v := (-10001)) hx hb dX1_placeFor_3 (by decide) ?_
  refine lv_icmp_ne (tgt := 15) hx hb dX1_placeFor_6 (by decide) (fun c_1 => ?_) (fun c_1 => ?_)
  · refine lv_iload_n hx hb dX1_placeFor_15 rfl (lv_at hl 1 rfl) ?_
    refine lv_sipush (v := (-10000)) hx hb dX1_placeFor_16 (by decide) ?_
    refine lv_icmp_ne (tgt := 28) hx hb dX1_placeFor_19 (by decide) (fun c_2 => ?_) (fun c_2 => ?_)
    · refine lv_iload_n hx hb dX1_placeFor_28 rfl (lv_at hl 1 rfl) ?_
      refine lv_iload_n hx hb dX1_placeFor_29 rfl (lv_at hl 2 rfl) ?_
      refine lv_icmp_le (tgt := 39) hx hb dX1_placeFor_30 (by decide) (fun c_3 => ?_) (fun c_3 => ?_)
      · refine lv_sipush (v := (-10000)) hx hb dX1_placeFor_39 (by decide) ?_
        have hE2 : (f_X1_placeFor caller p) = (-10000) := by
          exact (if_neg c_1).trans ((if_neg c_2).trans ((if_pos c_3).trans (rfl)))
        subst hQ
        exact k_ri hx hb hr hlocks hP hD hS dX1_placeFor_42 (hE2.symm) (rfl)
      · refine lv_iload_n hx hb dX1_placeFor_33 rfl (lv_at hl 1 rfl) ?_
        refine lv_bipush (v := 10) hx hb dX1_placeFor_34 (by decide) ?_
        refine lv_icmp_lt (tgt := 43) hx hb dX1_placeFor_36 (by decide) (fun c_4 => ?_) (fun c_4 => ?_)
        · refine lv_iload_n hx hb dX1_placeFor_43 rfl (lv_at hl 2 rfl) ?_
          refine lv_if_lt (tgt := 61) hx hb dX1_placeFor_44 (by decide) (fun c_5 => ?_) (fun c_5 => ?_)
          · refine lv_sipush (v := (-10000)) hx hb dX1_placeFor_61 (by decide) ?_
            have hE2 : (f_X1_placeFor caller p) = (-10000) := by
              exact (if_neg c_1).trans ((if_neg c_2).trans ((if_neg c_3).trans ((if_pos c_4).trans ((if_pos c_5).trans (rfl)))))
            subst hQ
            exact k_ri hx hb hr hlocks hP hD hS dX1_placeFor_64 (hE2.symm) (rfl)
          · refine lv_iload_n hx hb dX1_placeFor_47 rfl (lv_at hl 2 rfl) ?_
            refine lv_bipush (v := 10) hx hb dX1_placeFor_48 (by decide) ?_
            refine lv_icmp_ge (tgt := 61) hx hb dX1_placeFor_50 (by decide) (fun c_6 => ?_) (fun c_6 => ?_)
            · refine lv_sipush (v := (-10000)) hx hb dX1_placeFor_61 (by decide) ?_
              have hE2 : (f_X1_placeFor caller p) = (-10000) := by
                exact (if_neg c_1).trans ((if_neg c_2).trans ((if_neg c_3).trans ((if_pos c_4).trans ((if_neg c_5).trans ((if_pos c_6).trans (rfl))))))
              subst hQ
              exact k_ri hx hb hr hlocks hP hD hS dX1_placeFor_64 (hE2.symm) (rfl)
            · refine lv_iload_n hx hb dX1_placeFor_53 rfl (lv_at hl 0 rfl) ?_
              refine lv_iload_n hx hb dX1_placeFor_54 rfl (lv_at hl 2 rfl) ?_
              refine k_ai (wr := []) (w2 := []) (va_runS (As := [.int caller, .int p]) (rest := []) ⟨hx, hb, hml, hown, hts⟩ (c_X1_place l D g H.size caller p) (va_cwS 2 hts gX1_placeFor_X1_place rfl rfl rfl (by decide +kernel) (k_lvl (by omega) (by decide))) (kPS hP hD hK hS hA hE [] rfl (by decide)) rfl rfl hl.1 rfl (lv_room (Nat.le_of_ble_eq_true rfl)) dX1_placeFor_55 ⟨Nat.le_of_ble_eq_true rfl, Nat.le_of_ble_eq_true rfl⟩) hP hD hS hA [] [] [] rfl rfl (by decide) (by decide) rfl (by decide) (fun H locs hP hD hS => ?_)
              refine lv_goto (tgt := 64) hx hb dX1_placeFor_58 (by decide) ?_
              have hE2 : (f_X1_placeFor caller p) = (f_X1_place caller p) := by
                exact (if_neg c_1).trans ((if_neg c_2).trans ((if_neg c_3).trans ((if_pos c_4).trans ((if_neg c_5).trans ((if_neg c_6).trans (rfl))))))
              subst hQ
              exact k_ri hx hb hr hlocks hP hD hS dX1_placeFor_64 (hE2.symm) (rfl)
        · refine lv_sipush (v := (-10000)) hx hb dX1_placeFor_39 (by decide) ?_
          have hE2 : (f_X1_placeFor caller p) = (-10000) := by
            exact (if_neg c_1).trans ((if_neg c_2).trans ((if_neg c_3).trans ((if_neg c_4).trans (rfl))))
          subst hQ
          exact k_ri hx hb hr hlocks hP hD hS dX1_placeFor_42 (hE2.symm) (rfl)
    · refine lv_bipush (v := 10) hx hb dX1_placeFor_22 (by decide) ?_
      refine lv_istore_n (lv' := [(2, .int 10), (0, .int caller), (1, .int p)]) hx hb dX1_placeFor_24 rfl hl (by decide) rfl (fun ls hl => ?_)
      refine lv_goto (tgt := 43) hx hb dX1_placeFor_25 (by decide) ?_
      refine lv_iload_n hx hb dX1_placeFor_43 rfl (lv_at hl 2 rfl) ?_
      refine lv_if_lt (tgt := 61) hx hb dX1_placeFor_44 (by decide) (fun c_7 => ?_) (fun c_7 => ?_)
      · refine lv_sipush (v := (-10000)) hx hb dX1_placeFor_61 (by decide) ?_
        have hE2 : (f_X1_placeFor caller p) = (-10000) := by
          exact (if_neg c_1).trans ((if_pos c_2).trans ((if_pos c_7).trans (rfl)))
        subst hQ
        exact k_ri hx hb hr hlocks hP hD hS dX1_placeFor_64 (hE2.symm) (rfl)
      · refine lv_iload_n hx hb dX1_placeFor_47 rfl (lv_at hl 2 rfl) ?_
        refine lv_bipush (v := 10) hx hb dX1_placeFor_48 (by decide) ?_
        refine lv_icmp_ge (tgt := 61) hx hb dX1_placeFor_50 (by decide) (fun c_8 => ?_) (fun c_8 => ?_)
        · refine lv_sipush (v := (-10000)) hx hb dX1_placeFor_61 (by decide) ?_
          have hE2 : (f_X1_placeFor caller p) = (-10000) := by
            exact (if_neg c_1).trans ((if_pos c_2).trans ((if_neg c_7).trans ((if_pos c_8).trans (rfl))))
          subst hQ
          exact k_ri hx hb hr hlocks hP hD hS dX1_placeFor_64 (hE2.symm) (rfl)
        · refine lv_iload_n hx hb dX1_placeFor_53 rfl (lv_at hl 0 rfl) ?_
          refine lv_iload_n hx hb dX1_placeFor_54 rfl (lv_at hl 2 rfl) ?_
          refine k_ai (wr := []) (w2 := []) (va_runS (As := [.int 10, .int p]) (rest := []) ⟨hx, hb, hml, hown, hts⟩ (c_X1_place l D g H.size 10 p) (va_cwS 2 hts gX1_placeFor_X1_place rfl rfl rfl (by decide +kernel) (k_lvl (by omega) (by decide))) (kPS hP hD hK hS hA hE [] rfl (by decide)) rfl rfl hl.1 rfl (lv_room (Nat.le_of_ble_eq_true rfl)) dX1_placeFor_55 ⟨Nat.le_of_ble_eq_true rfl, Nat.le_of_ble_eq_true rfl⟩) hP hD hS hA [] [] [] rfl rfl (by decide) (by decide) rfl (by decide) (fun H locs hP hD hS => ?_)
          refine lv_goto (tgt := 64) hx hb dX1_placeFor_58 (by decide) ?_
          have hE2 : (f_X1_placeFor caller p) = (f_X1_place 10 p) := by
            exact (if_neg c_1).trans ((if_pos c_2).trans ((if_neg c_7).trans ((if_neg c_8).trans (rfl))))
          subst hQ
          exact k_ri hx hb hr hlocks hP hD hS dX1_placeFor_64 (hE2.symm) (rfl)
  · refine lv_bipush (v := 11) hx hb dX1_placeFor_9 (by decide) ?_
    refine lv_istore_n (lv' := [(2, .int 11), (0, .int caller), (1, .int p)]) hx hb dX1_placeFor_11 rfl hl (by decide) rfl (fun ls hl => ?_)
    refine lv_goto (tgt := 43) hx hb dX1_placeFor_12 (by decide) ?_
    refine lv_iload_n hx hb dX1_placeFor_43 rfl (lv_at hl 2 rfl) ?_
    refine lv_if_lt (tgt := 61) hx hb dX1_placeFor_44 (by decide) (fun c_9 => ?_) (fun c_9 => ?_)
    · refine lv_sipush (v := (-10000)) hx hb dX1_placeFor_61 (by decide) ?_
      have hE2 : (f_X1_placeFor caller p) = (-10000) := by
        exact (if_pos c_1).trans ((if_pos c_9).trans (rfl))
      subst hQ
      exact k_ri hx hb hr hlocks hP hD hS dX1_placeFor_64 (hE2.symm) (rfl)
    · refine lv_iload_n hx hb dX1_placeFor_47 rfl (lv_at hl 2 rfl) ?_
      refine lv_bipush (v := 10) hx hb dX1_placeFor_48 (by decide) ?_
      refine lv_icmp_ge (tgt := 61) hx hb dX1_placeFor_50 (by decide) (fun c_10 => ?_) (fun c_10 => ?_)
      · refine lv_sipush (v := (-10000)) hx hb dX1_placeFor_61 (by decide) ?_
        have hE2 : (f_X1_placeFor caller p) = (-10000) := by
          exact (if_pos c_1).trans ((if_neg c_9).trans ((if_pos c_10).trans (rfl)))
        subst hQ
        exact k_ri hx hb hr hlocks hP hD hS dX1_placeFor_64 (hE2.symm) (rfl)
      · refine lv_iload_n hx hb dX1_placeFor_53 rfl (lv_at hl 0 rfl) ?_
        refine lv_iload_n hx hb dX1_placeFor_54 rfl (lv_at hl 2 rfl) ?_
        refine k_ai (wr := []) (w2 := []) (va_runS (As := [.int 11, .int p]) (rest := []) ⟨hx, hb, hml, hown, hts⟩ (c_X1_place l D g H.size 11 p) (va_cwS 2 hts gX1_placeFor_X1_place rfl rfl rfl (by decide +kernel) (k_lvl (by omega) (by decide))) (kPS hP hD hK hS hA hE [] rfl (by decide)) rfl rfl hl.1 rfl (lv_room (Nat.le_of_ble_eq_true rfl)) dX1_placeFor_55 ⟨Nat.le_of_ble_eq_true rfl, Nat.le_of_ble_eq_true rfl⟩) hP hD hS hA [] [] [] rfl rfl (by decide) (by decide) rfl (by decide) (fun H locs hP hD hS => ?_)
        refine lv_goto (tgt := 64) hx hb dX1_placeFor_58 (by decide) ?_
        have hE2 : (f_X1_placeFor caller p) = (f_X1_place 11 p) := by
          exact (if_pos c_1).trans ((if_neg c_9).trans ((if_neg c_10).trans (rfl)))
        subst hQ
        exact k_ri hx hb hr hlocks hP hD hS dX1_placeFor_64 (hE2.symm) (rfl)
/-- where a contract's bounds may stand -/
theorem f_X1_placeFor_ok (caller p : Int32) : f_X1_placeFor caller p = -10000 ∨ ∃ a b : Nat, a < 12 ∧ b < 10 ∧ p = nI b ∧ f_X1_placeFor caller p = nI ((a * 10 + b) * 4) ∧ (caller = -10001 ∧ a = 11 ∨ caller = -10000 ∧ a = 10 ∨ caller = nI a ∧ b < a ∧ a < 10) := by
  unfold f_X1_placeFor
  by_cases h5 : p < 0
  · left
    simp only [if_pos h5, ite_self]
  by_cases h6 : 10 ≤ p
  · left
    simp only [if_pos h6, ite_self]
  obtain ⟨b, hb, e⟩ := k_nI4 (M := 10) (n := 10) (by decide) h5 h6
  simp only [if_neg h5, if_neg h6]
  by_cases h1 : caller = -10001
  · right
    refine ⟨11, b, by omega, hb, e, ?_, Or.inl ⟨h1, rfl⟩⟩
    rw [if_pos h1, e]
    exact k_place 11 b
  rw [if_neg h1]
  by_cases h2 : caller = -10000
  · right
    refine ⟨10, b, by omega, hb, e, ?_, Or.inr (Or.inl ⟨h2, rfl⟩)⟩
    rw [if_pos h2, e]
    exact k_place 10 b
  rw [if_neg h2]
  by_cases h3 : caller ≤ p
  · left
    rw [if_pos h3]
  rw [if_neg h3]
  by_cases h4 : caller < 10
  · right
    rw [if_pos h4]
    have h7 := Int32.lt_iff_toInt_lt.mp (Int32.not_le.mp h3)
    have h8 : ¬ caller < 0 := fun h => h5 (Int32.lt_iff_toInt_lt.mpr (Int.lt_trans h7 (Int32.lt_iff_toInt_lt.mp h)))
    obtain ⟨a, ha, e2⟩ := k_nI4 (M := 10) (n := 10) (by decide) h8 (Int32.not_le.mpr h4)
    refine ⟨a, b, by omega, hb, e, ?_, Or.inr (Or.inr ⟨e2, ?_, ha⟩)⟩
    · rw [e, e2]
      exact k_place a b
    · rw [e, e2, nI_toInt (by omega), nI_toInt (by omega)] at h7
      omega
  · left
    rw [if_neg h4]
theorem k_placeIn {caller p : Int32} (h : ¬ f_X1_placeFor caller p = -10000) : vp_in (f_X1_placeFor caller p) 480 := by
  rcases f_X1_placeFor_ok caller p with h1 | ⟨a, b, ha, hb, -, h1, -⟩
  · exact absurd h1 h
  · rw [h1]
    exact vp_in_nI (by omega) (by omega)
def f_X1_find (bnd : Nat → Int32) (caller : Int32) (p : Int32) : Int32 :=
  if (f_X1_placeFor caller p) = (-10000) then
    (-10000)
  else
    if (bnd (((f_X1_placeFor caller p)).toNatClampNeg)) = (-10000) then
      (-10000)
    else
      (f_X1_placeFor caller p)
theorem qX1_find_0 : Cond.fieldLink RX1 11 "BlameChains$Contracts" "bounds" "[I" ∈ wsX1_find := (List.mem_cons_of_mem _ (List.mem_append_left _ (List.mem_of_getElem? (i := 0) rfl)))
set_option maxHeartbeats 4000000 in
set_option maxRecDepth 100000 in
theorem c_X1_find (l : Launch) (D : va_G) (g : Nat → Nat) (c0 c1 : Nat) (sz : Nat) (bnd : Nat → Int32) (caller : Int32) (p : Int32) : kMi l D g yX1_find wsX1_find 3 0 0 [.ref c0, .int caller, .int p] [(c0, .inr (1, [.ref c1])), (c1, .inl (g 0, 480, .inl bnd))] sz (f_X1_find bnd caller p) [(c0, .inr (1, [.ref c1])), (c1, .inl (g 0, 480, .inl bnd))] := by
  refine k_enter (nm := "find") (own := RX1) (bytes := cX1_find) (maxL := 4) (ret := (some .int)) (Qf := fun A => kQi D [(c0, .inr (1, [.ref c1])), (c1, .inl (g 0, 480, .inl bnd))] A (f_X1_find bnd caller p)) (by decide) rfl rfl rfl (Nat.le_of_ble_eq_true rfl) ?_
  rintro pp ee s mm below meth cc A ls args Q H locs hQ ⟨hx, hb, hr, hml, hown, hts, hlocks, hin⟩ hP hK hD hA hS hE hl
  have hl : lv_has ls 4 [(0, .ref c0), (1, .int caller), (2, .int p)] := hl
  refine lv_iload_n hx hb dX1_find_0 rfl (lv_at hl 1 rfl) ?_
  refine lv_iload_n hx hb dX1_find_1 rfl (lv_at hl 2 rfl) ?_
  refine k_ai (wr := [(c0, .inr (1, [.ref c1])), (c1, .inl (g 0, 480, .inl bnd))]) (w2 := [(c0, .inr (1, [.ref c1])), (c1, .inl (g 0, 480, .inl bnd))]) (va_runS (As := [.int caller, .int p]) (rest := []) ⟨hx, hb, hml, hown, hts⟩ (c_X1_placeFor l D g H.size caller p) (va_cwS 2 hts gX1_find_X1_placeFor rfl rfl rfl (by decide +kernel) (k_lvl (by omega) (by decide))) (kPS hP hD hK hS hA hE [] rfl (by decide)) rfl rfl hl.1 rfl (lv_room (Nat.le_of_ble_eq_true rfl)) dX1_find_2 ⟨Nat.le_of_ble_eq_true rfl, Nat.le_of_ble_eq_true rfl⟩) hP hD hS hA [] [0, 1] [0, 1] rfl rfl (by decide) (by decide) rfl (by decide) (fun H locs hP hD hS => ?_)
  refine lv_istore_n (lv' := [(3, .int (f_X1_placeFor caller p)), (0, .ref c0), (1, .int caller), (2, .int p)]) hx hb dX1_find_5 rfl hl (by decide) rfl (fun ls hl => ?_)
  refine lv_iload_n hx hb dX1_find_6 rfl (lv_at hl 0 rfl) ?_
  refine lv_sipush (v := (-10000)) hx hb dX1_find_7 (by decide) ?_
  refine lv_icmp_eq (tgt := 29) hx hb dX1_find_10 (by decide) (fun c_1 => ?_) (fun c_1 => ?_)
  · refine lv_sipush (v := (-10000)) hx hb dX1_find_29 (by decide) ?_
    have hE2 : (f_X1_find bnd caller p) = (-10000) := by
      exact (if_pos c_1).trans (rfl)
    subst hQ
    exact k_ri hx hb hr hlocks hP hD hS dX1_find_32 (hE2.symm) (rfl)
  · refine lv_aload_n hx hb dX1_find_13 rfl (lv_at hl 1 rfl) ?_
    refine va_get (D := D) (ci := 1) (v := .ref c1) (C := RX1) (T := TX1) (N := 1) hx hb hts (fun w h => (List.mem_cons_of_mem _ (List.mem_append_right _ h))) hown hK hP 0 rfl rfl 0 (by decide) (hts _ qX1_find_0) (fun _ h9 => h9) rfl dX1_find_14 ?_
    refine lv_iload_n hx hb dX1_find_17 rfl (lv_at hl 0 rfl) ?_
    refine va_iald (i := (f_X1_placeFor caller p)) hx hb hK hP 1 0 rfl rfl (k_placeIn c_1) dX1_find_18 ?_
    refine lv_sipush (v := (-10000)) hx hb dX1_find_19 (by decide) ?_
    refine lv_icmp_eq (tgt := 29) hx hb dX1_find_22 (by decide) (fun c_2 => ?_) (fun c_2 => ?_)
    · refine lv_sipush (v := (-10000)) hx hb dX1_find_29 (by decide) ?_
      have hE2 : (f_X1_find bnd caller p) = (-10000) := by
        exact (if_neg c_1).trans ((if_pos c_2).trans (rfl))
      subst hQ
      exact k_ri hx hb hr hlocks hP hD hS dX1_find_32 (hE2.symm) (rfl)
    · refine lv_iload_n hx hb dX1_find_25 rfl (lv_at hl 0 rfl) ?_
      refine lv_goto (tgt := 32) hx hb dX1_find_26 (by decide) ?_
      have hE2 : (f_X1_find bnd caller p) = (f_X1_placeFor caller p) := by
        exact (if_neg c_1).trans ((if_neg c_2).trans (rfl))
      subst hQ
      exact k_ri hx hb hr hlocks hP hD hS dX1_find_32 (hE2.symm) (rfl)
theorem f_X1_find_ok (bnd : Nat → Int32) (caller p : Int32) : f_X1_find bnd caller p = -10000 ∨ f_X1_find bnd caller p = f_X1_placeFor caller p ∧ ¬ f_X1_placeFor caller p = -10000 := by
  unfold f_X1_find
  by_cases h1 : f_X1_placeFor caller p = -10000
  · left; rw [if_pos h1]
  · rw [if_neg h1]
    by_cases h2 : bnd (f_X1_placeFor caller p).toNatClampNeg = -10000
    · left; rw [if_pos h2]
    · right; rw [if_neg h2]; exact ⟨rfl, h1⟩
theorem k_findIn {bnd : Nat → Int32} {caller p : Int32} (h : ¬ f_X1_find bnd caller p = -10000) : vp_in (f_X1_find bnd caller p) 480 := by
  rcases f_X1_find_ok bnd caller p with h1 | ⟨h1, h2⟩
  · exact absurd h1 h
  · rw [h1]; exact k_placeIn h2
theorem k_findN {bnd : Nat → Int32} {caller p : Int32} (h : ¬ f_X1_find bnd caller p = -10000) : ∃ k : Nat, k < 120 ∧ f_X1_find bnd caller p = nI (4 * k) := by
  rcases f_X1_find_ok bnd caller p with h1 | ⟨h1, h2⟩
  · exact absurd h1 h
  · rcases f_X1_placeFor_ok caller p with h3 | ⟨a, b, ha, hb, -, h3, -⟩
    · exact absurd h3 h2
    · exact ⟨a * 10 + b, by omega, by rw [h1, h3]; congr 1; omega⟩
def f_X1_isThere (bnd : Nat → Int32) (caller : Int32) (p : Int32) : Int32 :=
  if (f_X1_find bnd caller p) = (-10000) then
    0
  else
    1
set_option maxHeartbeats 4000000 in
set_option maxRecDepth 100000 in
theorem c_X1_isThere (l : Launch) (D : va_G) (g : Nat → Nat) (c0 c1 : Nat) (sz : Nat) (bnd : Nat → Int32) (caller : Int32) (p : Int32) : kMi l D g yX1_isThere wsX1_isThere 4 0 0 [.ref c0, .int caller, .int p] [(c0, .inr (1, [.ref c1])), (c1, .inl (g 0, 480, .inl bnd))] sz (f_X1_isThere bnd caller p) [(c0, .inr (1, [.ref c1])), (c1, .inl (g 0, 480, .inl bnd))] := by
  refine k_enter (nm := "isThere") (own := RX1) (bytes := cX1_isThere) (maxL := 3) (ret := (some .boolean)) (Qf := fun A => kQi D [(c0, .inr (1, [.ref c1])), (c1, .inl (g 0, 480, .inl bnd))] A (f_X1_isThere bnd caller p)) (by decide) rfl rfl rfl (Nat.le_of_ble_eq_true rfl) ?_
  rintro pp ee s mm below meth cc A ls args Q H locs hQ ⟨hx, hb, hr, hml, hown, hts, hlocks, hin⟩ hP hK hD hA hS hE hl
  have hl : lv_has ls 3 [(0, .ref c0), (1, .int caller), (2, .int p)] := hl
  refine lv_aload_n hx hb dX1_isThere_0 rfl (lv_at hl 0 rfl) ?_
  refine lv_iload_n hx hb dX1_isThere_1 rfl (lv_at hl 1 rfl) ?_
  refine lv_iload_n hx hb dX1_isThere_2 rfl (lv_at hl 2 rfl) ?_
  refine k_ai (wr := []) (w2 := [(c0, .inr (1, [.ref c1])), (c1, .inl (g 0, 480, .inl bnd))]) (va_runV (As := [.int caller, .int p]) (rest := []) ⟨hx, hb, hml, hown, hts⟩ (c_X1_find l D g c0 c1 H.size bnd caller p) (cwV 2 hts gX1_isThere_X1_find rfl rfl rfl (by decide +kernel) (k_lvl (by omega) (by decide))) (kPV hP hD hK hS hA hE [0, 1] rfl (by decide) 0 1 rfl rfl rfl) rfl rfl hl.1 rfl (lv_room (Nat.le_of_ble_eq_true rfl)) dX1_isThere_3 ⟨Nat.le_of_ble_eq_true rfl, Nat.le_of_ble_eq_true rfl⟩) hP hD hS hA [0, 1] [] [0, 1] rfl rfl (by decide) (by decide) rfl (by decide) (fun H locs hP hD hS => ?_)
  refine lv_sipush (v := (-10000)) hx hb dX1_isThere_6 (by decide) ?_
  refine lv_icmp_eq (tgt := 16) hx hb dX1_isThere_9 (by decide) (fun c_1 => ?_) (fun c_1 => ?_)
  · refine lv_iconst (v := 0) hx hb dX1_isThere_16 (by decide) ?_
    have hE2 : (f_X1_isThere bnd caller p) = 0 := by
      exact (if_pos c_1).trans (rfl)
    subst hQ
    exact k_rz hx hb hr hlocks hP hD hS dX1_isThere_17 (by rfl) (hE2.symm) (rfl)
  · refine lv_iconst (v := 1) hx hb dX1_isThere_12 (by decide) ?_
    refine lv_goto (tgt := 17) hx hb dX1_isThere_13 (by decide) ?_
    have hE2 : (f_X1_isThere bnd caller p) = 1 := by
      exact (if_neg c_1).trans (rfl)
    subst hQ
    exact k_rz hx hb hr hlocks hP hD hS dX1_isThere_17 (by rfl) (hE2.symm) (rfl)
def f_X1_bound (bnd : Nat → Int32) (pl : Int32) (wh : Nat) : Int32 :=
  (bnd (pl.toNatClampNeg + wh))
theorem qX1_bound_0 : Cond.fieldLink RX1 11 "BlameChains$Contracts" "bounds" "[I" ∈ wsX1_bound := (List.mem_cons_of_mem _ (List.mem_append_left _ (List.mem_of_getElem? (i := 0) rfl)))
set_option maxHeartbeats 4000000 in
set_option maxRecDepth 100000 in
theorem c_X1_bound (l : Launch) (D : va_G) (g : Nat → Nat) (c0 c1 : Nat) (sz : Nat) (bnd : Nat → Int32) (pl : Int32) (wh : Nat) (h0 : ¬ pl < 0) (h4 : pl.toNatClampNeg + 3 < 480) (hw : wh < 4) : kMi l D g yX1_bound wsX1_bound 1 0 0 [.ref c0, .int pl, .int (nI wh)] [(c0, .inr (1, [.ref c1])), (c1, .inl (g 0, 480, .inl bnd))] sz (f_X1_bound bnd pl wh) [(c0, .inr (1, [.ref c1])), (c1, .inl (g 0, 480, .inl bnd))] := by
  refine k_enter (nm := "bound") (own := RX1) (bytes := cX1_bound) (maxL := 3) (ret := (some .int)) (Qf := fun A => kQi D [(c0, .inr (1, [.ref c1])), (c1, .inl (g 0, 480, .inl bnd))] A (f_X1_bound bnd pl wh)) (by decide) rfl rfl rfl (Nat.le_of_ble_eq_true rfl) ?_
  rintro pp ee s mm below meth cc A ls args Q H locs hQ ⟨hx, hb, hr, hml, hown, hts, hlocks, hin⟩ hP hK hD hA hS hE hl
  have hl : lv_has ls 3 [(0, .ref c0), (1, .int pl), (2, .int (nI wh))] := hl
  refine lv_aload_n hx hb dX1_bound_0 rfl (lv_at hl 0 rfl) ?_
  refine va_get (D := D) (ci := 1) (v := .ref c1) (C := RX1) (T := TX1) (N := 1) hx hb hts (fun w h => (List.mem_cons_of_mem _ (List.mem_append_right _ h))) hown hK hP 0 rfl rfl 0 (by decide) (hts _ qX1_bound_0) (fun _ h9 => h9) rfl dX1_bound_1 ?_
  refine lv_iload_n hx hb dX1_bound_4 rfl (lv_at hl 1 rfl) ?_
  refine lv_iload_n hx hb dX1_bound_5 rfl (lv_at hl 2 rfl) ?_
  refine lv_iadd hx hb dX1_bound_6 ?_
  refine k_top (y := (nI (pl.toNatClampNeg + wh))) (k_addc h0 wh) ?_
  refine va_iald (i := (nI (pl.toNatClampNeg + wh))) hx hb hK hP 1 0 rfl rfl (vp_in_nI (n := (pl.toNatClampNeg + wh)) (by omega) (by omega)) dX1_bound_7 ?_
  refine k_top (y := (bnd (pl.toNatClampNeg + wh))) (by rw [nI_clamp (by omega)]) ?_
  have hE2 : (f_X1_bound bnd pl wh) = (bnd (pl.toNatClampNeg + wh)) := by
    exact rfl
  subst hQ
  exact k_ri hx hb hr hlocks hP hD hS dX1_bound_8 (hE2.symm) (rfl)
def f_X1_put (bnd : Nat → Int32) (al : Int32) (ah : Int32) (gl : Int32) (gh : Int32) (k : Nat) : (Nat → Int32) :=
  (upd (upd (upd (upd bnd ((4 * k) + 0) al) ((4 * k) + 1) ah) ((4 * k) + 2) gl) ((4 * k) + 3) gh)
theorem qX1_put_0 : Cond.fieldLink RX1 11 "BlameChains$Contracts" "bounds" "[I" ∈ wsX1_put := (List.mem_cons_of_mem _ (List.mem_append_left _ (List.mem_of_getElem? (i := 0) rfl)))
set_option maxHeartbeats 4000000 in
set_option maxRecDepth 100000 in
theorem c_X1_put (l : Launch) (D : va_G) (g : Nat → Nat) (c0 c1 : Nat) (sz : Nat) (bnd : Nat → Int32) (caller : Int32) (p : Int32) (al : Int32) (ah : Int32) (gl : Int32) (gh : Int32) (k : Nat) (hk : k < 120) (hp : f_X1_placeFor caller p = nI (4 * k)) : kMv l D g yX1_put wsX1_put 3 0 0 [.ref c0, .int caller, .int p, .int al, .int ah, .int gl, .int gh] [(c0, .inr (1, [.ref c1])), (c1, .inl (g 0, 480, .inl bnd))] sz [(c0, .inr (1, [.ref c1])), (c1, .inl (g 0, 480, .inl (f_X1_put bnd al ah gl gh k)))] := by
  refine k_enter (nm := "put") (own := RX1) (bytes := cX1_put) (maxL := 8) (ret := none) (Qf := fun A => kQv D [(c0, .inr (1, [.ref c1])), (c1, .inl (g 0, 480, .inl (f_X1_put bnd al ah gl gh k)))] A) (by decide) rfl rfl rfl (Nat.le_of_ble_eq_true rfl) ?_
  rintro pp ee s mm below meth cc A ls args Q H locs hQ ⟨hx, hb, hr, hml, hown, hts, hlocks, hin⟩ hP hK hD hA hS hE hl
  have hl : lv_has ls 8 [(0, .ref c0), (1, .int caller), (2, .int p), (3, .int al), (4, .int ah), (5, .int gl), (6, .int gh)] := hl
  refine lv_iload_n hx hb dX1_put_0 rfl (lv_at hl 1 rfl) ?_
  refine lv_iload_n hx hb dX1_put_1 rfl (lv_at hl 2 rfl) ?_
  refine k_ai (wr := [(c0, .inr (1, [.ref c1])), (c1, .inl (g 0, 480, .inl bnd))]) (w2 := [(c0, .inr (1, [.ref c1])), (c1, .inl (g 0, 480, .inl bnd))]) (va_runS (As := [.int caller, .int p]) (rest := []) ⟨hx, hb, hml, hown, hts⟩ (c_X1_placeFor l D g H.size caller p) (va_cwS 2 hts gX1_put_X1_placeFor rfl rfl rfl (by decide +kernel) (k_lvl (by omega) (by decide))) (kPS hP hD hK hS hA hE [] rfl (by decide)) rfl rfl hl.1 rfl (lv_room (Nat.le_of_ble_eq_true rfl)) dX1_put_2 ⟨Nat.le_of_ble_eq_true rfl, Nat.le_of_ble_eq_true rfl⟩) hP hD hS hA [] [0, 1] [0, 1] rfl rfl (by decide) (by decide) rfl (by decide) (fun H locs hP hD hS => ?_)
  refine k_top (y := (nI (4 * k))) (hp) ?_
  refine lv_istore (lv' := [(7, .int (nI (4 * k))), (0, .ref c0), (1, .int caller), (2, .int p), (3, .int al), (4, .int ah), (5, .int gl), (6, .int gh)]) hx hb dX1_put_5 hl (by decide) rfl (fun ls hl => ?_)
  refine lv_iload hx hb dX1_put_7 (lv_at hl 0 rfl) ?_
  refine lv_sipush (v := (-10000)) hx hb dX1_put_9 (by decide) ?_
  refine lv_icmp_eq (tgt := 58) hx hb dX1_put_12 (by decide) (fun c_1 => absurd c_1 (fun h9 => (k_nneg (e := (4 * k)) (by omega) (by decide)) h9)) (fun _ => ?_)
  refine lv_aload_n hx hb dX1_put_15 rfl (lv_at hl 1 rfl) ?_
  refine va_get (D := D) (ci := 1) (v := .ref c1) (C := RX1) (T := TX1) (N := 1) hx hb hts (fun w h => (List.mem_cons_of_mem _ (List.mem_append_right _ h))) hown hK hP 0 rfl rfl 0 (by decide) (hts _ qX1_put_0) (fun _ h9 => h9) rfl dX1_put_16 ?_
  refine lv_iload hx hb dX1_put_19 (lv_at hl 0 rfl) ?_
  refine lv_iconst (v := 0) hx hb dX1_put_21 (by decide) ?_
  refine lv_iadd hx hb dX1_put_22 ?_
  refine k_top (y := (nI ((4 * k) + 0))) (nI_add (4 * k) 0) ?_
  refine lv_iload_n hx hb dX1_put_23 rfl (lv_at hl 4 rfl) ?_
  refine va_iast (i := (nI ((4 * k) + 0))) (x := al) hx hb hK hP hD hS 1 0 rfl rfl (vp_in_nI (n := ((4 * k) + 0)) (by omega) (by omega)) dX1_put_24 (fun H locs hP hD hS => ?_)
  rw [nI_clamp (n := ((4 * k) + 0)) (by omega)] at hP hD
  have hP : va_P D vwCl [(c0, .inr (1, [.ref c1])), (c1, .inl (g 0, 480, .inl (upd bnd ((4 * k) + 0) al)))] H := hP
  have hD : va_D A [(c0, .inr (1, [.ref c1])), (c1, .inl (g 0, 480, .inl (upd bnd ((4 * k) + 0) al)))] := hD
  refine lv_aload_n hx hb dX1_put_25 rfl (lv_at hl 1 rfl) ?_
  refine va_get (D := D) (ci := 1) (v := .ref c1) (C := RX1) (T := TX1) (N := 1) hx hb hts (fun w h => (List.mem_cons_of_mem _ (List.mem_append_right _ h))) hown hK hP 0 rfl rfl 0 (by decide) (hts _ qX1_put_0) (fun _ h9 => h9) rfl dX1_put_26 ?_
  refine lv_iload hx hb dX1_put_29 (lv_at hl 0 rfl) ?_
  refine lv_iconst (v := 1) hx hb dX1_put_31 (by decide) ?_
  refine lv_iadd hx hb dX1_put_32 ?_
  refine k_top (y := (nI ((4 * k) + 1))) (nI_add (4 * k) 1) ?_
  refine lv_iload hx hb dX1_put_33 (lv_at hl 5 rfl) ?_
  refine va_iast (i := (nI ((4 * k) + 1))) (x := ah) hx hb hK hP hD hS 1 0 rfl rfl (vp_in_nI (n := ((4 * k) + 1)) (by omega) (by omega)) dX1_put_35 (fun H locs hP hD hS => ?_)
  rw [nI_clamp (n := ((4 * k) + 1)) (by omega)] at hP hD
  have hP : va_P D vwCl [(c0, .inr (1, [.ref c1])), (c1, .inl (g 0, 480, .inl (upd (upd bnd ((4 * k) + 0) al) ((4 * k) + 1) ah)))] H := hP
  have hD : va_D A [(c0, .inr (1, [.ref c1])), (c1, .inl (g 0, 480, .inl (upd (upd bnd ((4 * k) + 0) al) ((4 * k) + 1) ah)))] := hD
  refine lv_aload_n hx hb dX1_put_36 rfl (lv_at hl 1 rfl) ?_
  refine va_get (D := D) (ci := 1) (v := .ref c1) (C := RX1) (T := TX1) (N := 1) hx hb hts (fun w h => (List.mem_cons_of_mem _ (List.mem_append_right _ h))) hown hK hP 0 rfl rfl 0 (by decide) (hts _ qX1_put_0) (fun _ h9 => h9) rfl dX1_put_37 ?_
  refine lv_iload hx hb dX1_put_40 (lv_at hl 0 rfl) ?_
  refine lv_iconst (v := 2) hx hb dX1_put_42 (by decide) ?_
  refine lv_iadd hx hb dX1_put_43 ?_
  refine k_top (y := (nI ((4 * k) + 2))) (nI_add (4 * k) 2) ?_
  refine lv_iload hx hb dX1_put_44 (lv_at hl 6 rfl) ?_
  refine va_iast (i := (nI ((4 * k) + 2))) (x := gl) hx hb hK hP hD hS 1 0 rfl rfl (vp_in_nI (n := ((4 * k) + 2)) (by omega) (by omega)) dX1_put_46 (fun H locs hP hD hS => ?_)
  rw [nI_clamp (n := ((4 * k) + 2)) (by omega)] at hP hD
  have hP : va_P D vwCl [(c0, .inr (1, [.ref c1])), (c1, .inl (g 0, 480, .inl (upd (upd (upd bnd ((4 * k) + 0) al) ((4 * k) + 1) ah) ((4 * k) + 2) gl)))] H := hP
  have hD : va_D A [(c0, .inr (1, [.ref c1])), (c1, .inl (g 0, 480, .inl (upd (upd (upd bnd ((4 * k) + 0) al) ((4 * k) + 1) ah) ((4 * k) + 2) gl)))] := hD
  refine lv_aload_n hx hb dX1_put_47 rfl (lv_at hl 1 rfl) ?_
  refine va_get (D := D) (ci := 1) (v := .ref c1) (C := RX1) (T := TX1) (N := 1) hx hb hts (fun w h => (List.mem_cons_of_mem _ (List.mem_append_right _ h))) hown hK hP 0 rfl rfl 0 (by decide) (hts _ qX1_put_0) (fun _ h9 => h9) rfl dX1_put_48 ?_
  refine lv_iload hx hb dX1_put_51 (lv_at hl 0 rfl) ?_
  refine lv_iconst (v := 3) hx hb dX1_put_53 (by decide) ?_
  refine lv_iadd hx hb dX1_put_54 ?_
  refine k_top (y := (nI ((4 * k) + 3))) (nI_add (4 * k) 3) ?_
  refine lv_iload hx hb dX1_put_55 (lv_at hl 7 rfl) ?_
  refine va_iast (i := (nI ((4 * k) + 3))) (x := gh) hx hb hK hP hD hS 1 0 rfl rfl (vp_in_nI (n := ((4 * k) + 3)) (by omega) (by omega)) dX1_put_57 (fun H locs hP hD hS => ?_)
  rw [nI_clamp (n := ((4 * k) + 3)) (by omega)] at hP hD
  have hP : va_P D vwCl [(c0, .inr (1, [.ref c1])), (c1, .inl (g 0, 480, .inl (upd (upd (upd (upd bnd ((4 * k) + 0) al) ((4 * k) + 1) ah) ((4 * k) + 2) gl) ((4 * k) + 3) gh)))] H := hP
  have hD : va_D A [(c0, .inr (1, [.ref c1])), (c1, .inl (g 0, 480, .inl (upd (upd (upd (upd bnd ((4 * k) + 0) al) ((4 * k) + 1) ah) ((4 * k) + 2) gl) ((4 * k) + 3) gh)))] := hD
  have hE2 : (f_X1_put bnd al ah gl gh k) = (upd (upd (upd (upd bnd ((4 * k) + 0) al) ((4 * k) + 1) ah) ((4 * k) + 2) gl) ((4 * k) + 3) gh) := by
    exact rfl
  subst hQ
  exact k_rv hx hb hr hlocks hP hD hS dX1_put_58 (by rw [hE2])
def f_X1_remove (bnd : Nat → Int32) (caller : Int32) (p : Int32) : Int32 × (Nat → Int32) :=
  if (f_X1_find bnd caller p) = (-10000) then
    (0, bnd)
  else
    (1, (upd bnd (((f_X1_find bnd caller p)).toNatClampNeg) (-10000)))
theorem qX1_remove_0 : Cond.fieldLink RX1 11 "BlameChains$Contracts" "bounds" "[I" ∈ wsX1_remove := (List.mem_cons_of_mem _ (List.mem_append_left _ (List.mem_of_getElem? (i := 0) rfl)))
set_option maxHeartbeats 4000000 in
set_option maxRecDepth 100000 in
theorem c_X1_remove (l : Launch) (D : va_G) (g : Nat → Nat) (c0 c1 : Nat) (sz : Nat) (bnd : Nat → Int32) (caller : Int32) (p : Int32) : kMi l D g yX1_remove wsX1_remove 4 0 0 [.ref c0, .int caller, .int p] [(c0, .inr (1, [.ref c1])), (c1, .inl (g 0, 480, .inl bnd))] sz ((f_X1_remove bnd caller p).1) [(c0, .inr (1, [.ref c1])), (c1, .inl (g 0, 480, .inl ((f_X1_remove bnd caller p).2)))] := by
  refine k_enter (nm := "remove") (own := RX1) (bytes := cX1_remove) (maxL := 4) (ret := (some .boolean)) (Qf := fun A => kQi D [(c0, .inr (1, [.ref c1])), (c1, .inl (g 0, 480, .inl ((f_X1_remove bnd caller p).2)))] A ((f_X1_remove bnd caller p).1)) (by decide) rfl rfl rfl (Nat.le_of_ble_eq_true rfl) ?_
  rintro pp ee s mm below meth cc A ls args Q H locs hQ ⟨hx, hb, hr, hml, hown, hts, hlocks, hin⟩ hP hK hD hA hS hE hl
  have hl : lv_has ls 4 [(0, .ref c0), (1, .int caller), (2, .int p)] := hl
  refine lv_aload_n hx hb dX1_remove_0 rfl (lv_at hl 0 rfl) ?_
  refine lv_iload_n hx hb dX1_remove_1 rfl (lv_at hl 1 rfl) ?_
  refine lv_iload_n hx hb dX1_remove_2 rfl (lv_at hl 2 rfl) ?_
  refine k_ai (wr := []) (w2 := [(c0, .inr (1, [.ref c1])), (c1, .inl (g 0, 480, .inl bnd))]) (va_runV (As := [.int caller, .int p]) (rest := []) ⟨hx, hb, hml, hown, hts⟩ (c_X1_find l D g c0 c1 H.size bnd caller p) (cwV 2 hts gX1_remove_X1_find rfl rfl rfl (by decide +kernel) (k_lvl (by omega) (by decide))) (kPV hP hD hK hS hA hE [0, 1] rfl (by decide) 0 1 rfl rfl rfl) rfl rfl hl.1 rfl (lv_room (Nat.le_of_ble_eq_true rfl)) dX1_remove_3 ⟨Nat.le_of_ble_eq_true rfl, Nat.le_of_ble_eq_true rfl⟩) hP hD hS hA [0, 1] [] [0, 1] rfl rfl (by decide) (by decide) rfl (by decide) (fun H locs hP hD hS => ?_)
  refine lv_istore_n (lv' := [(3, .int (f_X1_find bnd caller p)), (0, .ref c0), (1, .int caller), (2, .int p)]) hx hb dX1_remove_6 rfl hl (by decide) rfl (fun ls hl => ?_)
  refine lv_iload_n hx hb dX1_remove_7 rfl (lv_at hl 0 rfl) ?_
  refine lv_sipush (v := (-10000)) hx hb dX1_remove_8 (by decide) ?_
  refine lv_icmp_ne (tgt := 16) hx hb dX1_remove_11 (by decide) (fun c_1 => ?_) (fun c_1 => ?_)
  · refine lv_aload_n hx hb dX1_remove_16 rfl (lv_at hl 1 rfl) ?_
    refine va_get (D := D) (ci := 1) (v := .ref c1) (C := RX1) (T := TX1) (N := 1) hx hb hts (fun w h => (List.mem_cons_of_mem _ (List.mem_append_right _ h))) hown hK hP 0 rfl rfl 0 (by decide) (hts _ qX1_remove_0) (fun _ h9 => h9) rfl dX1_remove_17 ?_
    refine lv_iload_n hx hb dX1_remove_20 rfl (lv_at hl 0 rfl) ?_
    refine lv_sipush (v := (-10000)) hx hb dX1_remove_21 (by decide) ?_
    refine va_iast (i := (f_X1_find bnd caller p)) (x := (-10000)) hx hb hK hP hD hS 1 0 rfl rfl (k_findIn c_1) dX1_remove_24 (fun H locs hP hD hS => ?_)
    have hP : va_P D vwCl [(c0, .inr (1, [.ref c1])), (c1, .inl (g 0, 480, .inl (upd bnd (((f_X1_find bnd caller p)).toNatClampNeg) (-10000))))] H := hP
    have hD : va_D A [(c0, .inr (1, [.ref c1])), (c1, .inl (g 0, 480, .inl (upd bnd (((f_X1_find bnd caller p)).toNatClampNeg) (-10000))))] := hD
    refine lv_iconst (v := 1) hx hb dX1_remove_25 (by decide) ?_
    have hE2 : (f_X1_remove bnd caller p) = (1, (upd bnd (((f_X1_find bnd caller p)).toNatClampNeg) (-10000))) := by
      exact (if_neg c_1).trans (rfl)
    subst hQ
    exact k_rz hx hb hr hlocks hP hD hS dX1_remove_26 (by rfl) (by rw [hE2]) (by rw [hE2])
  · refine lv_iconst (v := 0) hx hb dX1_remove_14 (by decide) ?_
    have hE2 : (f_X1_remove bnd caller p) = (0, bnd) := by
      exact (if_pos c_1).trans (rfl)
    subst hQ
    exact k_rz hx hb hr hlocks hP hD hS dX1_remove_15 (by rfl) (by rw [hE2]) (by rw [hE2])
def f_X1_asks (bnd : Nat → Int32) (pl : Int32) (x : Int32) : Int32 :=
  if x < (bnd (pl.toNatClampNeg + 0)) then
    0
  else
    if (bnd (pl.toNatClampNeg + 1)) < x then
      0
    else
      1
theorem qX1_asks_0 : Cond.fieldLink RX1 11 "BlameChains$Contracts" "bounds" "[I" ∈ wsX1_asks := (List.mem_cons_of_mem _ (List.mem_append_left _ (List.mem_of_getElem? (i := 0) rfl)))
set_option maxHeartbeats 4000000 in
set_option maxRecDepth 100000 in
theorem c_X1_asks (l : Launch) (D : va_G) (g : Nat → Nat) (c0 c1 : Nat) (sz : Nat) (bnd : Nat → Int32) (pl : Int32) (x : Int32) (h0 : ¬ pl < 0) (h4 : pl.toNatClampNeg + 3 < 480) : kMi l D g yX1_asks wsX1_asks 1 0 0 [.ref c0, .int pl, .int x] [(c0, .inr (1, [.ref c1])), (c1, .inl (g 0, 480, .inl bnd))] sz (f_X1_asks bnd pl x) [(c0, .inr (1, [.ref c1])), (c1, .inl (g 0, 480, .inl bnd))] := by
  refine k_enter (nm := "asks") (own := RX1) (bytes := cX1_asks) (maxL := 3) (ret := (some .boolean)) (Qf := fun A => kQi D [(c0, .inr (1, [.ref c1])), (c1, .inl (g 0, 480, .inl bnd))] A (f_X1_asks bnd pl x)) (by decide) rfl rfl rfl (Nat.le_of_ble_eq_true rfl) ?_
  rintro pp ee s mm below meth cc A ls args Q H locs hQ ⟨hx, hb, hr, hml, hown, hts, hlocks, hin⟩ hP hK hD hA hS hE hl
  have hl : lv_has ls 3 [(0, .ref c0), (1, .int pl), (2, .int x)] := hl
  refine lv_iload_n hx hb dX1_asks_0 rfl (lv_at hl 2 rfl) ?_
  refine lv_aload_n hx hb dX1_asks_1 rfl (lv_at hl 0 rfl) ?_
  refine va_get (D := D) (ci := 1) (v := .ref c1) (C := RX1) (T := TX1) (N := 1) hx hb hts (fun w h => (List.mem_cons_of_mem _ (List.mem_append_right _ h))) hown hK hP 0 rfl rfl 0 (by decide) (hts _ qX1_asks_0) (fun _ h9 => h9) rfl dX1_asks_2 ?_
  refine lv_iload_n hx hb dX1_asks_5 rfl (lv_at hl 1 rfl) ?_
  refine lv_iconst (v := 0) hx hb dX1_asks_6 (by decide) ?_
  refine lv_iadd hx hb dX1_asks_7 ?_
  refine k_top (y := (nI (pl.toNatClampNeg + 0))) (k_addc h0 0) ?_
  refine va_iald (i := (nI (pl.toNatClampNeg + 0))) hx hb hK hP 1 0 rfl rfl (vp_in_nI (n := (pl.toNatClampNeg + 0)) (by omega) (by omega)) dX1_asks_8 ?_
  refine k_top (y := (bnd (pl.toNatClampNeg + 0))) (by rw [nI_clamp (by omega)]) ?_
  refine lv_icmp_lt (tgt := 28) hx hb dX1_asks_9 (by decide) (fun c_1 => ?_) (fun c_1 => ?_)
  · refine lv_iconst (v := 0) hx hb dX1_asks_28 (by decide) ?_
    have hE2 : (f_X1_asks bnd pl x) = 0 := by
      exact (if_pos c_1).trans (rfl)
    subst hQ
    exact k_rz hx hb hr hlocks hP hD hS dX1_asks_29 (by rfl) (hE2.symm) (rfl)
  · refine lv_iload_n hx hb dX1_asks_12 rfl (lv_at hl 2 rfl) ?_
    refine lv_aload_n hx hb dX1_asks_13 rfl (lv_at hl 0 rfl) ?_
    refine va_get (D := D) (ci := 1) (v := .ref c1) (C := RX1) (T := TX1) (N := 1) hx hb hts (fun w h => (List.mem_cons_of_mem _ (List.mem_append_right _ h))) hown hK hP 0 rfl rfl 0 (by decide) (hts _ qX1_asks_0) (fun _ h9 => h9) rfl dX1_asks_14 ?_
    refine lv_iload_n hx hb dX1_asks_17 rfl (lv_at hl 1 rfl) ?_
    refine lv_iconst (v := 1) hx hb dX1_asks_18 (by decide) ?_
    refine lv_iadd hx hb dX1_asks_19 ?_
    refine k_top (y := (nI (pl.toNatClampNeg + 1))) (k_addc h0 1) ?_
    refine va_iald (i := (nI (pl.toNatClampNeg + 1))) hx hb hK hP 1 0 rfl rfl (vp_in_nI (n := (pl.toNatClampNeg + 1)) (by omega) (by omega)) dX1_asks_20 ?_
    refine k_top (y := (bnd (pl.toNatClampNeg + 1))) (by rw [nI_clamp (by omega)]) ?_
    refine lv_icmp_gt (tgt := 28) hx hb dX1_asks_21 (by decide) (fun c_2 => ?_) (fun c_2 => ?_)
    · refine lv_iconst (v := 0) hx hb dX1_asks_28 (by decide) ?_
      have hE2 : (f_X1_asks bnd pl x) = 0 := by
        exact (if_neg c_1).trans ((if_pos c_2).trans (rfl))
      subst hQ
      exact k_rz hx hb hr hlocks hP hD hS dX1_asks_29 (by rfl) (hE2.symm) (rfl)
    · refine lv_iconst (v := 1) hx hb dX1_asks_24 (by decide) ?_
      refine lv_goto (tgt := 29) hx hb dX1_asks_25 (by decide) ?_
      have hE2 : (f_X1_asks bnd pl x) = 1 := by
        exact (if_neg c_1).trans ((if_neg c_2).trans (rfl))
      subst hQ
      exact k_rz hx hb hr hlocks hP hD hS dX1_asks_29 (by rfl) (hE2.symm) (rfl)
def f_X1_gives (bnd : Nat → Int32) (pl : Int32) (x : Int32) : Int32 :=
  if x < (bnd (pl.toNatClampNeg + 2)) then
    0
  else
    if (bnd (pl.toNatClampNeg + 3)) < x then
      0
    else
      1
theorem qX1_gives_0 : Cond.fieldLink RX1 11 "BlameChains$Contracts" "bounds" "[I" ∈ wsX1_gives := (List.mem_cons_of_mem _ (List.mem_append_left _ (List.mem_of_getElem? (i := 0) rfl)))
set_option maxHeartbeats 4000000 in
set_option maxRecDepth 100000 in
theorem c_X1_gives (l : Launch) (D : va_G) (g : Nat → Nat) (c0 c1 : Nat) (sz : Nat) (bnd : Nat → Int32) (pl : Int32) (x : Int32) (h0 : ¬ pl < 0) (h4 : pl.toNatClampNeg + 3 < 480) : kMi l D g yX1_gives wsX1_gives 1 0 0 [.ref c0, .int pl, .int x] [(c0, .inr (1, [.ref c1])), (c1, .inl (g 0, 480, .inl bnd))] sz (f_X1_gives bnd pl x) [(c0, .inr (1, [.ref c1])), (c1, .inl (g 0, 480, .inl bnd))] := by
  refine k_enter (nm := "gives") (own := RX1) (bytes := cX1_gives) (maxL := 3) (ret := (some .boolean)) (Qf := fun A => kQi D [(c0, .inr (1, [.ref c1])), (c1, .inl (g 0, 480, .inl bnd))] A (f_X1_gives bnd pl x)) (by decide) rfl rfl rfl (Nat.le_of_ble_eq_true rfl) ?_
  rintro pp ee s mm below meth cc A ls args Q H locs hQ ⟨hx, hb, hr, hml, hown, hts, hlocks, hin⟩ hP hK hD hA hS hE hl
  have hl : lv_has ls 3 [(0, .ref c0), (1, .int pl), (2, .int x)] := hl
  refine lv_iload_n hx hb dX1_gives_0 rfl (lv_at hl 2 rfl) ?_
  refine lv_aload_n hx hb dX1_gives_1 rfl (lv_at hl 0 rfl) ?_
  refine va_get (D := D) (ci := 1) (v := .ref c1) (C := RX1) (T := TX1) (N := 1) hx hb hts (fun w h => (List.mem_cons_of_mem _ (List.mem_append_right _ h))) hown hK hP 0 rfl rfl 0 (by decide) (hts _ qX1_gives_0) (fun _ h9 => h9) rfl dX1_gives_2 ?_
  refine lv_iload_n hx hb dX1_gives_5 rfl (lv_at hl 1 rfl) ?_
  refine lv_iconst (v := 2) hx hb dX1_gives_6 (by decide) ?_
  refine lv_iadd hx hb dX1_gives_7 ?_
  refine k_top (y := (nI (pl.toNatClampNeg + 2))) (k_addc h0 2) ?_
  refine va_iald (i := (nI (pl.toNatClampNeg + 2))) hx hb hK hP 1 0 rfl rfl (vp_in_nI (n := (pl.toNatClampNeg + 2)) (by omega) (by omega)) dX1_gives_8 ?_
  refine k_top (y := (bnd (pl.toNatClampNeg + 2))) (by rw [nI_clamp (by omega)]) ?_
  refine lv_icmp_lt (tgt := 28) hx hb dX1_gives_9 (by decide) (fun c_1 => ?_) (fun c_1 => ?_)
  · refine lv_iconst (v := 0) hx hb dX1_gives_28 (by decide) ?_
    have hE2 : (f_X1_gives bnd pl x) = 0 := by
      exact (if_pos c_1).trans (rfl)
    subst hQ
    exact k_rz hx hb hr hlocks hP hD hS dX1_gives_29 (by rfl) (hE2.symm) (rfl)
  · refine lv_iload_n hx hb dX1_gives_12 rfl (lv_at hl 2 rfl) ?_
    refine lv_aload_n hx hb dX1_gives_13 rfl (lv_at hl 0 rfl) ?_
    refine va_get (D := D) (ci := 1) (v := .ref c1) (C := RX1) (T := TX1) (N := 1) hx hb hts (fun w h => (List.mem_cons_of_mem _ (List.mem_append_right _ h))) hown hK hP 0 rfl rfl 0 (by decide) (hts _ qX1_gives_0) (fun _ h9 => h9) rfl dX1_gives_14 ?_
    refine lv_iload_n hx hb dX1_gives_17 rfl (lv_at hl 1 rfl) ?_
    refine lv_iconst (v := 3) hx hb dX1_gives_18 (by decide) ?_
    refine lv_iadd hx hb dX1_gives_19 ?_
    refine k_top (y := (nI (pl.toNatClampNeg + 3))) (k_addc h0 3) ?_
    refine va_iald (i := (nI (pl.toNatClampNeg + 3))) hx hb hK hP 1 0 rfl rfl (vp_in_nI (n := (pl.toNatClampNeg + 3)) (by omega) (by omega)) dX1_gives_20 ?_
    refine k_top (y := (bnd (pl.toNatClampNeg + 3))) (by rw [nI_clamp (by omega)]) ?_
    refine lv_icmp_gt (tgt := 28) hx hb dX1_gives_21 (by decide) (fun c_2 => ?_) (fun c_2 => ?_)
    · refine lv_iconst (v := 0) hx hb dX1_gives_28 (by decide) ?_
      have hE2 : (f_X1_gives bnd pl x) = 0 := by
        exact (if_neg c_1).trans ((if_pos c_2).trans (rfl))
      subst hQ
      exact k_rz hx hb hr hlocks hP hD hS dX1_gives_29 (by rfl) (hE2.symm) (rfl)
    · refine lv_iconst (v := 1) hx hb dX1_gives_24 (by decide) ?_
      refine lv_goto (tgt := 29) hx hb dX1_gives_25 (by decide) ?_
      have hE2 : (f_X1_gives bnd pl x) = 1 := by
        exact (if_neg c_1).trans ((if_neg c_2).trans (rfl))
      subst hQ
      exact k_rz hx hb hr hlocks hP hD hS dX1_gives_29 (by rfl) (hE2.symm) (rfl)
def f_X1_mayStandFor (bnd : Nat → Int32) (pl : Int32) (ol : Int32) : Int32 :=
  if (bnd (ol.toNatClampNeg + 0)) < (bnd (pl.toNatClampNeg + 0)) then
    0
  else
    if (bnd (pl.toNatClampNeg + 1)) < (bnd (ol.toNatClampNeg + 1)) then
      0
    else
      if (bnd (pl.toNatClampNeg + 2)) < (bnd (ol.toNatClampNeg + 2)) then
        0
      else
        if (bnd (ol.toNatClampNeg + 3)) < (bnd (pl.toNatClampNeg + 3)) then
          0
        else
          1
theorem qX1_mayStandFor_0 : Cond.fieldLink RX1 11 "BlameChains$Contracts" "bounds" "[I" ∈ wsX1_mayStandFor := (List.mem_cons_of_mem _ (List.mem_append_left _ (List.mem_of_getElem? (i := 0) rfl)))
set_option maxHeartbeats 4000000 in
set_option maxRecDepth 100000 in
theorem c_X1_mayStandFor (l : Launch) (D : va_G) (g : Nat → Nat) (c0 c1 : Nat) (sz : Nat) (bnd : Nat → Int32) (pl : Int32) (ol : Int32) (h0 : ¬ pl < 0) (h4 : pl.toNatClampNeg + 3 < 480) (h1 : ¬ ol < 0) (h5 : ol.toNatClampNeg + 3 < 480) : kMi l D g yX1_mayStandFor wsX1_mayStandFor 1 0 0 [.ref c0, .int pl, .int ol] [(c0, .inr (1, [.ref c1])), (c1, .inl (g 0, 480, .inl bnd))] sz (f_X1_mayStandFor bnd pl ol) [(c0, .inr (1, [.ref c1])), (c1, .inl (g 0, 480, .inl bnd))] := by
  refine k_enter (nm := "mayStandFor") (own := RX1) (bytes := cX1_mayStandFor) (maxL := 3) (ret := (some .boolean)) (Qf := fun A => kQi D [(c0, .inr (1, [.ref c1])), (c1, .inl (g 0, 480, .inl bnd))] A (f_X1_mayStandFor bnd pl ol)) (by decide) rfl rfl rfl (Nat.le_of_ble_eq_true rfl) ?_
  rintro pp ee s mm below meth cc A ls args Q H locs hQ ⟨hx, hb, hr, hml, hown, hts, hlocks, hin⟩ hP hK hD hA hS hE hl
  have hl : lv_has ls 3 [(0, .ref c0), (1, .int pl), (2, .int ol)] := hl
  refine lv_aload_n hx hb dX1_mayStandFor_0 rfl (lv_at hl 0 rfl) ?_
  refine va_get (D := D) (ci := 1) (v := .ref c1) (C := RX1) (T := TX1) (N := 1) hx hb hts (fun w h => (List.mem_cons_of_mem _ (List.mem_append_right _ h))) hown hK hP 0 rfl rfl 0 (by decide) (hts _ qX1_mayStandFor_0) (fun _ h9 => h9) rfl dX1_mayStandFor_1 ?_
  refine lv_iload_n hx hb dX1_mayStandFor_4 rfl (lv_at hl 1 rfl) ?_
  refine lv_iconst (v := 0) hx hb dX1_mayStandFor_5 (by decide) ?_
  refine lv_iadd hx hb dX1_mayStandFor_6 ?_
  refine k_top (y := (nI (pl.toNatClampNeg + 0))) (k_addc h0 0) ?_
  refine va_iald (i := (nI (pl.toNatClampNeg + 0))) hx hb hK hP 1 0 rfl rfl (vp_in_nI (n := (pl.toNatClampNeg + 0)) (by omega) (by omega)) dX1_mayStandFor_7 ?_
  refine k_top (y := (bnd (pl.toNatClampNeg + 0))) (by rw [nI_clamp (by omega)]) ?_
  refine lv_aload_n hx hb dX1_mayStandFor_8 rfl (lv_at hl 0 rfl) ?_
  refine va_get (D := D) (ci := 1) (v := .ref c1) (C := RX1) (T := TX1) (N := 1) hx hb hts (fun w h => (List.mem_cons_of_mem _ (List.mem_append_right _ h))) hown hK hP 0 rfl rfl 0 (by decide) (hts _ qX1_mayStandFor_0) (fun _ h9 => h9) rfl dX1_mayStandFor_9 ?_
  refine lv_iload_n hx hb dX1_mayStandFor_12 rfl (lv_at hl 2 rfl) ?_
  refine lv_iconst (v := 0) hx hb dX1_mayStandFor_13 (by decide) ?_
  refine lv_iadd hx hb dX1_mayStandFor_14 ?_
  refine k_top (y := (nI (ol.toNatClampNeg + 0))) (k_addc h1 0) ?_
  refine va_iald (i := (nI (ol.toNatClampNeg + 0))) hx hb hK hP 1 0 rfl rfl (vp_in_nI (n := (ol.toNatClampNeg + 0)) (by omega) (by omega)) dX1_mayStandFor_15 ?_
  refine k_top (y := (bnd (ol.toNatClampNeg + 0))) (by rw [nI_clamp (by omega)]) ?_
  refine lv_icmp_gt (tgt := 80) hx hb dX1_mayStandFor_16 (by decide) (fun c_1 => ?_) (fun c_1 => ?_)
  · refine lv_iconst (v := 0) hx hb dX1_mayStandFor_80 (by decide) ?_
    have hE2 : (f_X1_mayStandFor bnd pl ol) = 0 := by
      exact (if_pos c_1).trans (rfl)
    subst hQ
    exact k_rz hx hb hr hlocks hP hD hS dX1_mayStandFor_81 (by rfl) (hE2.symm) (rfl)
  · refine lv_aload_n hx hb dX1_mayStandFor_19 rfl (lv_at hl 0 rfl) ?_
    refine va_get (D := D) (ci := 1) (v := .ref c1) (C := RX1) (T := TX1) (N := 1) hx hb hts (fun w h => (List.mem_cons_of_mem _ (List.mem_append_right _ h))) hown hK hP 0 rfl rfl 0 (by decide) (hts _ qX1_mayStandFor_0) (fun _ h9 => h9) rfl dX1_mayStandFor_20 ?_
    refine lv_iload_n hx hb dX1_mayStandFor_23 rfl (lv_at hl 1 rfl) ?_
    refine lv_iconst (v := 1) hx hb dX1_mayStandFor_24 (by decide) ?_
    refine lv_iadd hx hb dX1_mayStandFor_25 ?_
    refine k_top (y := (nI (pl.toNatClampNeg + 1))) (k_addc h0 1) ?_
    refine va_iald (i := (nI (pl.toNatClampNeg + 1))) hx hb hK hP 1 0 rfl rfl (vp_in_nI (n := (pl.toNatClampNeg + 1)) (by omega) (by omega)) dX1_mayStandFor_26 ?_
    refine k_top (y := (bnd (pl.toNatClampNeg + 1))) (by rw [nI_clamp (by omega)]) ?_
    refine lv_aload_n hx hb dX1_mayStandFor_27 rfl (lv_at hl 0 rfl) ?_
    refine va_get (D := D) (ci := 1) (v := .ref c1) (C := RX1) (T := TX1) (N := 1) hx hb hts (fun w h => (List.mem_cons_of_mem _ (List.mem_append_right _ h))) hown hK hP 0 rfl rfl 0 (by decide) (hts _ qX1_mayStandFor_0) (fun _ h9 => h9) rfl dX1_mayStandFor_28 ?_
    refine lv_iload_n hx hb dX1_mayStandFor_31 rfl (lv_at hl 2 rfl) ?_
    refine lv_iconst (v := 1) hx hb dX1_mayStandFor_32 (by decide) ?_
    refine lv_iadd hx hb dX1_mayStandFor_33 ?_
    refine k_top (y := (nI (ol.toNatClampNeg + 1))) (k_addc h1 1) ?_
    refine va_iald (i := (nI (ol.toNatClampNeg + 1))) hx hb hK hP 1 0 rfl rfl (vp_in_nI (n := (ol.toNatClampNeg + 1)) (by omega) (by omega)) dX1_mayStandFor_34 ?_
    refine k_top (y := (bnd (ol.toNatClampNeg + 1))) (by rw [nI_clamp (by omega)]) ?_
    refine lv_icmp_lt (tgt := 80) hx hb dX1_mayStandFor_35 (by decide) (fun c_2 => ?_) (fun c_2 => ?_)
    · refine lv_iconst (v := 0) hx hb dX1_mayStandFor_80 (by decide) ?_
      have hE2 : (f_X1_mayStandFor bnd pl ol) = 0 := by
        exact (if_neg c_1).trans ((if_pos c_2).trans (rfl))
      subst hQ
      exact k_rz hx hb hr hlocks hP hD hS dX1_mayStandFor_81 (by rfl) (hE2.symm) (rfl)
    · refine lv_aload_n hx hb dX1_mayStandFor_38 rfl (lv_at hl 0 rfl) ?_
      refine va_get (D := D) (ci := 1) (v := .ref c1) (C := RX1) (T := TX1) (N := 1) hx hb hts (fun w h => (List.mem_cons_of_mem _ (List.mem_append_right _ h))) hown hK hP 0 rfl rfl 0 (by decide) (hts _ qX1_mayStandFor_0) (fun _ h9 => h9) rfl dX1_mayStandFor_39 ?_
      refine lv_iload_n hx hb dX1_mayStandFor_42 rfl (lv_at hl 1 rfl) ?_
      refine lv_iconst (v := 2) hx hb dX1_mayStandFor_43 (by decide) ?_
      refine lv_iadd hx hb dX1_mayStandFor_44 ?_
      refine k_top (y := (nI (pl.toNatClampNeg + 2))) (k_addc h0 2) ?_
      refine va_iald (i := (nI (pl.toNatClampNeg + 2))) hx hb hK hP 1 0 rfl rfl (vp_in_nI (n := (pl.toNatClampNeg + 2)) (by omega) (by omega)) dX1_mayStandFor_45 ?_
      refine k_top (y := (bnd (pl.toNatClampNeg + 2))) (by rw [nI_clamp (by omega)]) ?_
      refine lv_aload_n hx hb dX1_mayStandFor_46 rfl (lv_at hl 0 rfl) ?_
      refine va_get (D := D) (ci := 1) (v := .ref c1) (C := RX1) (T := TX1) (N := 1) hx hb hts (fun w h => (List.mem_cons_of_mem _ (List.mem_append_right _ h))) hown hK hP 0 rfl rfl 0 (by decide) (hts _ qX1_mayStandFor_0) (fun _ h9 => h9) rfl dX1_mayStandFor_47 ?_
      refine lv_iload_n hx hb dX1_mayStandFor_50 rfl (lv_at hl 2 rfl) ?_
      refine lv_iconst (v := 2) hx hb dX1_mayStandFor_51 (by decide) ?_
      refine lv_iadd hx hb dX1_mayStandFor_52 ?_
      refine k_top (y := (nI (ol.toNatClampNeg + 2))) (k_addc h1 2) ?_
      refine va_iald (i := (nI (ol.toNatClampNeg + 2))) hx hb hK hP 1 0 rfl rfl (vp_in_nI (n := (ol.toNatClampNeg + 2)) (by omega) (by omega)) dX1_mayStandFor_53 ?_
      refine k_top (y := (bnd (ol.toNatClampNeg + 2))) (by rw [nI_clamp (by omega)]) ?_
      refine lv_icmp_lt (tgt := 80) hx hb dX1_mayStandFor_54 (by decide) (fun c_3 => ?_) (fun c_3 => ?_)
      · refine lv_iconst (v := 0) hx hb dX1_mayStandFor_80 (by decide) ?_
        have hE2 : (f_X1_mayStandFor bnd pl ol) = 0 := by
          exact (if_neg c_1).trans ((if_neg c_2).trans ((if_pos c_3).trans (rfl)))
        subst hQ
        exact k_rz hx hb hr hlocks hP hD hS dX1_mayStandFor_81 (by rfl) (hE2.symm) (rfl)
      · refine lv_aload_n hx hb dX1_mayStandFor_57 rfl (lv_at hl 0 rfl) ?_
        refine va_get (D := D) (ci := 1) (v := .ref c1) (C := RX1) (T := TX1) (N := 1) hx hb hts (fun w h => (List.mem_cons_of_mem _ (List.mem_append_right _ h))) hown hK hP 0 rfl rfl 0 (by decide) (hts _ qX1_mayStandFor_0) (fun _ h9 => h9) rfl dX1_mayStandFor_58 ?_
        refine lv_iload_n hx hb dX1_mayStandFor_61 rfl (lv_at hl 1 rfl) ?_
        refine lv_iconst (v := 3) hx hb dX1_mayStandFor_62 (by decide) ?_
        refine lv_iadd hx hb dX1_mayStandFor_63 ?_
        refine k_top (y := (nI (pl.toNatClampNeg + 3))) (k_addc h0 3) ?_
        refine va_iald (i := (nI (pl.toNatClampNeg + 3))) hx hb hK hP 1 0 rfl rfl (vp_in_nI (n := (pl.toNatClampNeg + 3)) (by omega) (by omega)) dX1_mayStandFor_64 ?_
        refine k_top (y := (bnd (pl.toNatClampNeg + 3))) (by rw [nI_clamp (by omega)]) ?_
        refine lv_aload_n hx hb dX1_mayStandFor_65 rfl (lv_at hl 0 rfl) ?_
        refine va_get (D := D) (ci := 1) (v := .ref c1) (C := RX1) (T := TX1) (N := 1) hx hb hts (fun w h => (List.mem_cons_of_mem _ (List.mem_append_right _ h))) hown hK hP 0 rfl rfl 0 (by decide) (hts _ qX1_mayStandFor_0) (fun _ h9 => h9) rfl dX1_mayStandFor_66 ?_
        refine lv_iload_n hx hb dX1_mayStandFor_69 rfl (lv_at hl 2 rfl) ?_
        refine lv_iconst (v := 3) hx hb dX1_mayStandFor_70 (by decide) ?_
        refine lv_iadd hx hb dX1_mayStandFor_71 ?_
        refine k_top (y := (nI (ol.toNatClampNeg + 3))) (k_addc h1 3) ?_
        refine va_iald (i := (nI (ol.toNatClampNeg + 3))) hx hb hK hP 1 0 rfl rfl (vp_in_nI (n := (ol.toNatClampNeg + 3)) (by omega) (by omega)) dX1_mayStandFor_72 ?_
        refine k_top (y := (bnd (ol.toNatClampNeg + 3))) (by rw [nI_clamp (by omega)]) ?_
        refine lv_icmp_gt (tgt := 80) hx hb dX1_mayStandFor_73 (by decide) (fun c_4 => ?_) (fun c_4 => ?_)
        · refine lv_iconst (v := 0) hx hb dX1_mayStandFor_80 (by decide) ?_
          have hE2 : (f_X1_mayStandFor bnd pl ol) = 0 := by
            exact (if_neg c_1).trans ((if_neg c_2).trans ((if_neg c_3).trans ((if_pos c_4).trans (rfl))))
          subst hQ
          exact k_rz hx hb hr hlocks hP hD hS dX1_mayStandFor_81 (by rfl) (hE2.symm) (rfl)
        · refine lv_iconst (v := 1) hx hb dX1_mayStandFor_76 (by decide) ?_
          refine lv_goto (tgt := 81) hx hb dX1_mayStandFor_77 (by decide) ?_
          have hE2 : (f_X1_mayStandFor bnd pl ol) = 1 := by
            exact (if_neg c_1).trans ((if_neg c_2).trans ((if_neg c_3).trans ((if_neg c_4).trans (rfl))))
          subst hQ
          exact k_rz hx hb hr hlocks hP hD hS dX1_mayStandFor_81 (by rfl) (hE2.symm) (rfl)
theorem k_fN0 {bnd : Nat → Int32} {caller p : Int32} (h : ¬ f_X1_find bnd caller p = -10000) : ¬ f_X1_find bnd caller p < 0 := by
  obtain ⟨k, hk, e⟩ := k_findN h
  rw [e]
  exact nI_pos (by omega)
theorem k_fN3 {bnd : Nat → Int32} {caller p : Int32} (h : ¬ f_X1_find bnd caller p = -10000) : (f_X1_find bnd caller p).toNatClampNeg + 3 < 480 := by
  obtain ⟨k, hk, e⟩ := k_findN h
  rw [e, nI_clamp (by omega)]
  omega
/-- how many contracts stand in the first k places of a row -/
def cRow (bnd : Nat → Int32) (row : Nat) : Nat → Int32
  | 0 => 0
  | k + 1 => if bnd ((row * 10 + k) * 4) = -10000 then cRow bnd row k else cRow bnd row k + 1
theorem qX1_countRow_0 : Cond.fieldLink RX1 11 "BlameChains$Contracts" "bounds" "[I" ∈ wsX1_countRow := (List.mem_cons_of_mem _ (List.mem_append_left _ (List.mem_of_getElem? (i := 0) rfl)))
set_option maxHeartbeats 4000000 in
set_option maxRecDepth 100000 in
theorem c_X1_countRow (l : Launch) (D : va_G) (g : Nat → Nat) (c0 c1 : Nat) (sz : Nat) (bnd : Nat → Int32) (row : Nat) (hrow : row < 12) : kMi l D g yX1_countRow wsX1_countRow 2 0 0 [.ref c0, .int (nI row)] [(c0, .inr (1, [.ref c1])), (c1, .inl (g 0, 480, .inl bnd))] sz (cRow bnd row 10) [(c0, .inr (1, [.ref c1])), (c1, .inl (g 0, 480, .inl bnd))] := by
  refine k_enter (nm := "countRow") (own := RX1) (bytes := cX1_countRow) (maxL := 4) (ret := (some .int)) (Qf := fun A => kQi D [(c0, .inr (1, [.ref c1])), (c1, .inl (g 0, 480, .inl bnd))] A (cRow bnd row 10)) (by decide) rfl rfl rfl (Nat.le_of_ble_eq_true rfl) ?_
  rintro pp ee s mm below meth cc A ls args Q H locs hQ ⟨hx, hb, hr, hml, hown, hts, hlocks, hin⟩ hP hK hD hA hS hE hl
  have hl : lv_has ls 4 [(0, .ref c0), (1, .int (nI row))] := hl
  refine lv_iconst (v := 0) hx hb dX1_countRow_0 (by decide) ?_
  refine lv_istore_n (lv' := [(2, .int 0), (0, .ref c0), (1, .int (nI row))]) hx hb dX1_countRow_1 rfl hl (by decide) rfl (fun ls hl => ?_)
  refine lv_iconst (v := 0) hx hb dX1_countRow_2 (by decide) ?_
  refine lv_istore_n (lv' := [(3, .int 0), (2, .int 0), (0, .ref c0), (1, .int (nI row))]) hx hb dX1_countRow_3 rfl hl (by decide) rfl (fun ls hl => ?_)
  have hloop_4 : ∀ (nn_4 : Nat) (k : Nat) (a : Int32), 10 - k < nn_4 → ∀ (hk : k ≤ 10) (ha : a = cRow bnd row k) (H : Heap) (locs : List Loc) (ls : Array Slot), va_P D vwCl [(c0, .inr (1, [.ref c1])), (c1, .inl (g 0, 480, .inl bnd))] H → va_D A [(c0, .inr (1, [.ref c1])), (c1, .inl (g 0, 480, .inl bnd))] → va_S A s.heap H locs → lv_has ls 4 [(3, .int (nI k)), (2, .int a), (0, .ref c0), (1, .int (nI row))] → W pp l ee (kR 2 0 0) s mm args below meth cc H locs 0 0 Q (F0 mm 4 ls []) := by
    intro nn_4
    induction nn_4 with
    | zero => intro k a hm9; exact absurd hm9 (Nat.not_lt_zero _)
    | succ nn_4 ih_4 =>
      intro k a hm_4 hk ha H locs ls hP hD hS hl
      refine lv_iload_n hx hb dX1_countRow_4 rfl (lv_at hl 0 rfl) ?_
      refine lv_bipush (v := 10) hx hb dX1_countRow_5 (by decide) ?_
      refine lv_icmp_ge (tgt := 35) hx hb dX1_countRow_7 (by decide) (fun c_1 => ?_) (fun c_1 => ?_)
      · have c_1 : 10 ≤ k := (nI_leI (a := 10) (b := k) (by omega) (by omega)).mp c_1
        refine lv_iload_n hx hb dX1_countRow_35 rfl (lv_at hl 1 rfl) ?_
        subst hQ
        exact k_ri hx hb hr hlocks hP hD hS dX1_countRow_36 (by rw [ha, show k = 10 by omega]) (rfl)
      · have c_1 : ¬ (10 ≤ k) := fun h9 => c_1 ((nI_leI (a := 10) (b := k) (by omega) (by omega)).mpr h9)
        refine lv_aload_n hx hb dX1_countRow_10 rfl (lv_at hl 2 rfl) ?_
        refine va_get (D := D) (ci := 1) (v := .ref c1) (C := RX1) (T := TX1) (N := 1) hx hb hts (fun w h => (List.mem_cons_of_mem _ (List.mem_append_right _ h))) hown hK hP 0 rfl rfl 0 (by decide) (hts _ qX1_countRow_0) (fun _ h9 => h9) rfl dX1_countRow_11 ?_
        refine lv_iload_n hx hb dX1_countRow_14 rfl (lv_at hl 3 rfl) ?_
        refine lv_iload_n hx hb dX1_countRow_15 rfl (lv_at hl 0 rfl) ?_
        refine k_ai (wr := [(c0, .inr (1, [.ref c1])), (c1, .inl (g 0, 480, .inl bnd))]) (w2 := [(c0, .inr (1, [.ref c1])), (c1, .inl (g 0, 480, .inl bnd))]) (va_runS (As := [.int (nI row), .int (nI k)]) (rest := [.ref c1]) ⟨hx, hb, hml, hown, hts⟩ (c_X1_place l D g H.size (nI row) (nI k)) (va_cwS 2 hts gX1_countRow_X1_place rfl rfl rfl (by decide +kernel) (k_lvl (by omega) (by decide))) (kPS hP hD hK hS hA hE [] rfl (by decide)) rfl rfl hl.1 rfl (lv_room (Nat.le_of_ble_eq_true rfl)) dX1_countRow_16 ⟨Nat.le_of_ble_eq_true rfl, Nat.le_of_ble_eq_true rfl⟩) hP hD hS hA [] [0, 1] [0, 1] rfl rfl (by decide) (by decide) rfl (by decide) (fun H locs hP hD hS => ?_)
        refine k_top (y := (nI ((row * 10 + k) * 4))) (k_place _ _) ?_
        refine va_iald (i := (nI ((row * 10 + k) * 4))) hx hb hK hP 1 0 rfl rfl (vp_in_nI (n := ((row * 10 + k) * 4)) (by omega) (by omega)) dX1_countRow_19 ?_
        refine k_top (y := (bnd ((row * 10 + k) * 4))) (by rw [nI_clamp (by omega)]) ?_
        refine lv_sipush (v := (-10000)) hx hb dX1_countRow_20 (by decide) ?_
        refine lv_icmp_eq (tgt := 29) hx hb dX1_countRow_23 (by decide) (fun c_2 => ?_) (fun c_2 => ?_)
        · refine lv_iinc (v := (nI (k + 1))) (lv' := [(3, .int (nI (k + 1))), (2, .int a), (0, .ref c0), (1, .int (nI row))]) hx hb dX1_countRow_29 hl (k := 0) rfl (nI_1 _) (by decide) rfl (fun ls hl => ?_)
          refine lv_goto (tgt := 4) hx hb dX1_countRow_32 (by decide) ?_
          exact ih_4 (k + 1) a (by omega) (by omega) (by rw [cRow, if_pos c_2, ha]) H locs ls hP hD hS (lv_sub hl [0, 1, 2, 3] rfl)
        · refine lv_iinc (v := (a + 1)) (lv' := [(2, .int (a + 1)), (3, .int (nI k)), (0, .ref c0), (1, .int (nI row))]) hx hb dX1_countRow_26 hl (k := 1) rfl (rfl) (by decide) rfl (fun ls hl => ?_)
          refine lv_iinc (v := (nI (k + 1))) (lv' := [(3, .int (nI (k + 1))), (2, .int (a + 1)), (0, .ref c0), (1, .int (nI row))]) hx hb dX1_countRow_29 hl (k := 1) rfl (nI_1 _) (by decide) rfl (fun ls hl => ?_)
          refine lv_goto (tgt := 4) hx hb dX1_countRow_32 (by decide) ?_
          exact ih_4 (k + 1) (a + 1) (by omega) (by omega) (by rw [cRow, if_neg c_2, ha]) H locs ls hP hD hS (lv_sub hl [0, 1, 2, 3] rfl)
  exact hloop_4 ((10 - 0) + 1) 0 0 (Nat.lt_succ_self _) (by omega) rfl H locs ls hP hD hS (lv_sub hl [0, 1, 2, 3] rfl)
set_option maxHeartbeats 4000000 in
set_option maxRecDepth 100000 in
theorem c_X1_countOwn (l : Launch) (D : va_G) (g : Nat → Nat) (c0 c1 : Nat) (sz : Nat) (bnd : Nat → Int32) : kMi l D g yX1_countOwn wsX1_countOwn 3 0 0 [.ref c0] [(c0, .inr (1, [.ref c1])), (c1, .inl (g 0, 480, .inl bnd))] sz (cRow bnd 11 10) [(c0, .inr (1, [.ref c1])), (c1, .inl (g 0, 480, .inl bnd))] := by
  refine k_enter (nm := "countOwn") (own := RX1) (bytes := cX1_countOwn) (maxL := 1) (ret := (some .int)) (Qf := fun A => kQi D [(c0, .inr (1, [.ref c1])), (c1, .inl (g 0, 480, .inl bnd))] A (cRow bnd 11 10)) (by decide) rfl rfl rfl (Nat.le_of_ble_eq_true rfl) ?_
  rintro pp ee s mm below meth cc A ls args Q H locs hQ ⟨hx, hb, hr, hml, hown, hts, hlocks, hin⟩ hP hK hD hA hS hE hl
  have hl : lv_has ls 1 [(0, .ref c0)] := hl
  refine lv_aload_n hx hb dX1_countOwn_0 rfl (lv_at hl 0 rfl) ?_
  refine lv_bipush (v := 11) hx hb dX1_countOwn_1 (by decide) ?_
  refine k_ai (wr := []) (w2 := [(c0, .inr (1, [.ref c1])), (c1, .inl (g 0, 480, .inl bnd))]) (va_runV (As := [.int 11]) (rest := []) ⟨hx, hb, hml, hown, hts⟩ (c_X1_countRow l D g c0 c1 H.size bnd 11 (by omega)) (cwV 1 hts gX1_countOwn_X1_countRow rfl rfl rfl (by decide +kernel) (k_lvl (by omega) (by decide))) (kPV hP hD hK hS hA hE [0, 1] rfl (by decide) 0 1 rfl rfl rfl) rfl rfl hl.1 rfl (lv_room (Nat.le_of_ble_eq_true rfl)) dX1_countOwn_3 ⟨Nat.le_of_ble_eq_true rfl, Nat.le_of_ble_eq_true rfl⟩) hP hD hS hA [0, 1] [] [0, 1] rfl rfl (by decide) (by decide) rfl (by decide) (fun H locs hP hD hS => ?_)
  subst hQ
  exact k_ri hx hb hr hlocks hP hD hS dX1_countOwn_6 (rfl) (rfl)
def cLnk (bnd : Nat → Int32) : Nat → Int32
  | 0 => 0
  | k + 1 => cLnk bnd k + cRow bnd k 10
set_option maxHeartbeats 4000000 in
set_option maxRecDepth 100000 in
theorem c_X1_countLinks (l : Launch) (D : va_G) (g : Nat → Nat) (c0 c1 : Nat) (sz : Nat) (bnd : Nat → Int32) : kMi l D g yX1_countLinks wsX1_countLinks 3 0 0 [.ref c0] [(c0, .inr (1, [.ref c1])), (c1, .inl (g 0, 480, .inl bnd))] sz (cLnk bnd 11) [(c0, .inr (1, [.ref c1])), (c1, .inl (g 0, 480, .inl bnd))] := by
  refine k_enter (nm := "countLinks") (own := RX1) (bytes := cX1_countLinks) (maxL := 3) (ret := (some .int)) (Qf := fun A => kQi D [(c0, .inr (1, [.ref c1])), (c1, .inl (g 0, 480, .inl bnd))] A (cLnk bnd 11)) (by decide) rfl rfl rfl (Nat.le_of_ble_eq_true rfl) ?_
  rintro pp ee s mm below meth cc A ls args Q H locs hQ ⟨hx, hb, hr, hml, hown, hts, hlocks, hin⟩ hP hK hD hA hS hE hl
  have hl : lv_has ls 3 [(0, .ref c0)] := hl
  refine lv_iconst (v := 0) hx hb dX1_countLinks_0 (by decide) ?_
  refine lv_istore_n (lv' := [(1, .int 0), (0, .ref c0)]) hx hb dX1_countLinks_1 rfl hl (by decide) rfl (fun ls hl => ?_)
  refine lv_iconst (v := 0) hx hb dX1_countLinks_2 (by decide) ?_
  refine lv_istore_n (lv' := [(2, .int 0), (1, .int 0), (0, .ref c0)]) hx hb dX1_countLinks_3 rfl hl (by decide) rfl (fun ls hl => ?_)
  have hloop_4 : ∀ (nn_4 : Nat) (k : Nat) (a : Int32), 11 - k < nn_4 → ∀ (hk : k ≤ 11) (ha : a = cLnk bnd k) (H : Heap) (locs : List Loc) (ls : Array Slot), va_P D vwCl [(c0, .inr (1, [.ref c1])), (c1, .inl (g 0, 480, .inl bnd))] H → va_D A [(c0, .inr (1, [.ref c1])), (c1, .inl (g 0, 480, .inl bnd))] → va_S A s.heap H locs → lv_has ls 3 [(2, .int (nI k)), (1, .int a), (0, .ref c0)] → W pp l ee (kR 3 0 0) s mm args below meth cc H locs 0 0 Q (F0 mm 4 ls []) := by
    intro nn_4
    induction nn_4 with
    | zero => intro k a hm9; exact absurd hm9 (Nat.not_lt_zero _)
    | succ nn_4 ih_4 =>
      intro k a hm_4 hk ha H locs ls hP hD hS hl
      refine lv_iload_n hx hb dX1_countLinks_4 rfl (lv_at hl 0 rfl) ?_
      refine lv_bipush (v := 10) hx hb dX1_countLinks_5 (by decide) ?_
      refine lv_icmp_gt (tgt := 24) hx hb dX1_countLinks_7 (by decide) (fun c_1 => ?_) (fun c_1 => ?_)
      · have c_1 : 10 < k := (nI_ltI (a := 10) (b := k) (by omega) (by omega)).mp c_1
        refine lv_iload_n hx hb dX1_countLinks_24 rfl (lv_at hl 1 rfl) ?_
        subst hQ
        exact k_ri hx hb hr hlocks hP hD hS dX1_countLinks_25 (by rw [ha, show k = 11 by omega]) (rfl)
      · have c_1 : ¬ (10 < k) := fun h9 => c_1 ((nI_ltI (a := 10) (b := k) (by omega) (by omega)).mpr h9)
        refine lv_iload_n hx hb dX1_countLinks_10 rfl (lv_at hl 1 rfl) ?_
        refine lv_aload_n hx hb dX1_countLinks_11 rfl (lv_at hl 2 rfl) ?_
        refine lv_iload_n hx hb dX1_countLinks_12 rfl (lv_at hl 0 rfl) ?_
        refine k_ai (wr := []) (w2 := [(c0, .inr (1, [.ref c1])), (c1, .inl (g 0, 480, .inl bnd))]) (va_runV (As := [.int (nI k)]) (rest := [.int a]) ⟨hx, hb, hml, hown, hts⟩ (c_X1_countRow l D g c0 c1 H.size bnd k (by omega)) (cwV 1 hts gX1_countLinks_X1_countRow rfl rfl rfl (by decide +kernel) (k_lvl (by omega) (by decide))) (kPV hP hD hK hS hA hE [0, 1] rfl (by decide) 0 1 rfl rfl rfl) rfl rfl hl.1 rfl (lv_room (Nat.le_of_ble_eq_true rfl)) dX1_countLinks_13 ⟨Nat.le_of_ble_eq_true rfl, Nat.le_of_ble_eq_true rfl⟩) hP hD hS hA [0, 1] [] [0, 1] rfl rfl (by decide) (by decide) rfl (by decide) (fun H locs hP hD hS => ?_)
        refine lv_iadd hx hb dX1_countLinks_16 ?_
        refine lv_istore_n (lv' := [(1, .int (a + cRow bnd k 10)), (2, .int (nI k)), (0, .ref c0)]) hx hb dX1_countLinks_17 rfl hl (by decide) rfl (fun ls hl => ?_)
        refine lv_iinc (v := (nI (k + 1))) (lv' := [(2, .int (nI (k + 1))), (1, .int (a + cRow bnd k 10)), (0, .ref c0)]) hx hb dX1_countLinks_18 hl (k := 1) rfl (nI_1 _) (by decide) rfl (fun ls hl => ?_)
        refine lv_goto (tgt := 4) hx hb dX1_countLinks_21 (by decide) ?_
        exact ih_4 (k + 1) (a + cRow bnd k 10) (by omega) (by omega) (by rw [cLnk, ha]) H locs ls hP hD hS (lv_sub hl [0, 1, 2] rfl)
  exact hloop_4 ((11 - 0) + 1) 0 0 (Nat.lt_succ_self _) (by omega) rfl H locs ls hP hD hS (lv_sub hl [0, 1, 2] rfl)
/-- holes in the first k places of a row -/
def cHo (bnd : Nat → Int32) (row : Nat) : Nat → Int32
  | 0 => 0
  | k + 1 => if bnd ((row * 10 + k) * 4) = -10000 then cHo bnd row k else if bnd ((11 * 10 + k) * 4) = -10000 then cHo bnd row k else if f_X1_mayStandFor bnd (nI ((11 * 10 + k) * 4)) (nI ((row * 10 + k) * 4)) = 0 then cHo bnd row k + 1 else cHo bnd row k
def cHs (bnd : Nat → Int32) : Nat → Int32
  | 0 => 0
  | k + 1 => cHs bnd k + cHo bnd k 10
theorem qX1_countHoles_0 : Cond.fieldLink RX1 11 "BlameChains$Contracts" "bounds" "[I" ∈ wsX1_countHoles := (List.mem_cons_of_mem _ (List.mem_append_left _ (List.mem_of_getElem? (i := 0) rfl)))
set_option maxHeartbeats 4000000 in
set_option maxRecDepth 100000 in
theorem c_X1_countHoles (l : Launch) (D : va_G) (g : Nat → Nat) (c0 c1 : Nat) (sz : Nat) (bnd : Nat → Int32) : kMi l D g yX1_countHoles wsX1_countHoles 2 0 0 [.ref c0] [(c0, .inr (1, [.ref c1])), (c1, .inl (g 0, 480, .inl bnd))] sz (cHs bnd 11) [(c0, .inr (1, [.ref c1])), (c1, .inl (g 0, 480, .inl bnd))] := by
  refine k_enter (nm := "countHoles") (own := RX1) (bytes := cX1_countHoles) (maxL := 6) (ret := (some .int)) (Qf := fun A => kQi D [(c0, .inr (1, [.ref c1])), (c1, .inl (g 0, 480, .inl bnd))] A (cHs bnd 11)) (by decide) rfl rfl rfl (Nat.le_of_ble_eq_true rfl) ?_
  rintro pp ee s mm below meth cc A ls args Q H locs hQ ⟨hx, hb, hr, hml, hown, hts, hlocks, hin⟩ hP hK hD hA hS hE hl
  have hl : lv_has ls 6 [(0, .ref c0)] := hl
  refine lv_iconst (v := 0) hx hb dX1_countHoles_0 (by decide) ?_
  refine lv_istore_n (lv' := [(1, .int 0), (0, .ref c0)]) hx hb dX1_countHoles_1 rfl hl (by decide) rfl (fun ls hl => ?_)
  refine lv_iconst (v := 0) hx hb dX1_countHoles_2 (by decide) ?_
  refine lv_istore_n (lv' := [(2, .int 0), (1, .int 0), (0, .ref c0)]) hx hb dX1_countHoles_3 rfl hl (by decide) rfl (fun ls hl => ?_)
  have hloop_4 : ∀ (nn_4 : Nat) (r : Nat) (a : Int32), 11 - r < nn_4 → ∀ (hr9 : r ≤ 11) (ha : a = cHs bnd r) (H : Heap) (locs : List Loc) (ls : Array Slot), va_P D vwCl [(c0, .inr (1, [.ref c1])), (c1, .inl (g 0, 480, .inl bnd))] H → va_D A [(c0, .inr (1, [.ref c1])), (c1, .inl (g 0, 480, .inl bnd))] → va_S A s.heap H locs → lv_has ls 6 [(2, .int (nI r)), (1, .int a), (0, .ref c0)] → W pp l ee (kR 2 0 0) s mm args below meth cc H locs 0 0 Q (F0 mm 4 ls []) := by
    intro nn_4
    induction nn_4 with
    | zero => intro r a hm9; exact absurd hm9 (Nat.not_lt_zero _)
    | succ nn_4 ih_4 =>
      intro r a hm_4 hr9 ha H locs ls hP hD hS hl
      refine lv_iload_n hx hb dX1_countHoles_4 rfl (lv_at hl 0 rfl) ?_
      refine lv_bipush (v := 10) hx hb dX1_countHoles_5 (by decide) ?_
      refine lv_icmp_gt (tgt := 85) hx hb dX1_countHoles_7 (by decide) (fun c_1 => ?_) (fun c_1 => ?_)
      · have c_1 : 10 < r := (nI_ltI (a := 10) (b := r) (by omega) (by omega)).mp c_1
        refine lv_iload_n hx hb dX1_countHoles_85 rfl (lv_at hl 1 rfl) ?_
        subst hQ
        exact k_ri hx hb hr hlocks hP hD hS dX1_countHoles_86 (by rw [ha, show r = 11 by omega]) (rfl)
      · have c_1 : ¬ (10 < r) := fun h9 => c_1 ((nI_ltI (a := 10) (b := r) (by omega) (by omega)).mpr h9)
        refine lv_iconst (v := 0) hx hb dX1_countHoles_10 (by decide) ?_
        refine lv_istore_n (lv' := [(3, .int 0), (2, .int (nI r)), (1, .int a), (0, .ref c0)]) hx hb dX1_countHoles_11 rfl hl (by decide) rfl (fun ls hl => ?_)
        have hloop_12 : ∀ (nn_12 : Nat) (k : Nat) (b : Int32), 10 - k < nn_12 → ∀ (hk : k ≤ 10) (hb9 : b = a + cHo bnd r k) (H : Heap) (locs : List Loc) (ls : Array Slot), va_P D vwCl [(c0, .inr (1, [.ref c1])), (c1, .inl (g 0, 480, .inl bnd))] H → va_D A [(c0, .inr (1, [.ref c1])), (c1, .inl (g 0, 480, .inl bnd))] → va_S A s.heap H locs → lv_has ls 6 [(3, .int (nI k)), (1, .int b), (2, .int (nI r)), (0, .ref c0)] → W pp l ee (kR 2 0 0) s mm args below meth cc H locs 0 0 Q (F0 mm 12 ls []) := by
          intro nn_12
          induction nn_12 with
          | zero => intro k b hm9; exact absurd hm9 (Nat.not_lt_zero _)
          | succ nn_12 ih_12 =>
            intro k b hm_12 hk hb9 H locs ls hP hD hS hl
            refine lv_iload_n hx hb dX1_countHoles_12 rfl (lv_at hl 0 rfl) ?_
            refine lv_bipush (v := 10) hx hb dX1_countHoles_13 (by decide) ?_
            refine lv_icmp_ge (tgt := 79) hx hb dX1_countHoles_15 (by decide) (fun c_2 => ?_) (fun c_2 => ?_)
            · have c_2 : 10 ≤ k := (nI_leI (a := 10) (b := k) (by omega) (by omega)).mp c_2
              refine lv_iinc (v := (nI (r + 1))) (lv' := [(2, .int (nI (r + 1))), (3, .int (nI k)), (1, .int b), (0, .ref c0)]) hx hb dX1_countHoles_79 hl (k := 2) rfl (nI_1 _) (by decide) rfl (fun ls hl => ?_)
              refine lv_goto (tgt := 4) hx hb dX1_countHoles_82 (by decide) ?_
              exact ih_4 (r + 1) b (by omega) (by omega) (by rw [cHs, hb9, ha, show k = 10 by omega]) H locs ls hP hD hS (lv_sub hl [0, 2, 3] rfl)
            · have c_2 : ¬ (10 ≤ k) := fun h9 => c_2 ((nI_leI (a := 10) (b := k) (by omega) (by omega)).mpr h9)
              refine lv_iload_n hx hb dX1_countHoles_18 rfl (lv_at hl 2 rfl) ?_
              refine lv_iload_n hx hb dX1_countHoles_19 rfl (lv_at hl 0 rfl) ?_
              refine k_ai (wr := [(c0, .inr (1, [.ref c1])), (c1, .inl (g 0, 480, .inl bnd))]) (w2 := [(c0, .inr (1, [.ref c1])), (c1, .inl (g 0, 480, .inl bnd))]) (va_runS (As := [.int (nI r), .int (nI k)]) (rest := []) ⟨hx, hb, hml, hown, hts⟩ (c_X1_place l D g H.size (nI r) (nI k)) (va_cwS 2 hts gX1_countHoles_X1_place rfl rfl rfl (by decide +kernel) (k_lvl (by omega) (by decide))) (kPS hP hD hK hS hA hE [] rfl (by decide)) rfl rfl hl.1 rfl (lv_room (Nat.le_of_ble_eq_true rfl)) dX1_countHoles_20 ⟨Nat.le_of_ble_eq_true rfl, Nat.le_of_ble_eq_true rfl⟩) hP hD hS hA [] [0, 1] [0, 1] rfl rfl (by decide) (by decide) rfl (by decide) (fun H locs hP hD hS => ?_)
              refine k_top (y := (nI ((r * 10 + k) * 4))) (k_place _ _) ?_
              refine lv_istore (lv' := [(4, .int (nI ((r * 10 + k) * 4))), (3, .int (nI k)), (1, .int b), (2, .int (nI r)), (0, .ref c0)]) hx hb dX1_countHoles_23 hl (by decide) rfl (fun ls hl => ?_)
              refine lv_bipush (v := 11) hx hb dX1_countHoles_25 (by decide) ?_
              refine lv_iload_n hx hb dX1_countHoles_27 rfl (lv_at hl 1 rfl) ?_
              refine k_ai (wr := [(c0, .inr (1, [.ref c1])), (c1, .inl (g 0, 480, .inl bnd))]) (w2 := [(c0, .inr (1, [.ref c1])), (c1, .inl (g 0, 480, .inl bnd))]) (va_runS (As := [.int 11, .int (nI k)]) (rest := []) ⟨hx, hb, hml, hown, hts⟩ (c_X1_place l D g H.size 11 (nI k)) (va_cwS 2 hts gX1_countHoles_X1_place rfl rfl rfl (by decide +kernel) (k_lvl (by omega) (by decide))) (kPS hP hD hK hS hA hE [] rfl (by decide)) rfl rfl hl.1 rfl (lv_room (Nat.le_of_ble_eq_true rfl)) dX1_countHoles_28 ⟨Nat.le_of_ble_eq_true rfl, Nat.le_of_ble_eq_true rfl⟩) hP hD hS hA [] [0, 1] [0, 1] rfl rfl (by decide) (by decide) rfl (by decide) (fun H locs hP hD hS => ?_)
              refine k_top (y := (nI ((11 * 10 + k) * 4))) (k_place _ _) ?_
              refine lv_istore (lv' := [(5, .int (nI ((11 * 10 + k) * 4))), (4, .int (nI ((r * 10 + k) * 4))), (3, .int (nI k)), (1, .int b), (2, .int (nI r)), (0, .ref c0)]) hx hb dX1_countHoles_31 hl (by decide) rfl (fun ls hl => ?_)
              refine lv_aload_n hx hb dX1_countHoles_33 rfl (lv_at hl 5 rfl) ?_
              refine va_get (D := D) (ci := 1) (v := .ref c1) (C := RX1) (T := TX1) (N := 1) hx hb hts (fun w h => (List.mem_cons_of_mem _ (List.mem_append_right _ h))) hown hK hP 0 rfl rfl 0 (by decide) (hts _ qX1_countHoles_0) (fun _ h9 => h9) rfl dX1_countHoles_34 ?_
              refine lv_iload hx hb dX1_countHoles_37 (lv_at hl 1 rfl) ?_
              refine va_iald (i := (nI ((r * 10 + k) * 4))) hx hb hK hP 1 0 rfl rfl (vp_in_nI (n := ((r * 10 + k) * 4)) (by omega) (by omega)) dX1_countHoles_39 ?_
              refine k_top (y := (bnd ((r * 10 + k) * 4))) (by rw [nI_clamp (by omega)]) ?_
              refine lv_sipush (v := (-10000)) hx hb dX1_countHoles_40 (by decide) ?_
              refine lv_icmp_eq (tgt := 73) hx hb dX1_countHoles_43 (by decide) (fun c_3 => ?_) (fun c_3 => ?_)
              · refine lv_iinc (v := (nI (k + 1))) (lv' := [(3, .int (nI (k + 1))), (5, .int (nI ((11 * 10 + k) * 4))), (4, .int (nI ((r * 10 + k) * 4))), (1, .int b), (2, .int (nI r)), (0, .ref c0)]) hx hb dX1_countHoles_73 hl (k := 2) rfl (nI_1 _) (by decide) rfl (fun ls hl => ?_)
                refine lv_goto (tgt := 12) hx hb dX1_countHoles_76 (by decide) ?_
                exact ih_12 (k + 1) b (by omega) (by omega) (by rw [cHo, if_pos c_3, hb9]) H locs ls hP hD hS (lv_sub hl [0, 3, 4, 5] rfl)
              · refine lv_aload_n hx hb dX1_countHoles_46 rfl (lv_at hl 5 rfl) ?_
                refine va_get (D := D) (ci := 1) (v := .ref c1) (C := RX1) (T := TX1) (N := 1) hx hb hts (fun w h => (List.mem_cons_of_mem _ (List.mem_append_right _ h))) hown hK hP 0 rfl rfl 0 (by decide) (hts _ qX1_countHoles_0) (fun _ h9 => h9) rfl dX1_countHoles_47 ?_
                refine lv_iload hx hb dX1_countHoles_50 (lv_at hl 0 rfl) ?_
                refine va_iald (i := (nI ((11 * 10 + k) * 4))) hx hb hK hP 1 0 rfl rfl (vp_in_nI (n := ((11 * 10 + k) * 4)) (by omega) (by omega)) dX1_countHoles_52 ?_
                refine k_top (y := (bnd ((11 * 10 + k) * 4))) (by rw [nI_clamp (by omega)]) ?_
                refine lv_sipush (v := (-10000)) hx hb dX1_countHoles_53 (by decide) ?_
                refine lv_icmp_eq (tgt := 73) hx hb dX1_countHoles_56 (by decide) (fun c_4 => ?_) (fun c_4 => ?_)
                · refine lv_iinc (v := (nI (k + 1))) (lv' := [(3, .int (nI (k + 1))), (5, .int (nI ((11 * 10 + k) * 4))), (4, .int (nI ((r * 10 + k) * 4))), (1, .int b), (2, .int (nI r)), (0, .ref c0)]) hx hb dX1_countHoles_73 hl (k := 2) rfl (nI_1 _) (by decide) rfl (fun ls hl => ?_)
                  refine lv_goto (tgt := 12) hx hb dX1_countHoles_76 (by decide) ?_
                  exact ih_12 (k + 1) b (by omega) (by omega) (by rw [cHo, if_neg c_3, if_pos c_4, hb9]) H locs ls hP hD hS (lv_sub hl [0, 3, 4, 5] rfl)
                · refine lv_aload_n hx hb dX1_countHoles_59 rfl (lv_at hl 5 rfl) ?_
                  refine lv_iload hx hb dX1_countHoles_60 (lv_at hl 0 rfl) ?_
                  refine lv_iload hx hb dX1_countHoles_62 (lv_at hl 1 rfl) ?_
                  refine k_ai (wr := []) (w2 := [(c0, .inr (1, [.ref c1])), (c1, .inl (g 0, 480, .inl bnd))]) (va_runV (As := [.int (nI ((11 * 10 + k) * 4)), .int (nI ((r * 10 + k) * 4))]) (rest := []) ⟨hx, hb, hml, hown, hts⟩ (c_X1_mayStandFor l D g c0 c1 H.size bnd (nI ((11 * 10 + k) * 4)) (nI ((r * 10 + k) * 4)) (nI_pos (by omega)) (by rw [nI_clamp (by omega)]; omega) (nI_pos (by omega)) (by rw [nI_clamp (by omega)]; omega)) (cwV 2 hts gX1_countHoles_X1_mayStandFor rfl rfl rfl (by decide +kernel) (k_lvl (by omega) (by decide))) (kPV hP hD hK hS hA hE [0, 1] rfl (by decide) 0 1 rfl rfl rfl) rfl rfl hl.1 rfl (lv_room (Nat.le_of_ble_eq_true rfl)) dX1_countHoles_64 ⟨Nat.le_of_ble_eq_true rfl, Nat.le_of_ble_eq_true rfl⟩) hP hD hS hA [0, 1] [] [0, 1] rfl rfl (by decide) (by decide) rfl (by decide) (fun H locs hP hD hS => ?_)
                  refine lv_if_ne (tgt := 73) hx hb dX1_countHoles_67 (by decide) (fun c_5 => ?_) (fun c_5 => ?_)
                  · refine lv_iinc (v := (nI (k + 1))) (lv' := [(3, .int (nI (k + 1))), (5, .int (nI ((11 * 10 + k) * 4))), (4, .int (nI ((r * 10 + k) * 4))), (1, .int b), (2, .int (nI r)), (0, .ref c0)]) hx hb dX1_countHoles_73 hl (k := 2) rfl (nI_1 _) (by decide) rfl (fun ls hl => ?_)
                    refine lv_goto (tgt := 12) hx hb dX1_countHoles_76 (by decide) ?_
                    exact ih_12 (k + 1) b (by omega) (by omega) (by rw [cHo, if_neg c_3, if_neg c_4, if_neg c_5, hb9]) H locs ls hP hD hS (lv_sub hl [0, 3, 4, 5] rfl)
                  · refine lv_iinc (v := (b + 1)) (lv' := [(1, .int (b + 1)), (5, .int (nI ((11 * 10 + k) * 4))), (4, .int (nI ((r * 10 + k) * 4))), (3, .int (nI k)), (2, .int (nI r)), (0, .ref c0)]) hx hb dX1_countHoles_70 hl (k := 3) rfl (rfl) (by decide) rfl (fun ls hl => ?_)
                    refine lv_iinc (v := (nI (k + 1))) (lv' := [(3, .int (nI (k + 1))), (1, .int (b + 1)), (5, .int (nI ((11 * 10 + k) * 4))), (4, .int (nI ((r * 10 + k) * 4))), (2, .int (nI r)), (0, .ref c0)]) hx hb dX1_countHoles_73 hl (k := 3) rfl (nI_1 _) (by decide) rfl (fun ls hl => ?_)
                    refine lv_goto (tgt := 12) hx hb dX1_countHoles_76 (by decide) ?_
                    exact ih_12 (k + 1) (b + 1) (by omega) (by omega) (by rw [cHo, if_neg c_3, if_neg c_4, if_pos c_5, hb9]; ac_rfl) H locs ls hP hD hS (lv_sub hl [0, 1, 4, 5] rfl)
        exact hloop_12 ((10 - 0) + 1) 0 a (Nat.lt_succ_self _) (by omega) (by rw [cHo]; exact (Int32.add_zero _).symm) H locs ls hP hD hS (lv_sub hl [0, 2, 1, 3] rfl)
  exact hloop_4 ((11 - 0) + 1) 0 0 (Nat.lt_succ_self _) (by omega) rfl H locs ls hP hD hS (lv_sub hl [0, 1, 2] rfl)
