-- THE LAW, 2: what a method of the class is for the law
noncomputable section
theorem kdc_append (a1 : Int32) (S : KC) : kd_X7_append S.1 a1 = 0 ∨ kd_X7_append S.1 a1 = 1 ∨ kd_X7_append S.1 a1 = 2 := by
  unfold kd_X7_append
  try dsimp only
  repeat' split
  all_goals first | exact Or.inl rfl | exact Or.inr (Or.inl rfl) | exact Or.inr (Or.inr rfl)
theorem qL_append_h0 : Cond.classLink RL 13 "java/lang/IllegalArgumentException" ∈ wsL_append := (List.mem_cons_of_mem _ (List.mem_append_left _ (List.mem_append_left _ (List.mem_append_left _ (List.mem_append_left _ (List.mem_append_left _ (List.mem_of_getElem? (i := 0) rfl)))))))
theorem qL_append_h1 : Cond.classLink RL 15 "java/lang/IllegalStateException" ∈ wsL_append := (List.mem_cons_of_mem _ (List.mem_append_left _ (List.mem_append_left _ (List.mem_append_left _ (List.mem_append_left _ (List.mem_append_left _ (List.mem_of_getElem? (i := 1) rfl)))))))
set_option maxHeartbeats 4000000 in
set_option maxRecDepth 100000 in
theorem c_L_append (l : Launch) (D : va_G) (g : Nat → Nat) (o0 x0 : Nat) (ua ub : Nat → Nat → Nat) (sz : Nat) (S : KC) (a1 : Int32) (hst : l.stackTraces = false) (hln : S.1 ≤ 120) (hnx : S.2.2.2.2.2.1 < 14) (hkc : S.2.2.2.2.2.2.1 ≤ 14) (hpt : ¬ 10 < S.2.2.1.1) (hp1 : S.2.2.1.1 = nI S.2.2.1.1.toNatClampNeg) (hp2 : S.2.2.1.1.toNatClampNeg ≤ 10) : kMw l D g yL_append wsL_append 40 1 6 [.ref x0, .int a1, .ref o0] (wK g o0 x0 ua ub S) sz (kd_X7_append S.1 a1) (wK g o0 x0 ua ub (sL_append a1 S)) := by
  refine k_enterW (nm := "append") (own := RL) (bytes := cL_append) (maxL := 4) (ret := (some .int)) (hh := [(0, 9, 12, 13), (0, 9, 15, 15)]) (Qf := fun A => kQi D (wK g o0 x0 ua ub (sL_append a1 S)) A (kd_X7_append S.1 a1)) (by decide) rfl rfl rfl (Nat.le_of_ble_eq_true rfl) ?_
  rintro pp ee s mm below meth cc A ls args Q H locs hQ ⟨hx, hb, hr, hml, hown, hts, hlocks, hin⟩ hex hP hK hD hA hS hE hX hl
  have hl : lv_has ls 4 [(0, .ref x0), (1, .int a1), (2, .ref o0)] := hl
  subst hQ
  refine lv_aload_n hx hb dL_append_0 rfl (lv_at hl 2 rfl) ?_
  refine lv_iconst (v := 0) hx hb dL_append_1 (by decide) ?_
  refine lv_aload_n hx hb dL_append_2 rfl (lv_at hl 0 rfl) ?_
  refine lv_iload_n hx hb dL_append_3 rfl (lv_at hl 1 rfl) ?_
  by_cases hk : kd_X7_append S.1 a1 = 0
  ·
    have hC := c_X7_append l D g x0 (ua 0 0) (ua 1 0) (ua 2 0) (ua 3 0) (ua 4 0) (ua 5 0) (ua 6 0) (ua 0 1) H.size S.1 S.2.1 a1 hln hk
    obtain ⟨F1, hF1⟩ : ∃ z, z = (f_X7_append S.1 S.2.1 a1) := ⟨_, rfl⟩
    rw [← hF1] at hC
    refine k_aiS (w2 := (wK g o0 x0 ua ub (F1.2.1, F1.2.2, S.2.2.1, S.2.2.2.1, S.2.2.2.2.1, S.2.2.2.2.2.1, S.2.2.2.2.2.2.1, S.2.2.2.2.2.2.2.1, S.2.2.2.2.2.2.2.2.1, S.2.2.2.2.2.2.2.2.2.1, S.2.2.2.2.2.2.2.2.2.2.1, S.2.2.2.2.2.2.2.2.2.2.2))) (va_runV (As := [.int a1]) (rest := [.int 0, .ref o0]) ⟨hx, hb, hml, hown, hts⟩ hC (cwV 1 hts gL_append_X7_append rfl rfl rfl (by decide +kernel) (k_lvl (by omega) (by decide))) (kPV hP hD hK hS hA hE [1, 2, 3] rfl (by decide) 1 7 rfl rfl rfl) rfl rfl hl.1 rfl (lv_room (Nat.le_of_ble_eq_true rfl)) dL_append_4 ⟨Nat.le_of_ble_eq_true rfl, Nat.le_of_ble_eq_true rfl⟩) hP hD hS hA [1, 2, 3] rfl (by decide) rfl rfl (fun H locs hP hD hS => ?_)
    refine lv_i2l (v := Int32.toInt64 (nI (F1.1))) hx hb dL_append_7 rfl ?_
    refine va_last (i := 0) (x := Int32.toInt64 (nI (F1.1))) hx hb hK hP hD hS 0 4 rfl rfl (by unfold vp_in; decide) dL_append_8 (fun H locs hP hD hS => ?_)
    refine lv_goto (tgt := 18) hx hb dL_append_9 (by decide) ?_
    refine lv_iconst (v := 0) hx hb dL_append_18 (by decide) ?_
    refine W.widen (k := 1) (n := 6) (Nat.le_of_ble_eq_true rfl) (Nat.le_of_ble_eq_true rfl) ?_
    have hP : va_P D vwCl (wK g o0 x0 ua ub (F1.2.1, F1.2.2, S.2.2.1, S.2.2.2.1, S.2.2.2.2.1, S.2.2.2.2.2.1, S.2.2.2.2.2.2.1, S.2.2.2.2.2.2.2.1, S.2.2.2.2.2.2.2.2.1, S.2.2.2.2.2.2.2.2.2.1, S.2.2.2.2.2.2.2.2.2.2.1, vp_updL S.2.2.2.2.2.2.2.2.2.2.2 0 (Int32.toInt64 (nI (F1.1))))) H := hP
    have hD : va_D A (wK g o0 x0 ua ub (F1.2.1, F1.2.2, S.2.2.1, S.2.2.2.1, S.2.2.2.2.1, S.2.2.2.2.2.1, S.2.2.2.2.2.2.1, S.2.2.2.2.2.2.2.1, S.2.2.2.2.2.2.2.2.1, S.2.2.2.2.2.2.2.2.2.1, S.2.2.2.2.2.2.2.2.2.2.1, vp_updL S.2.2.2.2.2.2.2.2.2.2.2 0 (Int32.toInt64 (nI (F1.1))))) := hD
    subst hF1
    have hs : sL_append a1 S = ((f_X7_append S.1 S.2.1 a1).2.1, (f_X7_append S.1 S.2.1 a1).2.2, S.2.2.1, S.2.2.2.1, S.2.2.2.2.1, S.2.2.2.2.2.1, S.2.2.2.2.2.2.1, S.2.2.2.2.2.2.2.1, S.2.2.2.2.2.2.2.2.1, S.2.2.2.2.2.2.2.2.2.1, S.2.2.2.2.2.2.2.2.2.2.1, vp_updL S.2.2.2.2.2.2.2.2.2.2.2 0 (Int32.toInt64 (nI ((f_X7_append S.1 S.2.1 a1).1)))) := if_pos hk
    rw [← hs] at hP hD
    exact k_ri hx hb hr hlocks hP hD hS dL_append_19 hk.symm rfl
  ·
    have hC := c_X7_append_x l D g x0 (ua 0 0) (ua 1 0) (ua 2 0) (ua 3 0) (ua 4 0) (ua 5 0) (ua 6 0) (ua 0 1) H.size S.1 S.2.1 a1 hln hst hk
    rcases kdc_append a1 S with h1 | h1 | h1
    · exact absurd h1 hk
    · rw [h1, show ex_X7_append 1 = "java/lang/IllegalArgumentException" from rfl] at hC
      refine k_xc (E := "java/lang/IllegalArgumentException") (mc := 1) (ms := 6) (vx_runV (As := [.int a1]) (rest := [.int 0, .ref o0]) ⟨hx, hb, hml, hown, hts⟩ hC (cwV 1 hts gL_append_X7_append rfl rfl rfl (by decide +kernel) (k_lvl (by omega) (by decide))) (kPVx hP hD hK hS hA hE hX [1, 2, 3] rfl (by decide) 1 7 rfl rfl rfl) rfl rfl hl.1 rfl (lv_room (Nat.le_of_ble_eq_true rfl)) dL_append_4 ⟨Nat.le_of_ble_eq_true rfl, Nat.le_of_ble_eq_true rfl⟩) hP hD hS hA [1, 2, 3] rfl (fun ce q9 H locs hP hS hc1 hc2 hc3 => ?_)
      refine k_catch1 (own := RL) (E := "java/lang/IllegalArgumentException") hex hown hX (by decide) (by decide) (hts _ qL_append_h0) (by decide +kernel) hc1 hc2 hc3 ?_
      refine lv_astore_n (lv' := [(3, .ref q9), (0, .ref x0), (1, .int a1), (2, .ref o0)]) hx hb dL_append_12 rfl hl (by decide) rfl (fun ls hl => ?_)
      refine lv_iconst (v := 1) hx hb dL_append_13 (by decide) ?_
      refine W.widen (k := 1) (n := 6) (Nat.le_of_ble_eq_true rfl) (Nat.le_of_ble_eq_true rfl) ?_
      have hs : sL_append a1 S = S := if_neg hk
      rw [← hs] at hP hD
      exact k_ri hx hb hr hlocks hP hD hS dL_append_14 h1.symm rfl
    · rw [h1, show ex_X7_append 2 = "java/lang/IllegalStateException" from rfl] at hC
      refine k_xc (E := "java/lang/IllegalStateException") (mc := 1) (ms := 6) (vx_runV (As := [.int a1]) (rest := [.int 0, .ref o0]) ⟨hx, hb, hml, hown, hts⟩ hC (cwV 1 hts gL_append_X7_append rfl rfl rfl (by decide +kernel) (k_lvl (by omega) (by decide))) (kPVx hP hD hK hS hA hE hX [1, 2, 3] rfl (by decide) 1 7 rfl rfl rfl) rfl rfl hl.1 rfl (lv_room (Nat.le_of_ble_eq_true rfl)) dL_append_4 ⟨Nat.le_of_ble_eq_true rfl, Nat.le_of_ble_eq_true rfl⟩) hP hD hS hA [1, 2, 3] rfl (fun ce q9 H locs hP hS hc1 hc2 hc3 => ?_)
      refine k_catch2 (own := RL) (E := "java/lang/IllegalStateException") (E1 := "java/lang/IllegalArgumentException") hex hown hX (by decide) (hts _ qL_append_h0) (by decide +kernel) (by decide +kernel) (by decide) (by decide) (by decide) (hts _ qL_append_h1) (by decide +kernel) hc1 hc2 hc3 ?_
      refine lv_astore_n (lv' := [(3, .ref q9), (0, .ref x0), (1, .int a1), (2, .ref o0)]) hx hb dL_append_15 rfl hl (by decide) rfl (fun ls hl => ?_)
      refine lv_iconst (v := 2) hx hb dL_append_16 (by decide) ?_
      refine W.widen (k := 1) (n := 6) (Nat.le_of_ble_eq_true rfl) (Nat.le_of_ble_eq_true rfl) ?_
      have hs : sL_append a1 S = S := if_neg hk
      rw [← hs] at hP hD
      exact k_ri hx hb hr hlocks hP hD hS dL_append_17 h1.symm rfl
set_option maxHeartbeats 4000000 in
set_option maxRecDepth 100000 in
theorem c_7_clearText (l : Launch) (D : va_G) (g : Nat → Nat) (o0 x0 : Nat) (ua ub : Nat → Nat → Nat) (sz : Nat) (S : KC) (hst : l.stackTraces = false) (hln : S.1 ≤ 120) (hnx : S.2.2.2.2.2.1 < 14) (hkc : S.2.2.2.2.2.2.1 ≤ 14) (hpt : ¬ 10 < S.2.2.1.1) (hp1 : S.2.2.1.1 = nI S.2.2.1.1.toNatClampNeg) (hp2 : S.2.2.1.1.toNatClampNeg ≤ 10) : kMi l D g yX7_clearText wsX7_clearText 2 0 0 [.ref x0] (wK g o0 x0 ua ub S) sz (nI (f_X7_clearText S.1)) (wK g o0 x0 ua ub (sL_clearText S)) := k_frameS (c_X7_clearText l D g x0 (ua 0 0) (ua 1 0) (ua 2 0) (ua 3 0) (ua 4 0) (ua 5 0) (ua 6 0) (ua 0 1) sz S.1 S.2.1 hln) [1, 2, 3] rfl (by decide) rfl rfl
set_option maxHeartbeats 4000000 in
set_option maxRecDepth 100000 in
theorem c_7_errorPosition (l : Launch) (D : va_G) (g : Nat → Nat) (o0 x0 : Nat) (ua ub : Nat → Nat → Nat) (sz : Nat) (S : KC) (hst : l.stackTraces = false) (hln : S.1 ≤ 120) (hnx : S.2.2.2.2.2.1 < 14) (hkc : S.2.2.2.2.2.2.1 ≤ 14) (hpt : ¬ 10 < S.2.2.1.1) (hp1 : S.2.2.1.1 = nI S.2.2.1.1.toNatClampNeg) (hp2 : S.2.2.1.1.toNatClampNeg ≤ 10) : kMi l D g yX7_errorPosition wsX7_errorPosition 7 0 0 [.ref x0] (wK g o0 x0 ua ub S) sz (f_X7_errorPosition S.1 S.2.1) (wK g o0 x0 ua ub (sL_errorPosition S)) := k_frameS (c_X7_errorPosition l D g x0 (ua 0 0) (ua 1 0) (ua 2 0) (ua 3 0) (ua 4 0) (ua 5 0) (ua 6 0) (ua 0 1) sz S.1 S.2.1 hln) [1, 2, 3] rfl (by decide) rfl rfl
theorem kdc_load  (S : KC) : kd_X7_load S.1 S.2.1 = 0 ∨ kd_X7_load S.1 S.2.1 = 1 := by
  unfold kd_X7_load
  try dsimp only
  repeat' split
  all_goals first | exact Or.inl rfl | exact Or.inr rfl
theorem qL_load_h0 : Cond.classLink RL 15 "java/lang/IllegalStateException" ∈ wsL_load := (List.mem_cons_of_mem _ (List.mem_append_left _ (List.mem_append_left _ (List.mem_append_left _ (List.mem_append_left _ (List.mem_append_left _ (List.mem_append_left _ (List.mem_append_left _ (List.mem_append_left _ (List.mem_append_left _ (List.mem_of_getElem? (i := 0) rfl)))))))))))
set_option maxHeartbeats 4000000 in
set_option maxRecDepth 100000 in
theorem c_L_load (l : Launch) (D : va_G) (g : Nat → Nat) (o0 x0 : Nat) (ua ub : Nat → Nat → Nat) (sz : Nat) (S : KC)  (hst : l.stackTraces = false) (hln : S.1 ≤ 120) (hnx : S.2.2.2.2.2.1 < 14) (hkc : S.2.2.2.2.2.2.1 ≤ 14) (hpt : ¬ 10 < S.2.2.1.1) (hp1 : S.2.2.1.1 = nI S.2.2.1.1.toNatClampNeg) (hp2 : S.2.2.1.1.toNatClampNeg ≤ 10) : kMw l D g yL_load wsL_load 40 1 6 [.ref x0, .ref o0] (wK g o0 x0 ua ub S) sz (kd_X7_load S.1 S.2.1) (wK g o0 x0 ua ub (sL_load  S)) := by
  refine k_enterW (nm := "load") (own := RL) (bytes := cL_load) (maxL := 3) (ret := (some .int)) (hh := [(0, 8, 11, 15)]) (Qf := fun A => kQi D (wK g o0 x0 ua ub (sL_load  S)) A (kd_X7_load S.1 S.2.1)) (by decide) rfl rfl rfl (Nat.le_of_ble_eq_true rfl) ?_
  rintro pp ee s mm below meth cc A ls args Q H locs hQ ⟨hx, hb, hr, hml, hown, hts, hlocks, hin⟩ hex hP hK hD hA hS hE hX hl
  have hl : lv_has ls 3 [(0, .ref x0), (1, .ref o0)] := hl
  subst hQ
  refine lv_aload_n hx hb dL_load_0 rfl (lv_at hl 1 rfl) ?_
  refine lv_iconst (v := 0) hx hb dL_load_1 (by decide) ?_
  refine lv_aload_n hx hb dL_load_2 rfl (lv_at hl 0 rfl) ?_
  by_cases hk : kd_X7_load S.1 S.2.1 = 0
  ·
    have hC := c_X7_load l D g x0 (ua 0 0) (ua 1 0) (ua 2 0) (ua 3 0) (ua 4 0) (ua 5 0) (ua 6 0) (ua 0 1) (ua 1 2) (ua 1 4) (ua 1 1) (ua 1 3) (ua 1 5) (ua 4 1) H.size S.1 S.2.1 S.2.2.1 S.2.2.2.2.2.1 S.2.2.2.2.2.2.1 S.2.2.2.2.2.2.2.2.2.2.1 hln hk
    obtain ⟨F1, hF1⟩ : ∃ z, z = (f_X7_load S.1 S.2.1 S.2.2.1 S.2.2.2.2.2.2.2.2.2.2.1) := ⟨_, rfl⟩
    rw [← hF1] at hC
    refine k_aiS (w2 := (wK g o0 x0 ua ub (S.1, S.2.1, F1.2.1, S.2.2.2.1, S.2.2.2.2.1, S.2.2.2.2.2.1, 0, S.2.2.2.2.2.2.2.1, S.2.2.2.2.2.2.2.2.1, S.2.2.2.2.2.2.2.2.2.1, F1.2.2, S.2.2.2.2.2.2.2.2.2.2.2))) (va_runV (As := []) (rest := [.int 0, .ref o0]) ⟨hx, hb, hml, hown, hts⟩ hC (cwV 0 hts gL_load_X7_load rfl rfl rfl (by decide +kernel) (k_lvl (by omega) (by decide))) (kPV hP hD hK hS hA hE [1, 2, 3, 4, 5, 6, 7, 8, 9, 22, 25] rfl (by decide) 1 7 rfl rfl rfl) rfl rfl hl.1 rfl (lv_room (Nat.le_of_ble_eq_true rfl)) dL_load_3 ⟨Nat.le_of_ble_eq_true rfl, Nat.le_of_ble_eq_true rfl⟩) hP hD hS hA [1, 2, 3, 4, 5, 6, 7, 8, 9, 22, 25] rfl (by decide) rfl (setAll_by (E := (wE g o0 x0 ua ub S)) (E2 := (wE g o0 x0 ua ub (S.1, S.2.1, F1.2.1, S.2.2.2.1, S.2.2.2.2.1, S.2.2.2.2.2.1, 0, S.2.2.2.2.2.2.2.1, S.2.2.2.2.2.2.2.2.1, S.2.2.2.2.2.2.2.2.2.1, F1.2.2, S.2.2.2.2.2.2.2.2.2.2.2))) (P := (wPool g ub S.2.2.2.2.2.2.2.1)) [(o0, .inl (g 4, 1, .inr (.inl S.2.2.2.2.2.2.2.2.2.2.2))), ((ua 2 0), .inr (4, [.ref (ua 2 2), .ref (ua 2 4), .ref (ua 2 1), .int S.2.2.2.1.1, .int S.2.2.2.1.2.1, .int S.2.2.2.1.2.2.1, .int S.2.2.2.1.2.2.2.1, .int S.2.2.2.1.2.2.2.2.1, .int S.2.2.2.1.2.2.2.2.2.1])), ((ua 2 1), .inl (g 0, 80, .inl S.2.2.2.1.2.2.2.2.2.2.1)), ((ua 2 2), .inr (1, [.ref (ua 2 3)])), ((ua 2 3), .inl (g 0, 480, .inl S.2.2.2.1.2.2.2.2.2.2.2.1)), ((ua 2 4), .inr (0, [.ref (ua 2 5), .int S.2.2.2.1.2.2.2.2.2.2.2.2.1])), ((ua 2 5), .inl (g 0, 60, .inl S.2.2.2.1.2.2.2.2.2.2.2.2.2)), ((ua 3 0), .inr (4, [.ref (ua 3 2), .ref (ua 3 4), .ref (ua 3 1), .int S.2.2.2.2.1.1, .int S.2.2.2.2.1.2.1, .int S.2.2.2.2.1.2.2.1, .int S.2.2.2.2.1.2.2.2.1, .int S.2.2.2.2.1.2.2.2.2.1, .int S.2.2.2.2.1.2.2.2.2.2.1])), ((ua 3 1), .inl (g 0, 80, .inl S.2.2.2.2.1.2.2.2.2.2.2.1)), ((ua 3 2), .inr (1, [.ref (ua 3 3)])), ((ua 3 3), .inl (g 0, 480, .inl S.2.2.2.2.1.2.2.2.2.2.2.2.1)), ((ua 3 4), .inr (0, [.ref (ua 3 5), .int S.2.2.2.2.1.2.2.2.2.2.2.2.2.1])), ((ua 3 5), .inl (g 0, 60, .inl S.2.2.2.2.1.2.2.2.2.2.2.2.2.2)), (ua 4 1, .inl (g 3, 14, .inr (.inr (.inr (.inr (fun j => some (ub j 0))))))), (ua 5 0, .inl (g 3, 2, .inr (.inr (.inr (.inr (fun j => some (ua (7 + j) 0))))))), ((ua 7 0), .inr (4, [.ref (ua 7 2), .ref (ua 7 4), .ref (ua 7 1), .int S.2.2.2.2.2.2.2.2.1.1, .int S.2.2.2.2.2.2.2.2.1.2.1, .int S.2.2.2.2.2.2.2.2.1.2.2.1, .int S.2.2.2.2.2.2.2.2.1.2.2.2.1, .int S.2.2.2.2.2.2.2.2.1.2.2.2.2.1, .int S.2.2.2.2.2.2.2.2.1.2.2.2.2.2.1])), ((ua 7 1), .inl (g 0, 80, .inl S.2.2.2.2.2.2.2.2.1.2.2.2.2.2.2.1)), ((ua 7 2), .inr (1, [.ref (ua 7 3)])), ((ua 7 3), .inl (g 0, 480, .inl S.2.2.2.2.2.2.2.2.1.2.2.2.2.2.2.2.1)), ((ua 7 4), .inr (0, [.ref (ua 7 5), .int S.2.2.2.2.2.2.2.2.1.2.2.2.2.2.2.2.2.1])), ((ua 7 5), .inl (g 0, 60, .inl S.2.2.2.2.2.2.2.2.1.2.2.2.2.2.2.2.2.2)), ((ua 8 0), .inr (4, [.ref (ua 8 2), .ref (ua 8 4), .ref (ua 8 1), .int S.2.2.2.2.2.2.2.2.2.1.1, .int S.2.2.2.2.2.2.2.2.2.1.2.1, .int S.2.2.2.2.2.2.2.2.2.1.2.2.1, .int S.2.2.2.2.2.2.2.2.2.1.2.2.2.1, .int S.2.2.2.2.2.2.2.2.2.1.2.2.2.2.1, .int S.2.2.2.2.2.2.2.2.2.1.2.2.2.2.2.1])), ((ua 8 1), .inl (g 0, 80, .inl S.2.2.2.2.2.2.2.2.2.1.2.2.2.2.2.2.1)), ((ua 8 2), .inr (1, [.ref (ua 8 3)])), ((ua 8 3), .inl (g 0, 480, .inl S.2.2.2.2.2.2.2.2.2.1.2.2.2.2.2.2.2.1)), ((ua 8 4), .inr (0, [.ref (ua 8 5), .int S.2.2.2.2.2.2.2.2.2.1.2.2.2.2.2.2.2.2.1])), ((ua 8 5), .inl (g 0, 60, .inl S.2.2.2.2.2.2.2.2.2.1.2.2.2.2.2.2.2.2.2))] [1, 2, 3, 4, 5, 6, 7, 8, 9, 22, 25] [0, 10, 11, 12, 13, 14, 15, 16, 17, 18, 19, 20, 21, 23, 24, 26, 27, 28, 29, 30, 31, 32, 33, 34, 35, 36, 37] 38 rfl rfl rfl (by decide) (by decide) (by decide +kernel) rfl rfl rfl) (fun H locs hP hD hS => ?_)
    refine lv_i2l (v := Int32.toInt64 (F1.1)) hx hb dL_load_6 rfl ?_
    refine va_last (i := 0) (x := Int32.toInt64 (F1.1)) hx hb hK hP hD hS 0 4 rfl rfl (by unfold vp_in; decide) dL_load_7 (fun H locs hP hD hS => ?_)
    refine lv_goto (tgt := 14) hx hb dL_load_8 (by decide) ?_
    refine lv_iconst (v := 0) hx hb dL_load_14 (by decide) ?_
    refine W.widen (k := 1) (n := 6) (Nat.le_of_ble_eq_true rfl) (Nat.le_of_ble_eq_true rfl) ?_
    have hP : va_P D vwCl (wK g o0 x0 ua ub (S.1, S.2.1, F1.2.1, S.2.2.2.1, S.2.2.2.2.1, S.2.2.2.2.2.1, 0, S.2.2.2.2.2.2.2.1, S.2.2.2.2.2.2.2.2.1, S.2.2.2.2.2.2.2.2.2.1, F1.2.2, vp_updL S.2.2.2.2.2.2.2.2.2.2.2 0 (Int32.toInt64 (F1.1)))) H := hP
    have hD : va_D A (wK g o0 x0 ua ub (S.1, S.2.1, F1.2.1, S.2.2.2.1, S.2.2.2.2.1, S.2.2.2.2.2.1, 0, S.2.2.2.2.2.2.2.1, S.2.2.2.2.2.2.2.2.1, S.2.2.2.2.2.2.2.2.2.1, F1.2.2, vp_updL S.2.2.2.2.2.2.2.2.2.2.2 0 (Int32.toInt64 (F1.1)))) := hD
    subst hF1
    have hs : sL_load  S = (S.1, S.2.1, (f_X7_load S.1 S.2.1 S.2.2.1 S.2.2.2.2.2.2.2.2.2.2.1).2.1, S.2.2.2.1, S.2.2.2.2.1, S.2.2.2.2.2.1, 0, S.2.2.2.2.2.2.2.1, S.2.2.2.2.2.2.2.2.1, S.2.2.2.2.2.2.2.2.2.1, (f_X7_load S.1 S.2.1 S.2.2.1 S.2.2.2.2.2.2.2.2.2.2.1).2.2, vp_updL S.2.2.2.2.2.2.2.2.2.2.2 0 (Int32.toInt64 ((f_X7_load S.1 S.2.1 S.2.2.1 S.2.2.2.2.2.2.2.2.2.2.1).1))) := if_pos hk
    rw [← hs] at hP hD
    exact k_ri hx hb hr hlocks hP hD hS dL_load_15 hk.symm rfl
  ·
    have hC := c_X7_load_x l D g x0 (ua 0 0) (ua 1 0) (ua 2 0) (ua 3 0) (ua 4 0) (ua 5 0) (ua 6 0) (ua 0 1) H.size S.1 S.2.1 hln hst hk
    rcases kdc_load  S with h1 | h1
    · exact absurd h1 hk
    · rw [h1, show ex_X7_load 1 = "java/lang/IllegalStateException" from rfl] at hC
      refine k_xc (E := "java/lang/IllegalStateException") (mc := 1) (ms := 6) (vx_runV (As := []) (rest := [.int 0, .ref o0]) ⟨hx, hb, hml, hown, hts⟩ hC (cwV 0 hts gL_load_X7_load rfl rfl rfl (by decide +kernel) (k_lvl (by omega) (by decide))) (kPVx hP hD hK hS hA hE hX [1, 2, 3] rfl (by decide) 1 7 rfl rfl rfl) rfl rfl hl.1 rfl (lv_room (Nat.le_of_ble_eq_true rfl)) dL_load_3 ⟨Nat.le_of_ble_eq_true rfl, Nat.le_of_ble_eq_true rfl⟩) hP hD hS hA [1, 2, 3] rfl (fun ce q9 H locs hP hS hc1 hc2 hc3 => ?_)
      refine k_catch1 (own := RL) (E := "java/lang/IllegalStateException") hex hown hX (by decide) (by decide) (hts _ qL_load_h0) (by decide +kernel) hc1 hc2 hc3 ?_
      refine lv_astore_n (lv' := [(2, .ref q9), (0, .ref x0), (1, .ref o0)]) hx hb dL_load_11 rfl hl (by decide) rfl (fun ls hl => ?_)
      refine lv_iconst (v := 1) hx hb dL_load_12 (by decide) ?_
      refine W.widen (k := 1) (n := 6) (Nat.le_of_ble_eq_true rfl) (Nat.le_of_ble_eq_true rfl) ?_
      have hs : sL_load  S = S := if_neg hk
      rw [← hs] at hP hD
      exact k_ri hx hb hr hlocks hP hD hS dL_load_13 h1.symm rfl
theorem kdc_about (a1 : Int32) (S : KC) : kd_X7_about a1 = 0 ∨ kd_X7_about a1 = 1 := by
  unfold kd_X7_about
  try dsimp only
  repeat' split
  all_goals first | exact Or.inl rfl | exact Or.inr rfl
theorem qL_about_h0 : Cond.classLink RL 13 "java/lang/IllegalArgumentException" ∈ wsL_about := (List.mem_cons_of_mem _ (List.mem_append_left _ (List.mem_append_left _ (List.mem_append_left _ (List.mem_append_left _ (List.mem_append_left _ (List.mem_append_left _ (List.mem_of_getElem? (i := 0) rfl))))))))
set_option maxHeartbeats 4000000 in
set_option maxRecDepth 100000 in
theorem c_L_about (l : Launch) (D : va_G) (g : Nat → Nat) (o0 x0 : Nat) (ua ub : Nat → Nat → Nat) (sz : Nat) (S : KC) (a1 : Int32) (hst : l.stackTraces = false) (hln : S.1 ≤ 120) (hnx : S.2.2.2.2.2.1 < 14) (hkc : S.2.2.2.2.2.2.1 ≤ 14) (hpt : ¬ 10 < S.2.2.1.1) (hp1 : S.2.2.1.1 = nI S.2.2.1.1.toNatClampNeg) (hp2 : S.2.2.1.1.toNatClampNeg ≤ 10) : kMw l D g yL_about wsL_about 40 1 6 [.ref x0, .int a1, .ref o0] (wK g o0 x0 ua ub S) sz (kd_X7_about a1) (wK g o0 x0 ua ub (sL_about a1 S)) := by
  refine k_enterW (nm := "about") (own := RL) (bytes := cL_about) (maxL := 4) (ret := (some .int)) (hh := [(0, 9, 12, 13)]) (Qf := fun A => kQi D (wK g o0 x0 ua ub (sL_about a1 S)) A (kd_X7_about a1)) (by decide) rfl rfl rfl (Nat.le_of_ble_eq_true rfl) ?_
  rintro pp ee s mm below meth cc A ls args Q H locs hQ ⟨hx, hb, hr, hml, hown, hts, hlocks, hin⟩ hex hP hK hD hA hS hE hX hl
  have hl : lv_has ls 4 [(0, .ref x0), (1, .int a1), (2, .ref o0)] := hl
  subst hQ
  refine lv_aload_n hx hb dL_about_0 rfl (lv_at hl 2 rfl) ?_
  refine lv_iconst (v := 0) hx hb dL_about_1 (by decide) ?_
  refine lv_aload_n hx hb dL_about_2 rfl (lv_at hl 0 rfl) ?_
  refine lv_iload_n hx hb dL_about_3 rfl (lv_at hl 1 rfl) ?_
  by_cases hk : kd_X7_about a1 = 0
  ·
    have hC := c_X7_about l D g x0 (ua 0 0) (ua 1 0) (ua 2 0) (ua 3 0) (ua 4 0) (ua 5 0) (ua 6 0) (ua 1 2) (ua 1 4) (ua 1 1) (ua 1 3) (ua 1 5) H.size S.2.2.1 a1 hk
    refine k_aiS (w2 := (wK g o0 x0 ua ub (S.1, S.2.1, S.2.2.1, S.2.2.2.1, S.2.2.2.2.1, S.2.2.2.2.2.1, S.2.2.2.2.2.2.1, S.2.2.2.2.2.2.2.1, S.2.2.2.2.2.2.2.2.1, S.2.2.2.2.2.2.2.2.2.1, S.2.2.2.2.2.2.2.2.2.2.1, S.2.2.2.2.2.2.2.2.2.2.2))) (va_runV (As := [.int a1]) (rest := [.int 0, .ref o0]) ⟨hx, hb, hml, hown, hts⟩ hC (cwV 1 hts gL_about_X7_about rfl rfl rfl (by decide +kernel) (k_lvl (by omega) (by decide))) (kPV hP hD hK hS hA hE [1, 4, 5, 6, 7, 8, 9] rfl (by decide) 1 7 rfl rfl rfl) rfl rfl hl.1 rfl (lv_room (Nat.le_of_ble_eq_true rfl)) dL_about_4 ⟨Nat.le_of_ble_eq_true rfl, Nat.le_of_ble_eq_true rfl⟩) hP hD hS hA [1, 4, 5, 6, 7, 8, 9] rfl (by decide) rfl rfl (fun H locs hP hD hS => ?_)
    refine lv_i2l (v := Int32.toInt64 (f_X7_about S.2.2.1 a1)) hx hb dL_about_7 rfl ?_
    refine va_last (i := 0) (x := Int32.toInt64 (f_X7_about S.2.2.1 a1)) hx hb hK hP hD hS 0 4 rfl rfl (by unfold vp_in; decide) dL_about_8 (fun H locs hP hD hS => ?_)
    refine lv_goto (tgt := 15) hx hb dL_about_9 (by decide) ?_
    refine lv_iconst (v := 0) hx hb dL_about_15 (by decide) ?_
    refine W.widen (k := 1) (n := 6) (Nat.le_of_ble_eq_true rfl) (Nat.le_of_ble_eq_true rfl) ?_
    have hP : va_P D vwCl (wK g o0 x0 ua ub (S.1, S.2.1, S.2.2.1, S.2.2.2.1, S.2.2.2.2.1, S.2.2.2.2.2.1, S.2.2.2.2.2.2.1, S.2.2.2.2.2.2.2.1, S.2.2.2.2.2.2.2.2.1, S.2.2.2.2.2.2.2.2.2.1, S.2.2.2.2.2.2.2.2.2.2.1, vp_updL S.2.2.2.2.2.2.2.2.2.2.2 0 (Int32.toInt64 (f_X7_about S.2.2.1 a1)))) H := hP
    have hD : va_D A (wK g o0 x0 ua ub (S.1, S.2.1, S.2.2.1, S.2.2.2.1, S.2.2.2.2.1, S.2.2.2.2.2.1, S.2.2.2.2.2.2.1, S.2.2.2.2.2.2.2.1, S.2.2.2.2.2.2.2.2.1, S.2.2.2.2.2.2.2.2.2.1, S.2.2.2.2.2.2.2.2.2.2.1, vp_updL S.2.2.2.2.2.2.2.2.2.2.2 0 (Int32.toInt64 (f_X7_about S.2.2.1 a1)))) := hD
    have hs : sL_about a1 S = (S.1, S.2.1, S.2.2.1, S.2.2.2.1, S.2.2.2.2.1, S.2.2.2.2.2.1, S.2.2.2.2.2.2.1, S.2.2.2.2.2.2.2.1, S.2.2.2.2.2.2.2.2.1, S.2.2.2.2.2.2.2.2.2.1, S.2.2.2.2.2.2.2.2.2.2.1, vp_updL S.2.2.2.2.2.2.2.2.2.2.2 0 (Int32.toInt64 (f_X7_about S.2.2.1 a1))) := if_pos hk
    rw [← hs] at hP hD
    exact k_ri hx hb hr hlocks hP hD hS dL_about_16 hk.symm rfl
  ·
    have hC := c_X7_about_x l D g x0 (ua 0 0) (ua 1 0) (ua 2 0) (ua 3 0) (ua 4 0) (ua 5 0) (ua 6 0) (ua 1 2) (ua 1 4) (ua 1 1) (ua 1 3) (ua 1 5) H.size S.2.2.1 a1 hst hk
    rcases kdc_about a1 S with h1 | h1
    · exact absurd h1 hk
    · rw [h1, show ex_X7_about 1 = "java/lang/IllegalArgumentException" from rfl] at hC
      refine k_xc (E := "java/lang/IllegalArgumentException") (mc := 1) (ms := 6) (vx_runV (As := [.int a1]) (rest := [.int 0, .ref o0]) ⟨hx, hb, hml, hown, hts⟩ hC (cwV 1 hts gL_about_X7_about rfl rfl rfl (by decide +kernel) (k_lvl (by omega) (by decide))) (kPVx hP hD hK hS hA hE hX [1, 4, 5, 6, 7, 8, 9] rfl (by decide) 1 7 rfl rfl rfl) rfl rfl hl.1 rfl (lv_room (Nat.le_of_ble_eq_true rfl)) dL_about_4 ⟨Nat.le_of_ble_eq_true rfl, Nat.le_of_ble_eq_true rfl⟩) hP hD hS hA [1, 4, 5, 6, 7, 8, 9] rfl (fun ce q9 H locs hP hS hc1 hc2 hc3 => ?_)
      refine k_catch1 (own := RL) (E := "java/lang/IllegalArgumentException") hex hown hX (by decide) (by decide) (hts _ qL_about_h0) (by decide +kernel) hc1 hc2 hc3 ?_
      refine lv_astore_n (lv' := [(3, .ref q9), (0, .ref x0), (1, .int a1), (2, .ref o0)]) hx hb dL_about_12 rfl hl (by decide) rfl (fun ls hl => ?_)
      refine lv_iconst (v := 1) hx hb dL_about_13 (by decide) ?_
      refine W.widen (k := 1) (n := 6) (Nat.le_of_ble_eq_true rfl) (Nat.le_of_ble_eq_true rfl) ?_
      have hs : sL_about a1 S = S := if_neg hk
      rw [← hs] at hP hD
      exact k_ri hx hb hr hlocks hP hD hS dL_about_14 h1.symm rfl
theorem kdc_part (a1 : Int32) (a2 : Int32) (S : KC) : kd_X7_part S.2.2.1 a1 a2 = 0 ∨ kd_X7_part S.2.2.1 a1 a2 = 1 ∨ kd_X7_part S.2.2.1 a1 a2 = 2 := by
  unfold kd_X7_part
  try dsimp only
  repeat' split
  all_goals first | exact Or.inl rfl | exact Or.inr (Or.inl rfl) | exact Or.inr (Or.inr rfl)
theorem qL_part_h0 : Cond.classLink RL 28 "java/lang/IndexOutOfBoundsException" ∈ wsL_part := (List.mem_cons_of_mem _ (List.mem_append_left _ (List.mem_append_left _ (List.mem_append_left _ (List.mem_append_left _ (List.mem_append_left _ (List.mem_of_getElem? (i := 0) rfl)))))))
theorem qL_part_h1 : Cond.classLink RL 13 "java/lang/IllegalArgumentException" ∈ wsL_part := (List.mem_cons_of_mem _ (List.mem_append_left _ (List.mem_append_left _ (List.mem_append_left _ (List.mem_append_left _ (List.mem_append_left _ (List.mem_of_getElem? (i := 1) rfl)))))))
set_option maxHeartbeats 4000000 in
set_option maxRecDepth 100000 in
theorem c_L_part (l : Launch) (D : va_G) (g : Nat → Nat) (o0 x0 : Nat) (ua ub : Nat → Nat → Nat) (sz : Nat) (S : KC) (a1 : Int32) (a2 : Int32) (hst : l.stackTraces = false) (hln : S.1 ≤ 120) (hnx : S.2.2.2.2.2.1 < 14) (hkc : S.2.2.2.2.2.2.1 ≤ 14) (hpt : ¬ 10 < S.2.2.1.1) (hp1 : S.2.2.1.1 = nI S.2.2.1.1.toNatClampNeg) (hp2 : S.2.2.1.1.toNatClampNeg ≤ 10) : kMw l D g yL_part wsL_part 40 1 6 [.ref x0, .int a1, .int a2, .ref o0] (wK g o0 x0 ua ub S) sz (kd_X7_part S.2.2.1 a1 a2) (wK g o0 x0 ua ub (sL_part a1 a2 S)) := by
  refine k_enterW (nm := "part") (own := RL) (bytes := cL_part) (maxL := 5) (ret := (some .int)) (hh := [(0, 10, 13, 28), (0, 10, 17, 13)]) (Qf := fun A => kQi D (wK g o0 x0 ua ub (sL_part a1 a2 S)) A (kd_X7_part S.2.2.1 a1 a2)) (by decide) rfl rfl rfl (Nat.le_of_ble_eq_true rfl) ?_
  rintro pp ee s mm below meth cc A ls args Q H locs hQ ⟨hx, hb, hr, hml, hown, hts, hlocks, hin⟩ hex hP hK hD hA hS hE hX hl
  have hl : lv_has ls 5 [(0, .ref x0), (1, .int a1), (2, .int a2), (3, .ref o0)] := hl
  subst hQ
  refine lv_aload_n hx hb dL_part_0 rfl (lv_at hl 3 rfl) ?_
  refine lv_iconst (v := 0) hx hb dL_part_1 (by decide) ?_
  refine lv_aload_n hx hb dL_part_2 rfl (lv_at hl 0 rfl) ?_
  refine lv_iload_n hx hb dL_part_3 rfl (lv_at hl 1 rfl) ?_
  refine lv_iload_n hx hb dL_part_4 rfl (lv_at hl 2 rfl) ?_
  by_cases hk : kd_X7_part S.2.2.1 a1 a2 = 0
  ·
    have hC := c_X7_part l D g x0 (ua 0 0) (ua 1 0) (ua 2 0) (ua 3 0) (ua 4 0) (ua 5 0) (ua 6 0) (ua 1 2) (ua 1 4) (ua 1 1) (ua 1 3) (ua 1 5) H.size S.2.2.1 a1 a2 hk
    refine k_aiS (w2 := (wK g o0 x0 ua ub (S.1, S.2.1, S.2.2.1, S.2.2.2.1, S.2.2.2.2.1, S.2.2.2.2.2.1, S.2.2.2.2.2.2.1, S.2.2.2.2.2.2.2.1, S.2.2.2.2.2.2.2.2.1, S.2.2.2.2.2.2.2.2.2.1, S.2.2.2.2.2.2.2.2.2.2.1, S.2.2.2.2.2.2.2.2.2.2.2))) (va_runV (As := [.int a1, .int a2]) (rest := [.int 0, .ref o0]) ⟨hx, hb, hml, hown, hts⟩ hC (cwV 2 hts gL_part_X7_part rfl rfl rfl (by decide +kernel) (k_lvl (by omega) (by decide))) (kPV hP hD hK hS hA hE [1, 4, 5, 6, 7, 8, 9] rfl (by decide) 1 7 rfl rfl rfl) rfl rfl hl.1 rfl (lv_room (Nat.le_of_ble_eq_true rfl)) dL_part_5 ⟨Nat.le_of_ble_eq_true rfl, Nat.le_of_ble_eq_true rfl⟩) hP hD hS hA [1, 4, 5, 6, 7, 8, 9] rfl (by decide) rfl rfl (fun H locs hP hD hS => ?_)
    refine lv_i2l (v := Int32.toInt64 (f_X7_part S.2.2.1 a1 a2)) hx hb dL_part_8 rfl ?_
    refine va_last (i := 0) (x := Int32.toInt64 (f_X7_part S.2.2.1 a1 a2)) hx hb hK hP hD hS 0 4 rfl rfl (by unfold vp_in; decide) dL_part_9 (fun H locs hP hD hS => ?_)
    refine lv_goto (tgt := 21) hx hb dL_part_10 (by decide) ?_
    refine lv_iconst (v := 0) hx hb dL_part_21 (by decide) ?_
    refine W.widen (k := 1) (n := 6) (Nat.le_of_ble_eq_true rfl) (Nat.le_of_ble_eq_true rfl) ?_
    have hP : va_P D vwCl (wK g o0 x0 ua ub (S.1, S.2.1, S.2.2.1, S.2.2.2.1, S.2.2.2.2.1, S.2.2.2.2.2.1, S.2.2.2.2.2.2.1, S.2.2.2.2.2.2.2.1, S.2.2.2.2.2.2.2.2.1, S.2.2.2.2.2.2.2.2.2.1, S.2.2.2.2.2.2.2.2.2.2.1, vp_updL S.2.2.2.2.2.2.2.2.2.2.2 0 (Int32.toInt64 (f_X7_part S.2.2.1 a1 a2)))) H := hP
    have hD : va_D A (wK g o0 x0 ua ub (S.1, S.2.1, S.2.2.1, S.2.2.2.1, S.2.2.2.2.1, S.2.2.2.2.2.1, S.2.2.2.2.2.2.1, S.2.2.2.2.2.2.2.1, S.2.2.2.2.2.2.2.2.1, S.2.2.2.2.2.2.2.2.2.1, S.2.2.2.2.2.2.2.2.2.2.1, vp_updL S.2.2.2.2.2.2.2.2.2.2.2 0 (Int32.toInt64 (f_X7_part S.2.2.1 a1 a2)))) := hD
    have hs : sL_part a1 a2 S = (S.1, S.2.1, S.2.2.1, S.2.2.2.1, S.2.2.2.2.1, S.2.2.2.2.2.1, S.2.2.2.2.2.2.1, S.2.2.2.2.2.2.2.1, S.2.2.2.2.2.2.2.2.1, S.2.2.2.2.2.2.2.2.2.1, S.2.2.2.2.2.2.2.2.2.2.1, vp_updL S.2.2.2.2.2.2.2.2.2.2.2 0 (Int32.toInt64 (f_X7_part S.2.2.1 a1 a2))) := if_pos hk
    rw [← hs] at hP hD
    exact k_ri hx hb hr hlocks hP hD hS dL_part_22 hk.symm rfl
  ·
    have hC := c_X7_part_x l D g x0 (ua 0 0) (ua 1 0) (ua 2 0) (ua 3 0) (ua 4 0) (ua 5 0) (ua 6 0) (ua 1 2) (ua 1 4) (ua 1 1) (ua 1 3) (ua 1 5) H.size S.2.2.1 a1 a2 hst hk
    rcases kdc_part a1 a2 S with h1 | h1 | h1
    · exact absurd h1 hk
    · rw [h1, show ex_X7_part 1 = "java/lang/IndexOutOfBoundsException" from rfl] at hC
      refine k_xc (E := "java/lang/IndexOutOfBoundsException") (mc := 1) (ms := 6) (vx_runV (As := [.int a1, .int a2]) (rest := [.int 0, .ref o0]) ⟨hx, hb, hml, hown, hts⟩ hC (cwV 2 hts gL_part_X7_part rfl rfl rfl (by decide +kernel) (k_lvl (by omega) (by decide))) (kPVx hP hD hK hS hA hE hX [1, 4, 5, 6, 7, 8, 9] rfl (by decide) 1 7 rfl rfl rfl) rfl rfl hl.1 rfl (lv_room (Nat.le_of_ble_eq_true rfl)) dL_part_5 ⟨Nat.le_of_ble_eq_true rfl, Nat.le_of_ble_eq_true rfl⟩) hP hD hS hA [1, 4, 5, 6, 7, 8, 9] rfl (fun ce q9 H locs hP hS hc1 hc2 hc3 => ?_)
      refine k_catch1 (own := RL) (E := "java/lang/IndexOutOfBoundsException") hex hown hX (by decide) (by decide) (hts _ qL_part_h0) (by decide +kernel) hc1 hc2 hc3 ?_
      refine lv_astore (lv' := [(4, .ref q9), (0, .ref x0), (1, .int a1), (2, .int a2), (3, .ref o0)]) hx hb dL_part_13 hl (by decide) rfl (fun ls hl => ?_)
      refine lv_iconst (v := 1) hx hb dL_part_15 (by decide) ?_
      refine W.widen (k := 1) (n := 6) (Nat.le_of_ble_eq_true rfl) (Nat.le_of_ble_eq_true rfl) ?_
      have hs : sL_part a1 a2 S = S := if_neg hk
      rw [← hs] at hP hD
      exact k_ri hx hb hr hlocks hP hD hS dL_part_16 h1.symm rfl
    · rw [h1, show ex_X7_part 2 = "java/lang/IllegalArgumentException" from rfl] at hC
      refine k_xc (E := "java/lang/IllegalArgumentException") (mc := 1) (ms := 6) (vx_runV (As := [.int a1, .int a2]) (rest := [.int 0, .ref o0]) ⟨hx, hb, hml, hown, hts⟩ hC (cwV 2 hts gL_part_X7_part rfl rfl rfl (by decide +kernel) (k_lvl (by omega) (by decide))) (kPVx hP hD hK hS hA hE hX [1, 4, 5, 6, 7, 8, 9] rfl (by decide) 1 7 rfl rfl rfl) rfl rfl hl.1 rfl (lv_room (Nat.le_of_ble_eq_true rfl)) dL_part_5 ⟨Nat.le_of_ble_eq_true rfl, Nat.le_of_ble_eq_true rfl⟩) hP hD hS hA [1, 4, 5, 6, 7, 8, 9] rfl (fun ce q9 H locs hP hS hc1 hc2 hc3 => ?_)
      refine k_catch2 (own := RL) (E := "java/lang/IllegalArgumentException") (E1 := "java/lang/IndexOutOfBoundsException") hex hown hX (by decide) (hts _ qL_part_h0) (by decide +kernel) (by decide +kernel) (by decide) (by decide) (by decide) (hts _ qL_part_h1) (by decide +kernel) hc1 hc2 hc3 ?_
      refine lv_astore (lv' := [(4, .ref q9), (0, .ref x0), (1, .int a1), (2, .int a2), (3, .ref o0)]) hx hb dL_part_17 hl (by decide) rfl (fun ls hl => ?_)
      refine lv_iconst (v := 2) hx hb dL_part_19 (by decide) ?_
      refine W.widen (k := 1) (n := 6) (Nat.le_of_ble_eq_true rfl) (Nat.le_of_ble_eq_true rfl) ?_
      have hs : sL_part a1 a2 S = S := if_neg hk
      rw [← hs] at hP hD
      exact k_ri hx hb hr hlocks hP hD hS dL_part_20 h1.symm rfl
theorem kdc_contract (a1 : Int32) (a2 : Int32) (a3 : Int32) (S : KC) : kd_X7_contract S.2.2.1 a1 a2 a3 = 0 ∨ kd_X7_contract S.2.2.1 a1 a2 a3 = 1 ∨ kd_X7_contract S.2.2.1 a1 a2 a3 = 2 := by
  unfold kd_X7_contract
  try dsimp only
  repeat' split
  all_goals first | exact Or.inl rfl | exact Or.inr (Or.inl rfl) | exact Or.inr (Or.inr rfl)
theorem qL_contract_h0 : Cond.classLink RL 28 "java/lang/IndexOutOfBoundsException" ∈ wsL_contract := (List.mem_cons_of_mem _ (List.mem_append_left _ (List.mem_append_left _ (List.mem_append_left _ (List.mem_append_left _ (List.mem_append_left _ (List.mem_append_left _ (List.mem_of_getElem? (i := 0) rfl))))))))
theorem qL_contract_h1 : Cond.classLink RL 13 "java/lang/IllegalArgumentException" ∈ wsL_contract := (List.mem_cons_of_mem _ (List.mem_append_left _ (List.mem_append_left _ (List.mem_append_left _ (List.mem_append_left _ (List.mem_append_left _ (List.mem_append_left _ (List.mem_of_getElem? (i := 1) rfl))))))))
set_option maxHeartbeats 4000000 in
set_option maxRecDepth 100000 in
theorem c_L_contract (l : Launch) (D : va_G) (g : Nat → Nat) (o0 x0 : Nat) (ua ub : Nat → Nat → Nat) (sz : Nat) (S : KC) (a1 : Int32) (a2 : Int32) (a3 : Int32) (hst : l.stackTraces = false) (hln : S.1 ≤ 120) (hnx : S.2.2.2.2.2.1 < 14) (hkc : S.2.2.2.2.2.2.1 ≤ 14) (hpt : ¬ 10 < S.2.2.1.1) (hp1 : S.2.2.1.1 = nI S.2.2.1.1.toNatClampNeg) (hp2 : S.2.2.1.1.toNatClampNeg ≤ 10) : kMw l D g yL_contract wsL_contract 40 1 6 [.ref x0, .int a1, .int a2, .int a3, .ref o0] (wK g o0 x0 ua ub S) sz (kd_X7_contract S.2.2.1 a1 a2 a3) (wK g o0 x0 ua ub (sL_contract a1 a2 a3 S)) := by
  refine k_enterW (nm := "contract") (own := RL) (bytes := cL_contract) (maxL := 6) (ret := (some .int)) (hh := [(0, 12, 15, 28), (0, 12, 19, 13)]) (Qf := fun A => kQi D (wK g o0 x0 ua ub (sL_contract a1 a2 a3 S)) A (kd_X7_contract S.2.2.1 a1 a2 a3)) (by decide) rfl rfl rfl (Nat.le_of_ble_eq_true rfl) ?_
  rintro pp ee s mm below meth cc A ls args Q H locs hQ ⟨hx, hb, hr, hml, hown, hts, hlocks, hin⟩ hex hP hK hD hA hS hE hX hl
  have hl : lv_has ls 6 [(0, .ref x0), (1, .int a1), (2, .int a2), (3, .int a3), (4, .ref o0)] := hl
  subst hQ
  refine lv_aload hx hb dL_contract_0 (lv_at hl 4 rfl) ?_
  refine lv_iconst (v := 0) hx hb dL_contract_2 (by decide) ?_
  refine lv_aload_n hx hb dL_contract_3 rfl (lv_at hl 0 rfl) ?_
  refine lv_iload_n hx hb dL_contract_4 rfl (lv_at hl 1 rfl) ?_
  refine lv_iload_n hx hb dL_contract_5 rfl (lv_at hl 2 rfl) ?_
  refine lv_iload_n hx hb dL_contract_6 rfl (lv_at hl 3 rfl) ?_
  by_cases hk : kd_X7_contract S.2.2.1 a1 a2 a3 = 0
  ·
    have hC := c_X7_contract l D g x0 (ua 0 0) (ua 1 0) (ua 2 0) (ua 3 0) (ua 4 0) (ua 5 0) (ua 6 0) (ua 1 2) (ua 1 4) (ua 1 1) (ua 1 3) (ua 1 5) H.size S.2.2.1 a1 a2 a3 hk
    refine k_aiS (w2 := (wK g o0 x0 ua ub (S.1, S.2.1, S.2.2.1, S.2.2.2.1, S.2.2.2.2.1, S.2.2.2.2.2.1, S.2.2.2.2.2.2.1, S.2.2.2.2.2.2.2.1, S.2.2.2.2.2.2.2.2.1, S.2.2.2.2.2.2.2.2.2.1, S.2.2.2.2.2.2.2.2.2.2.1, S.2.2.2.2.2.2.2.2.2.2.2))) (va_runV (As := [.int a1, .int a2, .int a3]) (rest := [.int 0, .ref o0]) ⟨hx, hb, hml, hown, hts⟩ hC (cwV 3 hts gL_contract_X7_contract rfl rfl rfl (by decide +kernel) (k_lvl (by omega) (by decide))) (kPV hP hD hK hS hA hE [1, 4, 5, 6, 7, 8, 9] rfl (by decide) 1 7 rfl rfl rfl) rfl rfl hl.1 rfl (lv_room (Nat.le_of_ble_eq_true rfl)) dL_contract_7 ⟨Nat.le_of_ble_eq_true rfl, Nat.le_of_ble_eq_true rfl⟩) hP hD hS hA [1, 4, 5, 6, 7, 8, 9] rfl (by decide) rfl rfl (fun H locs hP hD hS => ?_)
    refine lv_i2l (v := Int32.toInt64 (f_X7_contract S.2.2.1 a1 a2 a3)) hx hb dL_contract_10 rfl ?_
    refine va_last (i := 0) (x := Int32.toInt64 (f_X7_contract S.2.2.1 a1 a2 a3)) hx hb hK hP hD hS 0 4 rfl rfl (by unfold vp_in; decide) dL_contract_11 (fun H locs hP hD hS => ?_)
    refine lv_goto (tgt := 23) hx hb dL_contract_12 (by decide) ?_
    refine lv_iconst (v := 0) hx hb dL_contract_23 (by decide) ?_
    refine W.widen (k := 1) (n := 6) (Nat.le_of_ble_eq_true rfl) (Nat.le_of_ble_eq_true rfl) ?_
    have hP : va_P D vwCl (wK g o0 x0 ua ub (S.1, S.2.1, S.2.2.1, S.2.2.2.1, S.2.2.2.2.1, S.2.2.2.2.2.1, S.2.2.2.2.2.2.1, S.2.2.2.2.2.2.2.1, S.2.2.2.2.2.2.2.2.1, S.2.2.2.2.2.2.2.2.2.1, S.2.2.2.2.2.2.2.2.2.2.1, vp_updL S.2.2.2.2.2.2.2.2.2.2.2 0 (Int32.toInt64 (f_X7_contract S.2.2.1 a1 a2 a3)))) H := hP
    have hD : va_D A (wK g o0 x0 ua ub (S.1, S.2.1, S.2.2.1, S.2.2.2.1, S.2.2.2.2.1, S.2.2.2.2.2.1, S.2.2.2.2.2.2.1, S.2.2.2.2.2.2.2.1, S.2.2.2.2.2.2.2.2.1, S.2.2.2.2.2.2.2.2.2.1, S.2.2.2.2.2.2.2.2.2.2.1, vp_updL S.2.2.2.2.2.2.2.2.2.2.2 0 (Int32.toInt64 (f_X7_contract S.2.2.1 a1 a2 a3)))) := hD
    have hs : sL_contract a1 a2 a3 S = (S.1, S.2.1, S.2.2.1, S.2.2.2.1, S.2.2.2.2.1, S.2.2.2.2.2.1, S.2.2.2.2.2.2.1, S.2.2.2.2.2.2.2.1, S.2.2.2.2.2.2.2.2.1, S.2.2.2.2.2.2.2.2.2.1, S.2.2.2.2.2.2.2.2.2.2.1, vp_updL S.2.2.2.2.2.2.2.2.2.2.2 0 (Int32.toInt64 (f_X7_contract S.2.2.1 a1 a2 a3))) := if_pos hk
    rw [← hs] at hP hD
    exact k_ri hx hb hr hlocks hP hD hS dL_contract_24 hk.symm rfl
  ·
    have hC := c_X7_contract_x l D g x0 (ua 0 0) (ua 1 0) (ua 2 0) (ua 3 0) (ua 4 0) (ua 5 0) (ua 6 0) (ua 1 2) (ua 1 4) (ua 1 1) (ua 1 3) (ua 1 5) H.size S.2.2.1 a1 a2 a3 hst hk
    rcases kdc_contract a1 a2 a3 S with h1 | h1 | h1
    · exact absurd h1 hk
    · rw [h1, show ex_X7_contract 1 = "java/lang/IndexOutOfBoundsException" from rfl] at hC
      refine k_xc (E := "java/lang/IndexOutOfBoundsException") (mc := 1) (ms := 6) (vx_runV (As := [.int a1, .int a2, .int a3]) (rest := [.int 0, .ref o0]) ⟨hx, hb, hml, hown, hts⟩ hC (cwV 3 hts gL_contract_X7_contract rfl rfl rfl (by decide +kernel) (k_lvl (by omega) (by decide))) (kPVx hP hD hK hS hA hE hX [1, 4, 5, 6, 7, 8, 9] rfl (by decide) 1 7 rfl rfl rfl) rfl rfl hl.1 rfl (lv_room (Nat.le_of_ble_eq_true rfl)) dL_contract_7 ⟨Nat.le_of_ble_eq_true rfl, Nat.le_of_ble_eq_true rfl⟩) hP hD hS hA [1, 4, 5, 6, 7, 8, 9] rfl (fun ce q9 H locs hP hS hc1 hc2 hc3 => ?_)
      refine k_catch1 (own := RL) (E := "java/lang/IndexOutOfBoundsException") hex hown hX (by decide) (by decide) (hts _ qL_contract_h0) (by decide +kernel) hc1 hc2 hc3 ?_
      refine lv_astore (lv' := [(5, .ref q9), (0, .ref x0), (1, .int a1), (2, .int a2), (3, .int a3), (4, .ref o0)]) hx hb dL_contract_15 hl (by decide) rfl (fun ls hl => ?_)
      refine lv_iconst (v := 1) hx hb dL_contract_17 (by decide) ?_
      refine W.widen (k := 1) (n := 6) (Nat.le_of_ble_eq_true rfl) (Nat.le_of_ble_eq_true rfl) ?_
      have hs : sL_contract a1 a2 a3 S = S := if_neg hk
      rw [← hs] at hP hD
      exact k_ri hx hb hr hlocks hP hD hS dL_contract_18 h1.symm rfl
    · rw [h1, show ex_X7_contract 2 = "java/lang/IllegalArgumentException" from rfl] at hC
      refine k_xc (E := "java/lang/IllegalArgumentException") (mc := 1) (ms := 6) (vx_runV (As := [.int a1, .int a2, .int a3]) (rest := [.int 0, .ref o0]) ⟨hx, hb, hml, hown, hts⟩ hC (cwV 3 hts gL_contract_X7_contract rfl rfl rfl (by decide +kernel) (k_lvl (by omega) (by decide))) (kPVx hP hD hK hS hA hE hX [1, 4, 5, 6, 7, 8, 9] rfl (by decide) 1 7 rfl rfl rfl) rfl rfl hl.1 rfl (lv_room (Nat.le_of_ble_eq_true rfl)) dL_contract_7 ⟨Nat.le_of_ble_eq_true rfl, Nat.le_of_ble_eq_true rfl⟩) hP hD hS hA [1, 4, 5, 6, 7, 8, 9] rfl (fun ce q9 H locs hP hS hc1 hc2 hc3 => ?_)
      refine k_catch2 (own := RL) (E := "java/lang/IllegalArgumentException") (E1 := "java/lang/IndexOutOfBoundsException") hex hown hX (by decide) (hts _ qL_contract_h0) (by decide +kernel) (by decide +kernel) (by decide) (by decide) (by decide) (hts _ qL_contract_h1) (by decide +kernel) hc1 hc2 hc3 ?_
      refine lv_astore (lv' := [(5, .ref q9), (0, .ref x0), (1, .int a1), (2, .int a2), (3, .int a3), (4, .ref o0)]) hx hb dL_contract_19 hl (by decide) rfl (fun ls hl => ?_)
      refine lv_iconst (v := 2) hx hb dL_contract_21 (by decide) ?_
      refine W.widen (k := 1) (n := 6) (Nat.le_of_ble_eq_true rfl) (Nat.le_of_ble_eq_true rfl) ?_
      have hs : sL_contract a1 a2 a3 S = S := if_neg hk
      rw [← hs] at hP hD
      exact k_ri hx hb hr hlocks hP hD hS dL_contract_22 h1.symm rfl
theorem kdc_blame (a1 : Int32) (a2 : Int32) (S : KC) : kd_X7_blame a1 a2 = 0 ∨ kd_X7_blame a1 a2 = 1 := by
  unfold kd_X7_blame
  try dsimp only
  repeat' split
  all_goals first | exact Or.inl rfl | exact Or.inr rfl
theorem qL_blame_h0 : Cond.classLink RL 13 "java/lang/IllegalArgumentException" ∈ wsL_blame := (List.mem_cons_of_mem _ (List.mem_append_left _ (List.mem_append_left _ (List.mem_append_left _ (List.mem_append_left _ (List.mem_of_getElem? (i := 0) rfl))))))
set_option maxHeartbeats 4000000 in
set_option maxRecDepth 100000 in
theorem c_L_blame (l : Launch) (D : va_G) (g : Nat → Nat) (o0 x0 : Nat) (ua ub : Nat → Nat → Nat) (sz : Nat) (S : KC) (a1 : Int32) (a2 : Int32) (hst : l.stackTraces = false) (hln : S.1 ≤ 120) (hnx : S.2.2.2.2.2.1 < 14) (hkc : S.2.2.2.2.2.2.1 ≤ 14) (hpt : ¬ 10 < S.2.2.1.1) (hp1 : S.2.2.1.1 = nI S.2.2.1.1.toNatClampNeg) (hp2 : S.2.2.1.1.toNatClampNeg ≤ 10) : kMw l D g yL_blame wsL_blame 40 1 6 [.ref x0, .int a1, .int a2, .ref o0] (wK g o0 x0 ua ub S) sz (kd_X7_blame a1 a2) (wK g o0 x0 ua ub (sL_blame a1 a2 S)) := by
  refine k_enterW (nm := "blame") (own := RL) (bytes := cL_blame) (maxL := 5) (ret := (some .int)) (hh := [(0, 10, 13, 13)]) (Qf := fun A => kQi D (wK g o0 x0 ua ub (sL_blame a1 a2 S)) A (kd_X7_blame a1 a2)) (by decide) rfl rfl rfl (Nat.le_of_ble_eq_true rfl) ?_
  rintro pp ee s mm below meth cc A ls args Q H locs hQ ⟨hx, hb, hr, hml, hown, hts, hlocks, hin⟩ hex hP hK hD hA hS hE hX hl
  have hl : lv_has ls 5 [(0, .ref x0), (1, .int a1), (2, .int a2), (3, .ref o0)] := hl
  subst hQ
  refine lv_aload_n hx hb dL_blame_0 rfl (lv_at hl 3 rfl) ?_
  refine lv_iconst (v := 0) hx hb dL_blame_1 (by decide) ?_
  refine lv_aload_n hx hb dL_blame_2 rfl (lv_at hl 0 rfl) ?_
  refine lv_iload_n hx hb dL_blame_3 rfl (lv_at hl 1 rfl) ?_
  refine lv_iload_n hx hb dL_blame_4 rfl (lv_at hl 2 rfl) ?_
  by_cases hk : kd_X7_blame a1 a2 = 0
  ·
    have hC := c_X7_blame l D g x0 (ua 0 0) (ua 1 0) (ua 2 0) (ua 3 0) (ua 4 0) (ua 5 0) (ua 6 0) (ua 1 2) (ua 1 4) (ua 1 1) (ua 1 3) (ua 1 5) H.size S.2.2.1 a1 a2 hk
    refine k_aiS (w2 := (wK g o0 x0 ua ub (S.1, S.2.1, S.2.2.1, S.2.2.2.1, S.2.2.2.2.1, S.2.2.2.2.2.1, S.2.2.2.2.2.2.1, S.2.2.2.2.2.2.2.1, S.2.2.2.2.2.2.2.2.1, S.2.2.2.2.2.2.2.2.2.1, S.2.2.2.2.2.2.2.2.2.2.1, S.2.2.2.2.2.2.2.2.2.2.2))) (va_runV (As := [.int a1, .int a2]) (rest := [.int 0, .ref o0]) ⟨hx, hb, hml, hown, hts⟩ hC (cwV 2 hts gL_blame_X7_blame rfl rfl rfl (by decide +kernel) (k_lvl (by omega) (by decide))) (kPV hP hD hK hS hA hE [1, 4, 5, 6, 7, 8, 9] rfl (by decide) 1 7 rfl rfl rfl) rfl rfl hl.1 rfl (lv_room (Nat.le_of_ble_eq_true rfl)) dL_blame_5 ⟨Nat.le_of_ble_eq_true rfl, Nat.le_of_ble_eq_true rfl⟩) hP hD hS hA [1, 4, 5, 6, 7, 8, 9] rfl (by decide) rfl rfl (fun H locs hP hD hS => ?_)
    refine lv_i2l (v := Int32.toInt64 (f_X7_blame S.2.2.1 a1 a2)) hx hb dL_blame_8 rfl ?_
    refine va_last (i := 0) (x := Int32.toInt64 (f_X7_blame S.2.2.1 a1 a2)) hx hb hK hP hD hS 0 4 rfl rfl (by unfold vp_in; decide) dL_blame_9 (fun H locs hP hD hS => ?_)
    refine lv_goto (tgt := 17) hx hb dL_blame_10 (by decide) ?_
    refine lv_iconst (v := 0) hx hb dL_blame_17 (by decide) ?_
    refine W.widen (k := 1) (n := 6) (Nat.le_of_ble_eq_true rfl) (Nat.le_of_ble_eq_true rfl) ?_
    have hP : va_P D vwCl (wK g o0 x0 ua ub (S.1, S.2.1, S.2.2.1, S.2.2.2.1, S.2.2.2.2.1, S.2.2.2.2.2.1, S.2.2.2.2.2.2.1, S.2.2.2.2.2.2.2.1, S.2.2.2.2.2.2.2.2.1, S.2.2.2.2.2.2.2.2.2.1, S.2.2.2.2.2.2.2.2.2.2.1, vp_updL S.2.2.2.2.2.2.2.2.2.2.2 0 (Int32.toInt64 (f_X7_blame S.2.2.1 a1 a2)))) H := hP
    have hD : va_D A (wK g o0 x0 ua ub (S.1, S.2.1, S.2.2.1, S.2.2.2.1, S.2.2.2.2.1, S.2.2.2.2.2.1, S.2.2.2.2.2.2.1, S.2.2.2.2.2.2.2.1, S.2.2.2.2.2.2.2.2.1, S.2.2.2.2.2.2.2.2.2.1, S.2.2.2.2.2.2.2.2.2.2.1, vp_updL S.2.2.2.2.2.2.2.2.2.2.2 0 (Int32.toInt64 (f_X7_blame S.2.2.1 a1 a2)))) := hD
    have hs : sL_blame a1 a2 S = (S.1, S.2.1, S.2.2.1, S.2.2.2.1, S.2.2.2.2.1, S.2.2.2.2.2.1, S.2.2.2.2.2.2.1, S.2.2.2.2.2.2.2.1, S.2.2.2.2.2.2.2.2.1, S.2.2.2.2.2.2.2.2.2.1, S.2.2.2.2.2.2.2.2.2.2.1, vp_updL S.2.2.2.2.2.2.2.2.2.2.2 0 (Int32.toInt64 (f_X7_blame S.2.2.1 a1 a2))) := if_pos hk
    rw [← hs] at hP hD
    exact k_ri hx hb hr hlocks hP hD hS dL_blame_18 hk.symm rfl
  ·
    have hC := c_X7_blame_x l D g x0 (ua 0 0) (ua 1 0) (ua 2 0) (ua 3 0) (ua 4 0) (ua 5 0) (ua 6 0) (ua 1 2) (ua 1 4) (ua 1 1) (ua 1 3) (ua 1 5) H.size S.2.2.1 a1 a2 hst hk
    rcases kdc_blame a1 a2 S with h1 | h1
    · exact absurd h1 hk
    · rw [h1, show ex_X7_blame 1 = "java/lang/IllegalArgumentException" from rfl] at hC
      refine k_xc (E := "java/lang/IllegalArgumentException") (mc := 1) (ms := 6) (vx_runV (As := [.int a1, .int a2]) (rest := [.int 0, .ref o0]) ⟨hx, hb, hml, hown, hts⟩ hC (cwV 2 hts gL_blame_X7_blame rfl rfl rfl (by decide +kernel) (k_lvl (by omega) (by decide))) (kPVx hP hD hK hS hA hE hX [1, 4, 5, 6, 7, 8, 9] rfl (by decide) 1 7 rfl rfl rfl) rfl rfl hl.1 rfl (lv_room (Nat.le_of_ble_eq_true rfl)) dL_blame_5 ⟨Nat.le_of_ble_eq_true rfl, Nat.le_of_ble_eq_true rfl⟩) hP hD hS hA [1, 4, 5, 6, 7, 8, 9] rfl (fun ce q9 H locs hP hS hc1 hc2 hc3 => ?_)
      refine k_catch1 (own := RL) (E := "java/lang/IllegalArgumentException") hex hown hX (by decide) (by decide) (hts _ qL_blame_h0) (by decide +kernel) hc1 hc2 hc3 ?_
      refine lv_astore (lv' := [(4, .ref q9), (0, .ref x0), (1, .int a1), (2, .int a2), (3, .ref o0)]) hx hb dL_blame_13 hl (by decide) rfl (fun ls hl => ?_)
      refine lv_iconst (v := 1) hx hb dL_blame_15 (by decide) ?_
      refine W.widen (k := 1) (n := 6) (Nat.le_of_ble_eq_true rfl) (Nat.le_of_ble_eq_true rfl) ?_
      have hs : sL_blame a1 a2 S = S := if_neg hk
      rw [← hs] at hP hD
      exact k_ri hx hb hr hlocks hP hD hS dL_blame_16 h1.symm rfl
theorem kdc_add (a1 : Int32) (a2 : Int32) (S : KC) : kd_X7_add S.2.2.1 a1 a2 = 0 ∨ kd_X7_add S.2.2.1 a1 a2 = 1 ∨ kd_X7_add S.2.2.1 a1 a2 = 2 := by
  unfold kd_X7_add
  try dsimp only
  repeat' split
  all_goals first | exact Or.inl rfl | exact Or.inr (Or.inl rfl) | exact Or.inr (Or.inr rfl)
theorem qL_add_h0 : Cond.classLink RL 13 "java/lang/IllegalArgumentException" ∈ wsL_add := (List.mem_cons_of_mem _ (List.mem_append_left _ (List.mem_append_left _ (List.mem_append_left _ (List.mem_append_left _ (List.mem_append_left _ (List.mem_append_left _ (List.mem_append_left _ (List.mem_append_left _ (List.mem_of_getElem? (i := 0) rfl))))))))))
theorem qL_add_h1 : Cond.classLink RL 15 "java/lang/IllegalStateException" ∈ wsL_add := (List.mem_cons_of_mem _ (List.mem_append_left _ (List.mem_append_left _ (List.mem_append_left _ (List.mem_append_left _ (List.mem_append_left _ (List.mem_append_left _ (List.mem_append_left _ (List.mem_append_left _ (List.mem_of_getElem? (i := 1) rfl))))))))))
set_option maxHeartbeats 4000000 in
set_option maxRecDepth 100000 in
theorem c_L_add (l : Launch) (D : va_G) (g : Nat → Nat) (o0 x0 : Nat) (ua ub : Nat → Nat → Nat) (sz : Nat) (S : KC) (a1 : Int32) (a2 : Int32) (hst : l.stackTraces = false) (hln : S.1 ≤ 120) (hnx : S.2.2.2.2.2.1 < 14) (hkc : S.2.2.2.2.2.2.1 ≤ 14) (hpt : ¬ 10 < S.2.2.1.1) (hp1 : S.2.2.1.1 = nI S.2.2.1.1.toNatClampNeg) (hp2 : S.2.2.1.1.toNatClampNeg ≤ 10) : kMw l D g yL_add wsL_add 40 1 6 [.ref x0, .int a1, .int a2, .ref o0] (wK g o0 x0 ua ub S) sz (kd_X7_add S.2.2.1 a1 a2) (wK g o0 x0 ua ub (sL_add a1 a2 S)) := by
  refine k_enterW (nm := "add") (own := RL) (bytes := cL_add) (maxL := 5) (ret := (some .int)) (hh := [(0, 10, 13, 13), (0, 10, 17, 15)]) (Qf := fun A => kQi D (wK g o0 x0 ua ub (sL_add a1 a2 S)) A (kd_X7_add S.2.2.1 a1 a2)) (by decide) rfl rfl rfl (Nat.le_of_ble_eq_true rfl) ?_
  rintro pp ee s mm below meth cc A ls args Q H locs hQ ⟨hx, hb, hr, hml, hown, hts, hlocks, hin⟩ hex hP hK hD hA hS hE hX hl
  have hl : lv_has ls 5 [(0, .ref x0), (1, .int a1), (2, .int a2), (3, .ref o0)] := hl
  subst hQ
  refine lv_aload_n hx hb dL_add_0 rfl (lv_at hl 3 rfl) ?_
  refine lv_iconst (v := 0) hx hb dL_add_1 (by decide) ?_
  refine lv_aload_n hx hb dL_add_2 rfl (lv_at hl 0 rfl) ?_
  refine lv_iload_n hx hb dL_add_3 rfl (lv_at hl 1 rfl) ?_
  refine lv_iload_n hx hb dL_add_4 rfl (lv_at hl 2 rfl) ?_
  by_cases hk : kd_X7_add S.2.2.1 a1 a2 = 0
  ·
    have hC := c_X7_add l D g x0 (ua 0 0) (ua 1 0) (ua 2 0) (ua 3 0) (ua 4 0) (ua 5 0) (ua 6 0) (ua 1 2) (ua 1 4) (ua 1 1) (ua 1 3) (ua 1 5) (ua 4 1) H.size ub S.2.2.2.2.2.1 S.2.2.2.2.2.2.1 S.2.2.1 S.2.2.2.2.2.2.2.1 a1 a2 hnx hkc hk
    obtain ⟨F1, hF1⟩ : ∃ z, z = (f_X7_add S.2.2.2.2.2.1 S.2.2.2.2.2.2.1 S.2.2.1 S.2.2.2.2.2.2.2.1 a1 a2) := ⟨_, rfl⟩
    rw [← hF1] at hC
    refine k_aiS2 (E := (wE g o0 x0 ua ub S)) (Ec := [(x0, .inr (7, [.ref (ua 0 0), .ref (ua 1 0), .ref (ua 2 0), .ref (ua 3 0), .ref (ua 4 0), .ref (ua 5 0), .ref (ua 6 0)])), ((ua 1 0), .inr (4, [.ref (ua 1 2), .ref (ua 1 4), .ref (ua 1 1), .int S.2.2.1.1, .int S.2.2.1.2.1, .int S.2.2.1.2.2.1, .int S.2.2.1.2.2.2.1, .int S.2.2.1.2.2.2.2.1, .int S.2.2.1.2.2.2.2.2.1])), ((ua 1 1), .inl (g 0, 80, .inl (S.2.2.1.2.2.2.2.2.2.1))), ((ua 1 2), .inr (1, [.ref (ua 1 3)])), ((ua 1 3), .inl (g 0, 480, .inl (S.2.2.1.2.2.2.2.2.2.2.1))), ((ua 1 4), .inr (0, [.ref (ua 1 5), .int S.2.2.1.2.2.2.2.2.2.2.2.1])), ((ua 1 5), .inl (g 0, 60, .inl (S.2.2.1.2.2.2.2.2.2.2.2.2))), ((ua 4 0), .inr (3, [.ref (ua 4 1), .int (nI S.2.2.2.2.2.1), .int (nI S.2.2.2.2.2.2.1)])), ((ua 4 1), .inl (g 3, 14, .inr (.inr (.inr (.inr (fun j => some (ub j 0)))))))]) (E1 := [(x0, .inr (7, [.ref (ua 0 0), .ref (ua 1 0), .ref (ua 2 0), .ref (ua 3 0), .ref (ua 4 0), .ref (ua 5 0), .ref (ua 6 0)])), ((ua 1 0), .inr (4, [.ref (ua 1 2), .ref (ua 1 4), .ref (ua 1 1), .int (F1.2.2.2.1.1), .int (F1.2.2.2.1.2.1), .int (F1.2.2.2.1.2.2.1), .int (F1.2.2.2.1.2.2.2.1), .int (F1.2.2.2.1.2.2.2.2.1), .int (F1.2.2.2.1.2.2.2.2.2.1)])), ((ua 1 1), .inl (g 0, 80, .inl (F1.2.2.2.1.2.2.2.2.2.2.1))), ((ua 1 2), .inr (1, [.ref (ua 1 3)])), ((ua 1 3), .inl (g 0, 480, .inl (F1.2.2.2.1.2.2.2.2.2.2.2.1))), ((ua 1 4), .inr (0, [.ref (ua 1 5), .int (F1.2.2.2.1.2.2.2.2.2.2.2.2.1)])), ((ua 1 5), .inl (g 0, 60, .inl (F1.2.2.2.1.2.2.2.2.2.2.2.2.2))), ((ua 4 0), .inr (3, [.ref (ua 4 1), .int (nI (F1.2.1)), .int (nI (F1.2.2.1))])), ((ua 4 1), .inl (g 3, 14, .inr (.inr (.inr (.inr (fun j => some (ub j 0)))))))]) (P := (wPool g ub S.2.2.2.2.2.2.2.1)) (P1 := (wPool g ub (F1.2.2.2.2))) (E2 := (wE g o0 x0 ua ub (S.1, S.2.1, F1.2.2.2.1, S.2.2.2.1, S.2.2.2.2.1, F1.2.1, F1.2.2.1, (F1.2.2.2.2), S.2.2.2.2.2.2.2.2.1, S.2.2.2.2.2.2.2.2.2.1, S.2.2.2.2.2.2.2.2.2.2.1, S.2.2.2.2.2.2.2.2.2.2.2))) (va_runV (As := [.int a1, .int a2]) (rest := [.int 0, .ref o0]) ⟨hx, hb, hml, hown, hts⟩ hC (cwV 2 hts gL_add_X7_add rfl rfl rfl (by decide +kernel) (k_lvl (by omega) (by decide))) (kPV2 hP hD hK hS hA hE [1, 4, 5, 6, 7, 8, 9, 22, 23] rfl (by decide) 1 7 rfl rfl rfl) rfl rfl hl.1 rfl (lv_room (Nat.le_of_ble_eq_true rfl)) dL_add_5 ⟨Nat.le_of_ble_eq_true rfl, Nat.le_of_ble_eq_true rfl⟩) hP hD hS hA [1, 4, 5, 6, 7, 8, 9, 22, 23] rfl (by decide) rfl rfl (wPool_addr _ _ _ _) (fun H locs hP hD hS => ?_)
    have hP : va_P D vwCl (wK g o0 x0 ua ub (S.1, S.2.1, F1.2.2.2.1, S.2.2.2.1, S.2.2.2.2.1, F1.2.1, F1.2.2.1, (F1.2.2.2.2), S.2.2.2.2.2.2.2.2.1, S.2.2.2.2.2.2.2.2.2.1, S.2.2.2.2.2.2.2.2.2.2.1, S.2.2.2.2.2.2.2.2.2.2.2)) H := hP
    have hD : va_D A (wK g o0 x0 ua ub (S.1, S.2.1, F1.2.2.2.1, S.2.2.2.1, S.2.2.2.2.1, F1.2.1, F1.2.2.1, (F1.2.2.2.2), S.2.2.2.2.2.2.2.2.1, S.2.2.2.2.2.2.2.2.2.1, S.2.2.2.2.2.2.2.2.2.2.1, S.2.2.2.2.2.2.2.2.2.2.2)) := hD
    refine lv_i2l (v := Int32.toInt64 (F1.1)) hx hb dL_add_8 rfl ?_
    refine va_last (i := 0) (x := Int32.toInt64 (F1.1)) hx hb hK hP hD hS 0 4 rfl rfl (by unfold vp_in; decide) dL_add_9 (fun H locs hP hD hS => ?_)
    refine lv_goto (tgt := 21) hx hb dL_add_10 (by decide) ?_
    refine lv_iconst (v := 0) hx hb dL_add_21 (by decide) ?_
    refine W.widen (k := 1) (n := 6) (Nat.le_of_ble_eq_true rfl) (Nat.le_of_ble_eq_true rfl) ?_
    have hP : va_P D vwCl (wK g o0 x0 ua ub (S.1, S.2.1, F1.2.2.2.1, S.2.2.2.1, S.2.2.2.2.1, F1.2.1, F1.2.2.1, (F1.2.2.2.2), S.2.2.2.2.2.2.2.2.1, S.2.2.2.2.2.2.2.2.2.1, S.2.2.2.2.2.2.2.2.2.2.1, vp_updL S.2.2.2.2.2.2.2.2.2.2.2 0 (Int32.toInt64 (F1.1)))) H := hP
    have hD : va_D A (wK g o0 x0 ua ub (S.1, S.2.1, F1.2.2.2.1, S.2.2.2.1, S.2.2.2.2.1, F1.2.1, F1.2.2.1, (F1.2.2.2.2), S.2.2.2.2.2.2.2.2.1, S.2.2.2.2.2.2.2.2.2.1, S.2.2.2.2.2.2.2.2.2.2.1, vp_updL S.2.2.2.2.2.2.2.2.2.2.2 0 (Int32.toInt64 (F1.1)))) := hD
    subst hF1
    have hs : sL_add a1 a2 S = (S.1, S.2.1, (f_X7_add S.2.2.2.2.2.1 S.2.2.2.2.2.2.1 S.2.2.1 S.2.2.2.2.2.2.2.1 a1 a2).2.2.2.1, S.2.2.2.1, S.2.2.2.2.1, (f_X7_add S.2.2.2.2.2.1 S.2.2.2.2.2.2.1 S.2.2.1 S.2.2.2.2.2.2.2.1 a1 a2).2.1, (f_X7_add S.2.2.2.2.2.1 S.2.2.2.2.2.2.1 S.2.2.1 S.2.2.2.2.2.2.2.1 a1 a2).2.2.1, ((f_X7_add S.2.2.2.2.2.1 S.2.2.2.2.2.2.1 S.2.2.1 S.2.2.2.2.2.2.2.1 a1 a2).2.2.2.2), S.2.2.2.2.2.2.2.2.1, S.2.2.2.2.2.2.2.2.2.1, S.2.2.2.2.2.2.2.2.2.2.1, vp_updL S.2.2.2.2.2.2.2.2.2.2.2 0 (Int32.toInt64 ((f_X7_add S.2.2.2.2.2.1 S.2.2.2.2.2.2.1 S.2.2.1 S.2.2.2.2.2.2.2.1 a1 a2).1))) := if_pos hk
    rw [← hs] at hP hD
    exact k_ri hx hb hr hlocks hP hD hS dL_add_22 hk.symm rfl
  ·
    have hC := c_X7_add_x l D g x0 (ua 0 0) (ua 1 0) (ua 2 0) (ua 3 0) (ua 4 0) (ua 5 0) (ua 6 0) (ua 1 2) (ua 1 4) (ua 1 1) (ua 1 3) (ua 1 5) H.size S.2.2.1 a1 a2 hst hk
    rcases kdc_add a1 a2 S with h1 | h1 | h1
    · exact absurd h1 hk
    · rw [h1, show ex_X7_add 1 = "java/lang/IllegalArgumentException" from rfl] at hC
      refine k_xc (E := "java/lang/IllegalArgumentException") (mc := 1) (ms := 6) (vx_runV (As := [.int a1, .int a2]) (rest := [.int 0, .ref o0]) ⟨hx, hb, hml, hown, hts⟩ hC (cwV 2 hts gL_add_X7_add rfl rfl rfl (by decide +kernel) (k_lvl (by omega) (by decide))) (kPVx hP hD hK hS hA hE hX [1, 4, 5, 6, 7, 8, 9] rfl (by decide) 1 7 rfl rfl rfl) rfl rfl hl.1 rfl (lv_room (Nat.le_of_ble_eq_true rfl)) dL_add_5 ⟨Nat.le_of_ble_eq_true rfl, Nat.le_of_ble_eq_true rfl⟩) hP hD hS hA [1, 4, 5, 6, 7, 8, 9] rfl (fun ce q9 H locs hP hS hc1 hc2 hc3 => ?_)
      refine k_catch1 (own := RL) (E := "java/lang/IllegalArgumentException") hex hown hX (by decide) (by decide) (hts _ qL_add_h0) (by decide +kernel) hc1 hc2 hc3 ?_
      refine lv_astore (lv' := [(4, .ref q9), (0, .ref x0), (1, .int a1), (2, .int a2), (3, .ref o0)]) hx hb dL_add_13 hl (by decide) rfl (fun ls hl => ?_)
      refine lv_iconst (v := 1) hx hb dL_add_15 (by decide) ?_
      refine W.widen (k := 1) (n := 6) (Nat.le_of_ble_eq_true rfl) (Nat.le_of_ble_eq_true rfl) ?_
      have hs : sL_add a1 a2 S = S := if_neg hk
      rw [← hs] at hP hD
      exact k_ri hx hb hr hlocks hP hD hS dL_add_16 h1.symm rfl
    · rw [h1, show ex_X7_add 2 = "java/lang/IllegalStateException" from rfl] at hC
      refine k_xc (E := "java/lang/IllegalStateException") (mc := 1) (ms := 6) (vx_runV (As := [.int a1, .int a2]) (rest := [.int 0, .ref o0]) ⟨hx, hb, hml, hown, hts⟩ hC (cwV 2 hts gL_add_X7_add rfl rfl rfl (by decide +kernel) (k_lvl (by omega) (by decide))) (kPVx hP hD hK hS hA hE hX [1, 4, 5, 6, 7, 8, 9] rfl (by decide) 1 7 rfl rfl rfl) rfl rfl hl.1 rfl (lv_room (Nat.le_of_ble_eq_true rfl)) dL_add_5 ⟨Nat.le_of_ble_eq_true rfl, Nat.le_of_ble_eq_true rfl⟩) hP hD hS hA [1, 4, 5, 6, 7, 8, 9] rfl (fun ce q9 H locs hP hS hc1 hc2 hc3 => ?_)
      refine k_catch2 (own := RL) (E := "java/lang/IllegalStateException") (E1 := "java/lang/IllegalArgumentException") hex hown hX (by decide) (hts _ qL_add_h0) (by decide +kernel) (by decide +kernel) (by decide) (by decide) (by decide) (hts _ qL_add_h1) (by decide +kernel) hc1 hc2 hc3 ?_
      refine lv_astore (lv' := [(4, .ref q9), (0, .ref x0), (1, .int a1), (2, .int a2), (3, .ref o0)]) hx hb dL_add_17 hl (by decide) rfl (fun ls hl => ?_)
      refine lv_iconst (v := 2) hx hb dL_add_19 (by decide) ?_
      refine W.widen (k := 1) (n := 6) (Nat.le_of_ble_eq_true rfl) (Nat.le_of_ble_eq_true rfl) ?_
      have hs : sL_add a1 a2 S = S := if_neg hk
      rw [← hs] at hP hD
      exact k_ri hx hb hr hlocks hP hD hS dL_add_20 h1.symm rfl
end
