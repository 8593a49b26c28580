-- THE LAW, 2: what a method of the class is for the law
noncomputable section
theorem kdc_would (a1 : Int32) (a2 : Int32) (a3 : Int32) (S : KC) : kd_X7_would S.2.2.1 a1 a2 a3 = 0 ∨ kd_X7_would S.2.2.1 a1 a2 a3 = 1 ∨ kd_X7_would S.2.2.1 a1 a2 a3 = 2 := by
  unfold kd_X7_would
  try dsimp only
  repeat' split
  all_goals first | exact Or.inl rfl | exact Or.inr (Or.inl rfl) | exact Or.inr (Or.inr rfl)
theorem qL_would_h0 : Cond.classLink RL 28 "java/lang/IndexOutOfBoundsException" ∈ wsL_would := (List.mem_cons_of_mem _ (List.mem_append_left _ (List.mem_append_left _ (List.mem_append_left _ (List.mem_append_left _ (List.mem_append_left _ (List.mem_append_left _ (List.mem_append_left _ (List.mem_of_getElem? (i := 0) rfl)))))))))
theorem qL_would_h1 : Cond.classLink RL 13 "java/lang/IllegalArgumentException" ∈ wsL_would := (List.mem_cons_of_mem _ (List.mem_append_left _ (List.mem_append_left _ (List.mem_append_left _ (List.mem_append_left _ (List.mem_append_left _ (List.mem_append_left _ (List.mem_append_left _ (List.mem_of_getElem? (i := 1) rfl)))))))))
set_option maxHeartbeats 4000000 in
set_option maxRecDepth 100000 in
theorem c_L_would (l : Launch) (D : va_G) (g : Nat → Nat) (o0 x0 : Nat) (ua ub : Nat → Nat → Nat) (sz : Nat) (S : KC) (a1 : Int32) (a2 : Int32) (a3 : Int32) (hst : l.stackTraces = false) (hln : S.1 ≤ 120) (hnx : S.2.2.2.2.2.1 < 14) (hkc : S.2.2.2.2.2.2.1 ≤ 14) (hpt : ¬ 10 < S.2.2.1.1) (hp1 : S.2.2.1.1 = nI S.2.2.1.1.toNatClampNeg) (hp2 : S.2.2.1.1.toNatClampNeg ≤ 10) : kMw l D g yL_would wsL_would 40 1 6 [.ref x0, .int a1, .int a2, .int a3, .ref o0] (wK g o0 x0 ua ub S) sz (kd_X7_would S.2.2.1 a1 a2 a3) (wK g o0 x0 ua ub (sL_would a1 a2 a3 S)) := by
  refine k_enterW (nm := "would") (own := RL) (bytes := cL_would) (maxL := 6) (ret := (some .int)) (hh := [(0, 12, 15, 28), (0, 12, 19, 13)]) (Qf := fun A => kQi D (wK g o0 x0 ua ub (sL_would a1 a2 a3 S)) A (kd_X7_would S.2.2.1 a1 a2 a3)) (by decide) rfl rfl rfl (Nat.le_of_ble_eq_true rfl) ?_
  rintro pp ee s mm below meth cc A ls args Q H locs hQ ⟨hx, hb, hr, hml, hown, hts, hlocks, hin⟩ hex hP hK hD hA hS hE hX hl
  have hl : lv_has ls 6 [(0, .ref x0), (1, .int a1), (2, .int a2), (3, .int a3), (4, .ref o0)] := hl
  subst hQ
  refine lv_aload hx hb dL_would_0 (lv_at hl 4 rfl) ?_
  refine lv_iconst (v := 0) hx hb dL_would_2 (by decide) ?_
  refine lv_aload_n hx hb dL_would_3 rfl (lv_at hl 0 rfl) ?_
  refine lv_iload_n hx hb dL_would_4 rfl (lv_at hl 1 rfl) ?_
  refine lv_iload_n hx hb dL_would_5 rfl (lv_at hl 2 rfl) ?_
  refine lv_iload_n hx hb dL_would_6 rfl (lv_at hl 3 rfl) ?_
  by_cases hk : kd_X7_would S.2.2.1 a1 a2 a3 = 0
  ·
    refine k_aiS (w2 := (wK g o0 x0 ua ub (S.1, S.2.1, S.2.2.1, S.2.2.2.1, (f_X7_would S.2.2.1 a1 a2 a3).2, S.2.2.2.2.2.1, S.2.2.2.2.2.2.1, S.2.2.2.2.2.2.2.1, S.2.2.2.2.2.2.2.2.1, S.2.2.2.2.2.2.2.2.2.1, S.2.2.2.2.2.2.2.2.2.2.1, S.2.2.2.2.2.2.2.2.2.2.2))) (va_runV (As := [.int a1, .int a2, .int a3]) (rest := [.int 0, .ref o0]) ⟨hx, hb, hml, hown, hts⟩ (c_X7_would l D g x0 (ua 0 0) (ua 1 0) (ua 2 0) (ua 3 0) (ua 4 0) (ua 5 0) (ua 6 0) (ua 1 2) (ua 1 4) (ua 1 1) (ua 1 3) (ua 1 5) (ua 3 2) (ua 3 4) (ua 3 1) (ua 3 3) (ua 3 5) H.size S.2.2.1 S.2.2.2.2.1 a1 a2 a3 hk) (cwV 3 hts gL_would_X7_would rfl rfl rfl (by decide +kernel) (k_lvl (by omega) (by decide))) (kPV hP hD hK hS hA hE [1, 4, 5, 6, 7, 8, 9, 16, 17, 18, 19, 20, 21] rfl (by decide) 1 7 rfl rfl rfl) rfl rfl hl.1 rfl (lv_room (Nat.le_of_ble_eq_true rfl)) dL_would_7 ⟨Nat.le_of_ble_eq_true rfl, Nat.le_of_ble_eq_true rfl⟩) hP hD hS hA [1, 4, 5, 6, 7, 8, 9, 16, 17, 18, 19, 20, 21] rfl (by decide) rfl rfl (fun H locs hP hD hS => ?_)
    refine lv_i2l (v := Int32.toInt64 ((f_X7_would S.2.2.1 a1 a2 a3).1)) hx hb dL_would_10 rfl ?_
    refine va_last (i := 0) (x := Int32.toInt64 ((f_X7_would S.2.2.1 a1 a2 a3).1)) hx hb hK hP hD hS 0 4 rfl rfl (by unfold vp_in; decide) dL_would_11 (fun H locs hP hD hS => ?_)
    refine lv_goto (tgt := 23) hx hb dL_would_12 (by decide) ?_
    refine lv_iconst (v := 0) hx hb dL_would_23 (by decide) ?_
    refine W.widen (k := 1) (n := 6) (Nat.le_of_ble_eq_true rfl) (Nat.le_of_ble_eq_true rfl) ?_
    have hs : sL_would a1 a2 a3 S = (S.1, S.2.1, S.2.2.1, S.2.2.2.1, (f_X7_would S.2.2.1 a1 a2 a3).2, S.2.2.2.2.2.1, S.2.2.2.2.2.2.1, S.2.2.2.2.2.2.2.1, S.2.2.2.2.2.2.2.2.1, S.2.2.2.2.2.2.2.2.2.1, S.2.2.2.2.2.2.2.2.2.2.1, vp_updL S.2.2.2.2.2.2.2.2.2.2.2 0 (Int32.toInt64 ((f_X7_would S.2.2.1 a1 a2 a3).1))) := if_pos hk
    have hP : va_P D vwCl (wK g o0 x0 ua ub (S.1, S.2.1, S.2.2.1, S.2.2.2.1, (f_X7_would S.2.2.1 a1 a2 a3).2, S.2.2.2.2.2.1, S.2.2.2.2.2.2.1, S.2.2.2.2.2.2.2.1, S.2.2.2.2.2.2.2.2.1, S.2.2.2.2.2.2.2.2.2.1, S.2.2.2.2.2.2.2.2.2.2.1, vp_updL S.2.2.2.2.2.2.2.2.2.2.2 0 (Int32.toInt64 ((f_X7_would S.2.2.1 a1 a2 a3).1)))) H := hP
    have hD : va_D A (wK g o0 x0 ua ub (S.1, S.2.1, S.2.2.1, S.2.2.2.1, (f_X7_would S.2.2.1 a1 a2 a3).2, S.2.2.2.2.2.1, S.2.2.2.2.2.2.1, S.2.2.2.2.2.2.2.1, S.2.2.2.2.2.2.2.2.1, S.2.2.2.2.2.2.2.2.2.1, S.2.2.2.2.2.2.2.2.2.2.1, vp_updL S.2.2.2.2.2.2.2.2.2.2.2 0 (Int32.toInt64 ((f_X7_would S.2.2.1 a1 a2 a3).1)))) := hD
    rw [← hs] at hP hD
    exact k_ri hx hb hr hlocks hP hD hS dL_would_24 hk.symm rfl
  ·
    have hC := c_X7_would_x l D g x0 (ua 0 0) (ua 1 0) (ua 2 0) (ua 3 0) (ua 4 0) (ua 5 0) (ua 6 0) (ua 1 2) (ua 1 4) (ua 1 1) (ua 1 3) (ua 1 5) H.size S.2.2.1 a1 a2 a3 hst hk
    rcases kdc_would a1 a2 a3 S with h1 | h1 | h1
    · exact absurd h1 hk
    · rw [h1, show ex_X7_would 1 = "java/lang/IndexOutOfBoundsException" from rfl] at hC
      refine k_xc (E := "java/lang/IndexOutOfBoundsException") (mc := 1) (ms := 6) (vx_runV (As := [.int a1, .int a2, .int a3]) (rest := [.int 0, .ref o0]) ⟨hx, hb, hml, hown, hts⟩ hC (cwV 3 hts gL_would_X7_would rfl rfl rfl (by decide +kernel) (k_lvl (by omega) (by decide))) (kPVx hP hD hK hS hA hE hX [1, 4, 5, 6, 7, 8, 9] rfl (by decide) 1 7 rfl rfl rfl) rfl rfl hl.1 rfl (lv_room (Nat.le_of_ble_eq_true rfl)) dL_would_7 ⟨Nat.le_of_ble_eq_true rfl, Nat.le_of_ble_eq_true rfl⟩) hP hD hS hA [1, 4, 5, 6, 7, 8, 9] rfl (fun ce q9 H locs hP hS hc1 hc2 hc3 => ?_)
      refine k_catch1 (own := RL) (E := "java/lang/IndexOutOfBoundsException") hex hown hX (by decide) (by decide) (hts _ qL_would_h0) (by decide +kernel) hc1 hc2 hc3 ?_
      refine lv_astore (lv' := [(5, .ref q9), (0, .ref x0), (1, .int a1), (2, .int a2), (3, .int a3), (4, .ref o0)]) hx hb dL_would_15 hl (by decide) rfl (fun ls hl => ?_)
      refine lv_iconst (v := 1) hx hb dL_would_17 (by decide) ?_
      refine W.widen (k := 1) (n := 6) (Nat.le_of_ble_eq_true rfl) (Nat.le_of_ble_eq_true rfl) ?_
      have hs : sL_would a1 a2 a3 S = S := if_neg hk
      rw [← hs] at hP hD
      exact k_ri hx hb hr hlocks hP hD hS dL_would_18 h1.symm rfl
    · rw [h1, show ex_X7_would 2 = "java/lang/IllegalArgumentException" from rfl] at hC
      refine k_xc (E := "java/lang/IllegalArgumentException") (mc := 1) (ms := 6) (vx_runV (As := [.int a1, .int a2, .int a3]) (rest := [.int 0, .ref o0]) ⟨hx, hb, hml, hown, hts⟩ hC (cwV 3 hts gL_would_X7_would rfl rfl rfl (by decide +kernel) (k_lvl (by omega) (by decide))) (kPVx hP hD hK hS hA hE hX [1, 4, 5, 6, 7, 8, 9] rfl (by decide) 1 7 rfl rfl rfl) rfl rfl hl.1 rfl (lv_room (Nat.le_of_ble_eq_true rfl)) dL_would_7 ⟨Nat.le_of_ble_eq_true rfl, Nat.le_of_ble_eq_true rfl⟩) hP hD hS hA [1, 4, 5, 6, 7, 8, 9] rfl (fun ce q9 H locs hP hS hc1 hc2 hc3 => ?_)
      refine k_catch2 (own := RL) (E := "java/lang/IllegalArgumentException") (E1 := "java/lang/IndexOutOfBoundsException") hex hown hX (by decide) (hts _ qL_would_h0) (by decide +kernel) (by decide +kernel) (by decide) (by decide) (by decide) (hts _ qL_would_h1) (by decide +kernel) hc1 hc2 hc3 ?_
      refine lv_astore (lv' := [(5, .ref q9), (0, .ref x0), (1, .int a1), (2, .int a2), (3, .int a3), (4, .ref o0)]) hx hb dL_would_19 hl (by decide) rfl (fun ls hl => ?_)
      refine lv_iconst (v := 2) hx hb dL_would_21 (by decide) ?_
      refine W.widen (k := 1) (n := 6) (Nat.le_of_ble_eq_true rfl) (Nat.le_of_ble_eq_true rfl) ?_
      have hs : sL_would a1 a2 a3 S = S := if_neg hk
      rw [← hs] at hP hD
      exact k_ri hx hb hr hlocks hP hD hS dL_would_22 h1.symm rfl
theorem kdc_stands (a1 : Int32) (a2 : Int32) (a3 : Int32) (a4 : Int32) (S : KC) : kd_X7_stands S.2.2.1 a1 a2 a3 a4 = 0 ∨ kd_X7_stands S.2.2.1 a1 a2 a3 a4 = 1 := by
  unfold kd_X7_stands
  try dsimp only
  repeat' split
  all_goals first | exact Or.inl rfl | exact Or.inr rfl
theorem qL_stands_h0 : Cond.classLink RL 28 "java/lang/IndexOutOfBoundsException" ∈ wsL_stands := (List.mem_cons_of_mem _ (List.mem_append_left _ (List.mem_append_left _ (List.mem_append_left _ (List.mem_append_left _ (List.mem_append_left _ (List.mem_of_getElem? (i := 0) rfl)))))))
set_option maxHeartbeats 4000000 in
set_option maxRecDepth 100000 in
theorem c_L_stands (l : Launch) (D : va_G) (g : Nat → Nat) (o0 x0 : Nat) (ua ub : Nat → Nat → Nat) (sz : Nat) (S : KC) (a1 : Int32) (a2 : Int32) (a3 : Int32) (a4 : Int32) (hst : l.stackTraces = false) (hln : S.1 ≤ 120) (hnx : S.2.2.2.2.2.1 < 14) (hkc : S.2.2.2.2.2.2.1 ≤ 14) (hpt : ¬ 10 < S.2.2.1.1) (hp1 : S.2.2.1.1 = nI S.2.2.1.1.toNatClampNeg) (hp2 : S.2.2.1.1.toNatClampNeg ≤ 10) : kMw l D g yL_stands wsL_stands 40 1 6 [.ref x0, .int a1, .int a2, .int a3, .int a4, .ref o0] (wK g o0 x0 ua ub S) sz (kd_X7_stands S.2.2.1 a1 a2 a3 a4) (wK g o0 x0 ua ub (sL_stands a1 a2 a3 a4 S)) := by
  refine k_enterW (nm := "stands") (own := RL) (bytes := cL_stands) (maxL := 7) (ret := (some .int)) (hh := [(0, 14, 17, 28)]) (Qf := fun A => kQi D (wK g o0 x0 ua ub (sL_stands a1 a2 a3 a4 S)) A (kd_X7_stands S.2.2.1 a1 a2 a3 a4)) (by decide) rfl rfl rfl (Nat.le_of_ble_eq_true rfl) ?_
  rintro pp ee s mm below meth cc A ls args Q H locs hQ ⟨hx, hb, hr, hml, hown, hts, hlocks, hin⟩ hex hP hK hD hA hS hE hX hl
  have hl : lv_has ls 7 [(0, .ref x0), (1, .int a1), (2, .int a2), (3, .int a3), (4, .int a4), (5, .ref o0)] := hl
  subst hQ
  refine lv_aload hx hb dL_stands_0 (lv_at hl 5 rfl) ?_
  refine lv_iconst (v := 0) hx hb dL_stands_2 (by decide) ?_
  refine lv_aload_n hx hb dL_stands_3 rfl (lv_at hl 0 rfl) ?_
  refine lv_iload_n hx hb dL_stands_4 rfl (lv_at hl 1 rfl) ?_
  refine lv_iload_n hx hb dL_stands_5 rfl (lv_at hl 2 rfl) ?_
  refine lv_iload_n hx hb dL_stands_6 rfl (lv_at hl 3 rfl) ?_
  refine lv_iload hx hb dL_stands_7 (lv_at hl 4 rfl) ?_
  by_cases hk : kd_X7_stands S.2.2.1 a1 a2 a3 a4 = 0
  ·
    refine k_aiS (w2 := (wK g o0 x0 ua ub (S.1, S.2.1, S.2.2.1, S.2.2.2.1, S.2.2.2.2.1, S.2.2.2.2.2.1, S.2.2.2.2.2.2.1, S.2.2.2.2.2.2.2.1, S.2.2.2.2.2.2.2.2.1, S.2.2.2.2.2.2.2.2.2.1, S.2.2.2.2.2.2.2.2.2.2.1, S.2.2.2.2.2.2.2.2.2.2.2))) (va_runV (As := [.int a1, .int a2, .int a3, .int a4]) (rest := [.int 0, .ref o0]) ⟨hx, hb, hml, hown, hts⟩ (c_X7_stands l D g x0 (ua 0 0) (ua 1 0) (ua 2 0) (ua 3 0) (ua 4 0) (ua 5 0) (ua 6 0) (ua 1 2) (ua 1 4) (ua 1 1) (ua 1 3) (ua 1 5) H.size S.2.2.1 a1 a2 a3 a4 hk) (cwV 4 hts gL_stands_X7_stands rfl rfl rfl (by decide +kernel) (k_lvl (by omega) (by decide))) (kPV hP hD hK hS hA hE [1, 4, 5, 6, 7, 8, 9] rfl (by decide) 1 7 rfl rfl rfl) rfl rfl hl.1 rfl (lv_room (Nat.le_of_ble_eq_true rfl)) dL_stands_9 ⟨Nat.le_of_ble_eq_true rfl, Nat.le_of_ble_eq_true rfl⟩) hP hD hS hA [1, 4, 5, 6, 7, 8, 9] rfl (by decide) rfl rfl (fun H locs hP hD hS => ?_)
    refine lv_i2l (v := Int32.toInt64 (f_X7_stands S.2.2.1 a1 a2 a3 a4)) hx hb dL_stands_12 rfl ?_
    refine va_last (i := 0) (x := Int32.toInt64 (f_X7_stands S.2.2.1 a1 a2 a3 a4)) hx hb hK hP hD hS 0 4 rfl rfl (by unfold vp_in; decide) dL_stands_13 (fun H locs hP hD hS => ?_)
    refine lv_goto (tgt := 21) hx hb dL_stands_14 (by decide) ?_
    refine lv_iconst (v := 0) hx hb dL_stands_21 (by decide) ?_
    refine W.widen (k := 1) (n := 6) (Nat.le_of_ble_eq_true rfl) (Nat.le_of_ble_eq_true rfl) ?_
    have hs : sL_stands a1 a2 a3 a4 S = (S.1, S.2.1, S.2.2.1, S.2.2.2.1, S.2.2.2.2.1, S.2.2.2.2.2.1, S.2.2.2.2.2.2.1, S.2.2.2.2.2.2.2.1, S.2.2.2.2.2.2.2.2.1, S.2.2.2.2.2.2.2.2.2.1, S.2.2.2.2.2.2.2.2.2.2.1, vp_updL S.2.2.2.2.2.2.2.2.2.2.2 0 (Int32.toInt64 (f_X7_stands S.2.2.1 a1 a2 a3 a4))) := if_pos hk
    have hP : va_P D vwCl (wK g o0 x0 ua ub (S.1, S.2.1, S.2.2.1, S.2.2.2.1, S.2.2.2.2.1, S.2.2.2.2.2.1, S.2.2.2.2.2.2.1, S.2.2.2.2.2.2.2.1, S.2.2.2.2.2.2.2.2.1, S.2.2.2.2.2.2.2.2.2.1, S.2.2.2.2.2.2.2.2.2.2.1, vp_updL S.2.2.2.2.2.2.2.2.2.2.2 0 (Int32.toInt64 (f_X7_stands S.2.2.1 a1 a2 a3 a4)))) H := hP
    have hD : va_D A (wK g o0 x0 ua ub (S.1, S.2.1, S.2.2.1, S.2.2.2.1, S.2.2.2.2.1, S.2.2.2.2.2.1, S.2.2.2.2.2.2.1, S.2.2.2.2.2.2.2.1, S.2.2.2.2.2.2.2.2.1, S.2.2.2.2.2.2.2.2.2.1, S.2.2.2.2.2.2.2.2.2.2.1, vp_updL S.2.2.2.2.2.2.2.2.2.2.2 0 (Int32.toInt64 (f_X7_stands S.2.2.1 a1 a2 a3 a4)))) := hD
    rw [← hs] at hP hD
    exact k_ri hx hb hr hlocks hP hD hS dL_stands_22 hk.symm rfl
  ·
    have hC := c_X7_stands_x l D g x0 (ua 0 0) (ua 1 0) (ua 2 0) (ua 3 0) (ua 4 0) (ua 5 0) (ua 6 0) (ua 1 2) (ua 1 4) (ua 1 1) (ua 1 3) (ua 1 5) H.size S.2.2.1 a1 a2 a3 a4 hst hk
    rcases kdc_stands a1 a2 a3 a4 S with h1 | h1
    · exact absurd h1 hk
    · rw [h1, show ex_X7_stands 1 = "java/lang/IndexOutOfBoundsException" from rfl] at hC
      refine k_xc (E := "java/lang/IndexOutOfBoundsException") (mc := 1) (ms := 6) (vx_runV (As := [.int a1, .int a2, .int a3, .int a4]) (rest := [.int 0, .ref o0]) ⟨hx, hb, hml, hown, hts⟩ hC (cwV 4 hts gL_stands_X7_stands rfl rfl rfl (by decide +kernel) (k_lvl (by omega) (by decide))) (kPVx hP hD hK hS hA hE hX [1, 4, 5, 6, 7, 8, 9] rfl (by decide) 1 7 rfl rfl rfl) rfl rfl hl.1 rfl (lv_room (Nat.le_of_ble_eq_true rfl)) dL_stands_9 ⟨Nat.le_of_ble_eq_true rfl, Nat.le_of_ble_eq_true rfl⟩) hP hD hS hA [1, 4, 5, 6, 7, 8, 9] rfl (fun ce q9 H locs hP hS hc1 hc2 hc3 => ?_)
      refine k_catch1 (own := RL) (E := "java/lang/IndexOutOfBoundsException") hex hown hX (by decide) (by decide) (hts _ qL_stands_h0) (by decide +kernel) hc1 hc2 hc3 ?_
      refine lv_astore (lv' := [(6, .ref q9), (0, .ref x0), (1, .int a1), (2, .int a2), (3, .int a3), (4, .int a4), (5, .ref o0)]) hx hb dL_stands_17 hl (by decide) rfl (fun ls hl => ?_)
      refine lv_iconst (v := 1) hx hb dL_stands_19 (by decide) ?_
      refine W.widen (k := 1) (n := 6) (Nat.le_of_ble_eq_true rfl) (Nat.le_of_ble_eq_true rfl) ?_
      have hs : sL_stands a1 a2 a3 a4 S = S := if_neg hk
      rw [← hs] at hP hD
      exact k_ri hx hb hr hlocks hP hD hS dL_stands_20 h1.symm rfl
set_option maxHeartbeats 4000000 in
set_option maxRecDepth 100000 in
theorem c_7_holes (l : Launch) (D : va_G) (g : Nat → Nat) (o0 x0 : Nat) (ua ub : Nat → Nat → Nat) (sz : Nat) (S : KC) (hst : l.stackTraces = false) (hln : S.1 ≤ 120) (hnx : S.2.2.2.2.2.1 < 14) (hkc : S.2.2.2.2.2.2.1 ≤ 14) (hpt : ¬ 10 < S.2.2.1.1) (hp1 : S.2.2.1.1 = nI S.2.2.1.1.toNatClampNeg) (hp2 : S.2.2.1.1.toNatClampNeg ≤ 10) : kMi l D g yX7_holes wsX7_holes 3 0 0 [.ref x0] (wK g o0 x0 ua ub S) sz (f_X7_holes S.2.2.1) (wK g o0 x0 ua ub (sL_holes S)) := k_frameS (c_X7_holes l D g x0 (ua 0 0) (ua 1 0) (ua 2 0) (ua 3 0) (ua 4 0) (ua 5 0) (ua 6 0) (ua 1 2) (ua 1 4) (ua 1 1) (ua 1 3) (ua 1 5) sz S.2.2.1) [1, 4, 5, 6, 7, 8, 9] rfl (by decide) rfl rfl
theorem kdc_firstBad (a1 : Int32) (a2 : Int32) (a3 : Int32) (S : KC) : kd_X7_firstBad S.2.2.1 a1 a2 a3 = 0 ∨ kd_X7_firstBad S.2.2.1 a1 a2 a3 = 1 ∨ kd_X7_firstBad S.2.2.1 a1 a2 a3 = 2 := by
  unfold kd_X7_firstBad
  try dsimp only
  repeat' split
  all_goals first | exact Or.inl rfl | exact Or.inr (Or.inl rfl) | exact Or.inr (Or.inr rfl)
theorem qL_firstBad_h0 : Cond.classLink RL 28 "java/lang/IndexOutOfBoundsException" ∈ wsL_firstBad := (List.mem_cons_of_mem _ (List.mem_append_left _ (List.mem_append_left _ (List.mem_append_left _ (List.mem_append_left _ (List.mem_append_left _ (List.mem_append_left _ (List.mem_append_left _ (List.mem_of_getElem? (i := 0) rfl)))))))))
theorem qL_firstBad_h1 : Cond.classLink RL 13 "java/lang/IllegalArgumentException" ∈ wsL_firstBad := (List.mem_cons_of_mem _ (List.mem_append_left _ (List.mem_append_left _ (List.mem_append_left _ (List.mem_append_left _ (List.mem_append_left _ (List.mem_append_left _ (List.mem_append_left _ (List.mem_of_getElem? (i := 1) rfl)))))))))
set_option maxHeartbeats 4000000 in
set_option maxRecDepth 100000 in
theorem c_L_firstBad (l : Launch) (D : va_G) (g : Nat → Nat) (o0 x0 : Nat) (ua ub : Nat → Nat → Nat) (sz : Nat) (S : KC) (a1 : Int32) (a2 : Int32) (a3 : Int32) (hst : l.stackTraces = false) (hln : S.1 ≤ 120) (hnx : S.2.2.2.2.2.1 < 14) (hkc : S.2.2.2.2.2.2.1 ≤ 14) (hpt : ¬ 10 < S.2.2.1.1) (hp1 : S.2.2.1.1 = nI S.2.2.1.1.toNatClampNeg) (hp2 : S.2.2.1.1.toNatClampNeg ≤ 10) : kMw l D g yL_firstBad wsL_firstBad 40 1 6 [.ref x0, .int a1, .int a2, .int a3, .ref o0] (wK g o0 x0 ua ub S) sz (kd_X7_firstBad S.2.2.1 a1 a2 a3) (wK g o0 x0 ua ub (sL_firstBad a1 a2 a3 S)) := by
  refine k_enterW (nm := "firstBad") (own := RL) (bytes := cL_firstBad) (maxL := 6) (ret := (some .int)) (hh := [(0, 12, 15, 28), (0, 12, 19, 13)]) (Qf := fun A => kQi D (wK g o0 x0 ua ub (sL_firstBad a1 a2 a3 S)) A (kd_X7_firstBad S.2.2.1 a1 a2 a3)) (by decide) rfl rfl rfl (Nat.le_of_ble_eq_true rfl) ?_
  rintro pp ee s mm below meth cc A ls args Q H locs hQ ⟨hx, hb, hr, hml, hown, hts, hlocks, hin⟩ hex hP hK hD hA hS hE hX hl
  have hl : lv_has ls 6 [(0, .ref x0), (1, .int a1), (2, .int a2), (3, .int a3), (4, .ref o0)] := hl
  subst hQ
  refine lv_aload hx hb dL_firstBad_0 (lv_at hl 4 rfl) ?_
  refine lv_iconst (v := 0) hx hb dL_firstBad_2 (by decide) ?_
  refine lv_aload_n hx hb dL_firstBad_3 rfl (lv_at hl 0 rfl) ?_
  refine lv_iload_n hx hb dL_firstBad_4 rfl (lv_at hl 1 rfl) ?_
  refine lv_iload_n hx hb dL_firstBad_5 rfl (lv_at hl 2 rfl) ?_
  refine lv_iload_n hx hb dL_firstBad_6 rfl (lv_at hl 3 rfl) ?_
  by_cases hk : kd_X7_firstBad S.2.2.1 a1 a2 a3 = 0
  ·
    refine k_aiS (w2 := (wK g o0 x0 ua ub (S.1, S.2.1, S.2.2.1, S.2.2.2.1, (cFb a1 a2 a3.toNatClampNeg 0 S.2.2.1).2, S.2.2.2.2.2.1, S.2.2.2.2.2.2.1, S.2.2.2.2.2.2.2.1, S.2.2.2.2.2.2.2.2.1, S.2.2.2.2.2.2.2.2.2.1, S.2.2.2.2.2.2.2.2.2.2.1, S.2.2.2.2.2.2.2.2.2.2.2))) (va_runV (As := [.int a1, .int a2, .int a3]) (rest := [.int 0, .ref o0]) ⟨hx, hb, hml, hown, hts⟩ (c_X7_firstBad l D g x0 (ua 0 0) (ua 1 0) (ua 2 0) (ua 3 0) (ua 4 0) (ua 5 0) (ua 6 0) (ua 1 2) (ua 1 4) (ua 1 1) (ua 1 3) (ua 1 5) (ua 3 2) (ua 3 4) (ua 3 1) (ua 3 3) (ua 3 5) H.size S.2.2.1 S.2.2.2.2.1 a1 a2 a3 hk) (cwV 3 hts gL_firstBad_X7_firstBad rfl rfl rfl (by decide +kernel) (k_lvl (by omega) (by decide))) (kPV hP hD hK hS hA hE [1, 4, 5, 6, 7, 8, 9, 16, 17, 18, 19, 20, 21] rfl (by decide) 1 7 rfl rfl rfl) rfl rfl hl.1 rfl (lv_room (Nat.le_of_ble_eq_true rfl)) dL_firstBad_7 ⟨Nat.le_of_ble_eq_true rfl, Nat.le_of_ble_eq_true rfl⟩) hP hD hS hA [1, 4, 5, 6, 7, 8, 9, 16, 17, 18, 19, 20, 21] rfl (by decide) rfl rfl (fun H locs hP hD hS => ?_)
    refine lv_i2l (v := Int32.toInt64 ((cFb a1 a2 a3.toNatClampNeg 0 S.2.2.1).1)) hx hb dL_firstBad_10 rfl ?_
    refine va_last (i := 0) (x := Int32.toInt64 ((cFb a1 a2 a3.toNatClampNeg 0 S.2.2.1).1)) hx hb hK hP hD hS 0 4 rfl rfl (by unfold vp_in; decide) dL_firstBad_11 (fun H locs hP hD hS => ?_)
    refine lv_goto (tgt := 23) hx hb dL_firstBad_12 (by decide) ?_
    refine lv_iconst (v := 0) hx hb dL_firstBad_23 (by decide) ?_
    refine W.widen (k := 1) (n := 6) (Nat.le_of_ble_eq_true rfl) (Nat.le_of_ble_eq_true rfl) ?_
    have hs : sL_firstBad a1 a2 a3 S = (S.1, S.2.1, S.2.2.1, S.2.2.2.1, (cFb a1 a2 a3.toNatClampNeg 0 S.2.2.1).2, S.2.2.2.2.2.1, S.2.2.2.2.2.2.1, S.2.2.2.2.2.2.2.1, S.2.2.2.2.2.2.2.2.1, S.2.2.2.2.2.2.2.2.2.1, S.2.2.2.2.2.2.2.2.2.2.1, vp_updL S.2.2.2.2.2.2.2.2.2.2.2 0 (Int32.toInt64 ((cFb a1 a2 a3.toNatClampNeg 0 S.2.2.1).1))) := if_pos hk
    have hP : va_P D vwCl (wK g o0 x0 ua ub (S.1, S.2.1, S.2.2.1, S.2.2.2.1, (cFb a1 a2 a3.toNatClampNeg 0 S.2.2.1).2, S.2.2.2.2.2.1, S.2.2.2.2.2.2.1, S.2.2.2.2.2.2.2.1, S.2.2.2.2.2.2.2.2.1, S.2.2.2.2.2.2.2.2.2.1, S.2.2.2.2.2.2.2.2.2.2.1, vp_updL S.2.2.2.2.2.2.2.2.2.2.2 0 (Int32.toInt64 ((cFb a1 a2 a3.toNatClampNeg 0 S.2.2.1).1)))) H := hP
    have hD : va_D A (wK g o0 x0 ua ub (S.1, S.2.1, S.2.2.1, S.2.2.2.1, (cFb a1 a2 a3.toNatClampNeg 0 S.2.2.1).2, S.2.2.2.2.2.1, S.2.2.2.2.2.2.1, S.2.2.2.2.2.2.2.1, S.2.2.2.2.2.2.2.2.1, S.2.2.2.2.2.2.2.2.2.1, S.2.2.2.2.2.2.2.2.2.2.1, vp_updL S.2.2.2.2.2.2.2.2.2.2.2 0 (Int32.toInt64 ((cFb a1 a2 a3.toNatClampNeg 0 S.2.2.1).1)))) := hD
    rw [← hs] at hP hD
    exact k_ri hx hb hr hlocks hP hD hS dL_firstBad_24 hk.symm rfl
  ·
    have hC := c_X7_firstBad_x l D g x0 (ua 0 0) (ua 1 0) (ua 2 0) (ua 3 0) (ua 4 0) (ua 5 0) (ua 6 0) (ua 1 2) (ua 1 4) (ua 1 1) (ua 1 3) (ua 1 5) H.size S.2.2.1 a1 a2 a3 hst hk
    rcases kdc_firstBad a1 a2 a3 S with h1 | h1 | h1
    · exact absurd h1 hk
    · rw [h1, show ex_X7_firstBad 1 = "java/lang/IndexOutOfBoundsException" from rfl] at hC
      refine k_xc (E := "java/lang/IndexOutOfBoundsException") (mc := 1) (ms := 6) (vx_runV (As := [.int a1, .int a2, .int a3]) (rest := [.int 0, .ref o0]) ⟨hx, hb, hml, hown, hts⟩ hC (cwV 3 hts gL_firstBad_X7_firstBad rfl rfl rfl (by decide +kernel) (k_lvl (by omega) (by decide))) (kPVx hP hD hK hS hA hE hX [1, 4, 5, 6, 7, 8, 9] rfl (by decide) 1 7 rfl rfl rfl) rfl rfl hl.1 rfl (lv_room (Nat.le_of_ble_eq_true rfl)) dL_firstBad_7 ⟨Nat.le_of_ble_eq_true rfl, Nat.le_of_ble_eq_true rfl⟩) hP hD hS hA [1, 4, 5, 6, 7, 8, 9] rfl (fun ce q9 H locs hP hS hc1 hc2 hc3 => ?_)
      refine k_catch1 (own := RL) (E := "java/lang/IndexOutOfBoundsException") hex hown hX (by decide) (by decide) (hts _ qL_firstBad_h0) (by decide +kernel) hc1 hc2 hc3 ?_
      refine lv_astore (lv' := [(5, .ref q9), (0, .ref x0), (1, .int a1), (2, .int a2), (3, .int a3), (4, .ref o0)]) hx hb dL_firstBad_15 hl (by decide) rfl (fun ls hl => ?_)
      refine lv_iconst (v := 1) hx hb dL_firstBad_17 (by decide) ?_
      refine W.widen (k := 1) (n := 6) (Nat.le_of_ble_eq_true rfl) (Nat.le_of_ble_eq_true rfl) ?_
      have hs : sL_firstBad a1 a2 a3 S = S := if_neg hk
      rw [← hs] at hP hD
      exact k_ri hx hb hr hlocks hP hD hS dL_firstBad_18 h1.symm rfl
    · rw [h1, show ex_X7_firstBad 2 = "java/lang/IllegalArgumentException" from rfl] at hC
      refine k_xc (E := "java/lang/IllegalArgumentException") (mc := 1) (ms := 6) (vx_runV (As := [.int a1, .int a2, .int a3]) (rest := [.int 0, .ref o0]) ⟨hx, hb, hml, hown, hts⟩ hC (cwV 3 hts gL_firstBad_X7_firstBad rfl rfl rfl (by decide +kernel) (k_lvl (by omega) (by decide))) (kPVx hP hD hK hS hA hE hX [1, 4, 5, 6, 7, 8, 9] rfl (by decide) 1 7 rfl rfl rfl) rfl rfl hl.1 rfl (lv_room (Nat.le_of_ble_eq_true rfl)) dL_firstBad_7 ⟨Nat.le_of_ble_eq_true rfl, Nat.le_of_ble_eq_true rfl⟩) hP hD hS hA [1, 4, 5, 6, 7, 8, 9] rfl (fun ce q9 H locs hP hS hc1 hc2 hc3 => ?_)
      refine k_catch2 (own := RL) (E := "java/lang/IllegalArgumentException") (E1 := "java/lang/IndexOutOfBoundsException") hex hown hX (by decide) (hts _ qL_firstBad_h0) (by decide +kernel) (by decide +kernel) (by decide) (by decide) (by decide) (hts _ qL_firstBad_h1) (by decide +kernel) hc1 hc2 hc3 ?_
      refine lv_astore (lv' := [(5, .ref q9), (0, .ref x0), (1, .int a1), (2, .int a2), (3, .int a3), (4, .ref o0)]) hx hb dL_firstBad_19 hl (by decide) rfl (fun ls hl => ?_)
      refine lv_iconst (v := 2) hx hb dL_firstBad_21 (by decide) ?_
      refine W.widen (k := 1) (n := 6) (Nat.le_of_ble_eq_true rfl) (Nat.le_of_ble_eq_true rfl) ?_
      have hs : sL_firstBad a1 a2 a3 S = S := if_neg hk
      rw [← hs] at hP hD
      exact k_ri hx hb hr hlocks hP hD hS dL_firstBad_22 h1.symm rfl
theorem kdc_mostBlamed (a1 : Int32) (a2 : Int32) (a3 : Int32) (S : KC) : kd_X7_mostBlamed S.2.2.1 a1 a2 a3 = 0 ∨ kd_X7_mostBlamed S.2.2.1 a1 a2 a3 = 1 ∨ kd_X7_mostBlamed S.2.2.1 a1 a2 a3 = 2 := by
  unfold kd_X7_mostBlamed
  try dsimp only
  repeat' split
  all_goals first | exact Or.inl rfl | exact Or.inr (Or.inl rfl) | exact Or.inr (Or.inr rfl)
theorem qL_mostBlamed_h0 : Cond.classLink RL 28 "java/lang/IndexOutOfBoundsException" ∈ wsL_mostBlamed := (List.mem_cons_of_mem _ (List.mem_append_left _ (List.mem_append_left _ (List.mem_append_left _ (List.mem_append_left _ (List.mem_append_left _ (List.mem_append_left _ (List.mem_append_left _ (List.mem_of_getElem? (i := 0) rfl)))))))))
theorem qL_mostBlamed_h1 : Cond.classLink RL 13 "java/lang/IllegalArgumentException" ∈ wsL_mostBlamed := (List.mem_cons_of_mem _ (List.mem_append_left _ (List.mem_append_left _ (List.mem_append_left _ (List.mem_append_left _ (List.mem_append_left _ (List.mem_append_left _ (List.mem_append_left _ (List.mem_of_getElem? (i := 1) rfl)))))))))
set_option maxHeartbeats 4000000 in
set_option maxRecDepth 100000 in
theorem c_L_mostBlamed (l : Launch) (D : va_G) (g : Nat → Nat) (o0 x0 : Nat) (ua ub : Nat → Nat → Nat) (sz : Nat) (S : KC) (a1 : Int32) (a2 : Int32) (a3 : Int32) (hst : l.stackTraces = false) (hln : S.1 ≤ 120) (hnx : S.2.2.2.2.2.1 < 14) (hkc : S.2.2.2.2.2.2.1 ≤ 14) (hpt : ¬ 10 < S.2.2.1.1) (hp1 : S.2.2.1.1 = nI S.2.2.1.1.toNatClampNeg) (hp2 : S.2.2.1.1.toNatClampNeg ≤ 10) : kMw l D g yL_mostBlamed wsL_mostBlamed 40 1 6 [.ref x0, .int a1, .int a2, .int a3, .ref o0] (wK g o0 x0 ua ub S) sz (kd_X7_mostBlamed S.2.2.1 a1 a2 a3) (wK g o0 x0 ua ub (sL_mostBlamed a1 a2 a3 S)) := by
  refine k_enterW (nm := "mostBlamed") (own := RL) (bytes := cL_mostBlamed) (maxL := 6) (ret := (some .int)) (hh := [(0, 12, 15, 28), (0, 12, 19, 13)]) (Qf := fun A => kQi D (wK g o0 x0 ua ub (sL_mostBlamed a1 a2 a3 S)) A (kd_X7_mostBlamed S.2.2.1 a1 a2 a3)) (by decide) rfl rfl rfl (Nat.le_of_ble_eq_true rfl) ?_
  rintro pp ee s mm below meth cc A ls args Q H locs hQ ⟨hx, hb, hr, hml, hown, hts, hlocks, hin⟩ hex hP hK hD hA hS hE hX hl
  have hl : lv_has ls 6 [(0, .ref x0), (1, .int a1), (2, .int a2), (3, .int a3), (4, .ref o0)] := hl
  subst hQ
  refine lv_aload hx hb dL_mostBlamed_0 (lv_at hl 4 rfl) ?_
  refine lv_iconst (v := 0) hx hb dL_mostBlamed_2 (by decide) ?_
  refine lv_aload_n hx hb dL_mostBlamed_3 rfl (lv_at hl 0 rfl) ?_
  refine lv_iload_n hx hb dL_mostBlamed_4 rfl (lv_at hl 1 rfl) ?_
  refine lv_iload_n hx hb dL_mostBlamed_5 rfl (lv_at hl 2 rfl) ?_
  refine lv_iload_n hx hb dL_mostBlamed_6 rfl (lv_at hl 3 rfl) ?_
  by_cases hk : kd_X7_mostBlamed S.2.2.1 a1 a2 a3 = 0
  ·
    refine k_aiS (w2 := (wK g o0 x0 ua ub (S.1, S.2.1, S.2.2.1, S.2.2.2.1, (cCalls a1 a2 a3.toNatClampNeg S.2.2.1), S.2.2.2.2.2.1, S.2.2.2.2.2.2.1, S.2.2.2.2.2.2.2.1, S.2.2.2.2.2.2.2.2.1, S.2.2.2.2.2.2.2.2.2.1, S.2.2.2.2.2.2.2.2.2.2.1, S.2.2.2.2.2.2.2.2.2.2.2))) (va_runV (As := [.int a1, .int a2, .int a3]) (rest := [.int 0, .ref o0]) ⟨hx, hb, hml, hown, hts⟩ (c_X7_mostBlamed l D g x0 (ua 0 0) (ua 1 0) (ua 2 0) (ua 3 0) (ua 4 0) (ua 5 0) (ua 6 0) (ua 1 2) (ua 1 4) (ua 1 1) (ua 1 3) (ua 1 5) (ua 3 2) (ua 3 4) (ua 3 1) (ua 3 3) (ua 3 5) H.size S.2.2.1 S.2.2.2.2.1 a1 a2 a3 hp1 hp2 hk) (cwV 3 hts gL_mostBlamed_X7_mostBlamed rfl rfl rfl (by decide +kernel) (k_lvl (by omega) (by decide))) (kPV hP hD hK hS hA hE [1, 4, 5, 6, 7, 8, 9, 16, 17, 18, 19, 20, 21] rfl (by decide) 1 7 rfl rfl rfl) rfl rfl hl.1 rfl (lv_room (Nat.le_of_ble_eq_true rfl)) dL_mostBlamed_7 ⟨Nat.le_of_ble_eq_true rfl, Nat.le_of_ble_eq_true rfl⟩) hP hD hS hA [1, 4, 5, 6, 7, 8, 9, 16, 17, 18, 19, 20, 21] rfl (by decide) rfl rfl (fun H locs hP hD hS => ?_)
    refine lv_i2l (v := Int32.toInt64 ((cMb (cCalls a1 a2 a3.toNatClampNeg S.2.2.1) S.2.2.1 S.2.2.1.1.toNatClampNeg).2)) hx hb dL_mostBlamed_10 rfl ?_
    refine va_last (i := 0) (x := Int32.toInt64 ((cMb (cCalls a1 a2 a3.toNatClampNeg S.2.2.1) S.2.2.1 S.2.2.1.1.toNatClampNeg).2)) hx hb hK hP hD hS 0 4 rfl rfl (by unfold vp_in; decide) dL_mostBlamed_11 (fun H locs hP hD hS => ?_)
    refine lv_goto (tgt := 23) hx hb dL_mostBlamed_12 (by decide) ?_
    refine lv_iconst (v := 0) hx hb dL_mostBlamed_23 (by decide) ?_
    refine W.widen (k := 1) (n := 6) (Nat.le_of_ble_eq_true rfl) (Nat.le_of_ble_eq_true rfl) ?_
    have hs : sL_mostBlamed a1 a2 a3 S = (S.1, S.2.1, S.2.2.1, S.2.2.2.1, (cCalls a1 a2 a3.toNatClampNeg S.2.2.1), S.2.2.2.2.2.1, S.2.2.2.2.2.2.1, S.2.2.2.2.2.2.2.1, S.2.2.2.2.2.2.2.2.1, S.2.2.2.2.2.2.2.2.2.1, S.2.2.2.2.2.2.2.2.2.2.1, vp_updL S.2.2.2.2.2.2.2.2.2.2.2 0 (Int32.toInt64 ((cMb (cCalls a1 a2 a3.toNatClampNeg S.2.2.1) S.2.2.1 S.2.2.1.1.toNatClampNeg).2))) := if_pos hk
    have hP : va_P D vwCl (wK g o0 x0 ua ub (S.1, S.2.1, S.2.2.1, S.2.2.2.1, (cCalls a1 a2 a3.toNatClampNeg S.2.2.1), S.2.2.2.2.2.1, S.2.2.2.2.2.2.1, S.2.2.2.2.2.2.2.1, S.2.2.2.2.2.2.2.2.1, S.2.2.2.2.2.2.2.2.2.1, S.2.2.2.2.2.2.2.2.2.2.1, vp_updL S.2.2.2.2.2.2.2.2.2.2.2 0 (Int32.toInt64 ((cMb (cCalls a1 a2 a3.toNatClampNeg S.2.2.1) S.2.2.1 S.2.2.1.1.toNatClampNeg).2)))) H := hP
    have hD : va_D A (wK g o0 x0 ua ub (S.1, S.2.1, S.2.2.1, S.2.2.2.1, (cCalls a1 a2 a3.toNatClampNeg S.2.2.1), S.2.2.2.2.2.1, S.2.2.2.2.2.2.1, S.2.2.2.2.2.2.2.1, S.2.2.2.2.2.2.2.2.1, S.2.2.2.2.2.2.2.2.2.1, S.2.2.2.2.2.2.2.2.2.2.1, vp_updL S.2.2.2.2.2.2.2.2.2.2.2 0 (Int32.toInt64 ((cMb (cCalls a1 a2 a3.toNatClampNeg S.2.2.1) S.2.2.1 S.2.2.1.1.toNatClampNeg).2)))) := hD
    rw [← hs] at hP hD
    exact k_ri hx hb hr hlocks hP hD hS dL_mostBlamed_24 hk.symm rfl
  ·
    have hC := c_X7_mostBlamed_x l D g x0 (ua 0 0) (ua 1 0) (ua 2 0) (ua 3 0) (ua 4 0) (ua 5 0) (ua 6 0) (ua 1 2) (ua 1 4) (ua 1 1) (ua 1 3) (ua 1 5) H.size S.2.2.1 a1 a2 a3 hst hk
    rcases kdc_mostBlamed a1 a2 a3 S with h1 | h1 | h1
    · exact absurd h1 hk
    · rw [h1, show ex_X7_mostBlamed 1 = "java/lang/IndexOutOfBoundsException" from rfl] at hC
      refine k_xc (E := "java/lang/IndexOutOfBoundsException") (mc := 1) (ms := 6) (vx_runV (As := [.int a1, .int a2, .int a3]) (rest := [.int 0, .ref o0]) ⟨hx, hb, hml, hown, hts⟩ hC (cwV 3 hts gL_mostBlamed_X7_mostBlamed rfl rfl rfl (by decide +kernel) (k_lvl (by omega) (by decide))) (kPVx hP hD hK hS hA hE hX [1, 4, 5, 6, 7, 8, 9] rfl (by decide) 1 7 rfl rfl rfl) rfl rfl hl.1 rfl (lv_room (Nat.le_of_ble_eq_true rfl)) dL_mostBlamed_7 ⟨Nat.le_of_ble_eq_true rfl, Nat.le_of_ble_eq_true rfl⟩) hP hD hS hA [1, 4, 5, 6, 7, 8, 9] rfl (fun ce q9 H locs hP hS hc1 hc2 hc3 => ?_)
      refine k_catch1 (own := RL) (E := "java/lang/IndexOutOfBoundsException") hex hown hX (by decide) (by decide) (hts _ qL_mostBlamed_h0) (by decide +kernel) hc1 hc2 hc3 ?_
      refine lv_astore (lv' := [(5, .ref q9), (0, .ref x0), (1, .int a1), (2, .int a2), (3, .int a3), (4, .ref o0)]) hx hb dL_mostBlamed_15 hl (by decide) rfl (fun ls hl => ?_)
      refine lv_iconst (v := 1) hx hb dL_mostBlamed_17 (by decide) ?_
      refine W.widen (k := 1) (n := 6) (Nat.le_of_ble_eq_true rfl) (Nat.le_of_ble_eq_true rfl) ?_
      have hs : sL_mostBlamed a1 a2 a3 S = S := if_neg hk
      rw [← hs] at hP hD
      exact k_ri hx hb hr hlocks hP hD hS dL_mostBlamed_18 h1.symm rfl
    · rw [h1, show ex_X7_mostBlamed 2 = "java/lang/IllegalArgumentException" from rfl] at hC
      refine k_xc (E := "java/lang/IllegalArgumentException") (mc := 1) (ms := 6) (vx_runV (As := [.int a1, .int a2, .int a3]) (rest := [.int 0, .ref o0]) ⟨hx, hb, hml, hown, hts⟩ hC (cwV 3 hts gL_mostBlamed_X7_mostBlamed rfl rfl rfl (by decide +kernel) (k_lvl (by omega) (by decide))) (kPVx hP hD hK hS hA hE hX [1, 4, 5, 6, 7, 8, 9] rfl (by decide) 1 7 rfl rfl rfl) rfl rfl hl.1 rfl (lv_room (Nat.le_of_ble_eq_true rfl)) dL_mostBlamed_7 ⟨Nat.le_of_ble_eq_true rfl, Nat.le_of_ble_eq_true rfl⟩) hP hD hS hA [1, 4, 5, 6, 7, 8, 9] rfl (fun ce q9 H locs hP hS hc1 hc2 hc3 => ?_)
      refine k_catch2 (own := RL) (E := "java/lang/IllegalArgumentException") (E1 := "java/lang/IndexOutOfBoundsException") hex hown hX (by decide) (hts _ qL_mostBlamed_h0) (by decide +kernel) (by decide +kernel) (by decide) (by decide) (by decide) (hts _ qL_mostBlamed_h1) (by decide +kernel) hc1 hc2 hc3 ?_
      refine lv_astore (lv' := [(5, .ref q9), (0, .ref x0), (1, .int a1), (2, .int a2), (3, .int a3), (4, .ref o0)]) hx hb dL_mostBlamed_19 hl (by decide) rfl (fun ls hl => ?_)
      refine lv_iconst (v := 2) hx hb dL_mostBlamed_21 (by decide) ?_
      refine W.widen (k := 1) (n := 6) (Nat.le_of_ble_eq_true rfl) (Nat.le_of_ble_eq_true rfl) ?_
      have hs : sL_mostBlamed a1 a2 a3 S = S := if_neg hk
      rw [← hs] at hP hD
      exact k_ri hx hb hr hlocks hP hD hS dL_mostBlamed_22 h1.symm rfl
theorem kdc_reach (a1 : Int32) (a2 : Int32) (a3 : Int32) (S : KC) : kd_X7_reach S.2.2.1 a1 a2 = 0 ∨ kd_X7_reach S.2.2.1 a1 a2 = 1 ∨ kd_X7_reach S.2.2.1 a1 a2 = 2 := by
  unfold kd_X7_reach
  try dsimp only
  repeat' split
  all_goals first | exact Or.inl rfl | exact Or.inr (Or.inl rfl) | exact Or.inr (Or.inr rfl)
theorem qL_reach_h0 : Cond.classLink RL 28 "java/lang/IndexOutOfBoundsException" ∈ wsL_reach := (List.mem_cons_of_mem _ (List.mem_append_left _ (List.mem_append_left _ (List.mem_append_left _ (List.mem_append_left _ (List.mem_append_left _ (List.mem_append_left _ (List.mem_append_left _ (List.mem_of_getElem? (i := 0) rfl)))))))))
theorem qL_reach_h1 : Cond.classLink RL 13 "java/lang/IllegalArgumentException" ∈ wsL_reach := (List.mem_cons_of_mem _ (List.mem_append_left _ (List.mem_append_left _ (List.mem_append_left _ (List.mem_append_left _ (List.mem_append_left _ (List.mem_append_left _ (List.mem_append_left _ (List.mem_of_getElem? (i := 1) rfl)))))))))
set_option maxHeartbeats 4000000 in
set_option maxRecDepth 100000 in
theorem c_L_reach (l : Launch) (D : va_G) (g : Nat → Nat) (o0 x0 : Nat) (ua ub : Nat → Nat → Nat) (sz : Nat) (S : KC) (a1 : Int32) (a2 : Int32) (a3 : Int32) (hst : l.stackTraces = false) (hln : S.1 ≤ 120) (hnx : S.2.2.2.2.2.1 < 14) (hkc : S.2.2.2.2.2.2.1 ≤ 14) (hpt : ¬ 10 < S.2.2.1.1) (hp1 : S.2.2.1.1 = nI S.2.2.1.1.toNatClampNeg) (hp2 : S.2.2.1.1.toNatClampNeg ≤ 10) : kMw l D g yL_reach wsL_reach 40 1 6 [.ref x0, .int a1, .int a2, .int a3, .ref o0] (wK g o0 x0 ua ub S) sz (kd_X7_reach S.2.2.1 a1 a2) (wK g o0 x0 ua ub (sL_reach a1 a2 a3 S)) := by
  refine k_enterW (nm := "reach") (own := RL) (bytes := cL_reach) (maxL := 6) (ret := (some .int)) (hh := [(0, 12, 15, 28), (0, 12, 19, 13)]) (Qf := fun A => kQi D (wK g o0 x0 ua ub (sL_reach a1 a2 a3 S)) A (kd_X7_reach S.2.2.1 a1 a2)) (by decide) rfl rfl rfl (Nat.le_of_ble_eq_true rfl) ?_
  rintro pp ee s mm below meth cc A ls args Q H locs hQ ⟨hx, hb, hr, hml, hown, hts, hlocks, hin⟩ hex hP hK hD hA hS hE hX hl
  have hl : lv_has ls 6 [(0, .ref x0), (1, .int a1), (2, .int a2), (3, .int a3), (4, .ref o0)] := hl
  subst hQ
  refine lv_aload hx hb dL_reach_0 (lv_at hl 4 rfl) ?_
  refine lv_iconst (v := 0) hx hb dL_reach_2 (by decide) ?_
  refine lv_aload_n hx hb dL_reach_3 rfl (lv_at hl 0 rfl) ?_
  refine lv_iload_n hx hb dL_reach_4 rfl (lv_at hl 1 rfl) ?_
  refine lv_iload_n hx hb dL_reach_5 rfl (lv_at hl 2 rfl) ?_
  refine lv_iload_n hx hb dL_reach_6 rfl (lv_at hl 3 rfl) ?_
  by_cases hk : kd_X7_reach S.2.2.1 a1 a2 = 0
  ·
    refine k_aiS (w2 := (wK g o0 x0 ua ub (S.1, S.2.1, S.2.2.1, S.2.2.2.1, (cReach S.2.2.1 a1 a2 a3).2, S.2.2.2.2.2.1, S.2.2.2.2.2.2.1, S.2.2.2.2.2.2.2.1, S.2.2.2.2.2.2.2.2.1, S.2.2.2.2.2.2.2.2.2.1, S.2.2.2.2.2.2.2.2.2.2.1, S.2.2.2.2.2.2.2.2.2.2.2))) (va_runV (As := [.int a1, .int a2, .int a3]) (rest := [.int 0, .ref o0]) ⟨hx, hb, hml, hown, hts⟩ (c_X7_reach l D g x0 (ua 0 0) (ua 1 0) (ua 2 0) (ua 3 0) (ua 4 0) (ua 5 0) (ua 6 0) (ua 1 2) (ua 1 4) (ua 1 1) (ua 1 3) (ua 1 5) (ua 3 2) (ua 3 4) (ua 3 1) (ua 3 3) (ua 3 5) H.size S.2.2.1 S.2.2.2.2.1 a1 a2 a3 hk) (cwV 3 hts gL_reach_X7_reach rfl rfl rfl (by decide +kernel) (k_lvl (by omega) (by decide))) (kPV hP hD hK hS hA hE [1, 4, 5, 6, 7, 8, 9, 16, 17, 18, 19, 20, 21] rfl (by decide) 1 7 rfl rfl rfl) rfl rfl hl.1 rfl (lv_room (Nat.le_of_ble_eq_true rfl)) dL_reach_7 ⟨Nat.le_of_ble_eq_true rfl, Nat.le_of_ble_eq_true rfl⟩) hP hD hS hA [1, 4, 5, 6, 7, 8, 9, 16, 17, 18, 19, 20, 21] rfl (by decide) rfl rfl (fun H locs hP hD hS => ?_)
    refine lv_i2l (v := Int32.toInt64 ((cReach S.2.2.1 a1 a2 a3).1)) hx hb dL_reach_10 rfl ?_
    refine va_last (i := 0) (x := Int32.toInt64 ((cReach S.2.2.1 a1 a2 a3).1)) hx hb hK hP hD hS 0 4 rfl rfl (by unfold vp_in; decide) dL_reach_11 (fun H locs hP hD hS => ?_)
    refine lv_goto (tgt := 23) hx hb dL_reach_12 (by decide) ?_
    refine lv_iconst (v := 0) hx hb dL_reach_23 (by decide) ?_
    refine W.widen (k := 1) (n := 6) (Nat.le_of_ble_eq_true rfl) (Nat.le_of_ble_eq_true rfl) ?_
    have hs : sL_reach a1 a2 a3 S = (S.1, S.2.1, S.2.2.1, S.2.2.2.1, (cReach S.2.2.1 a1 a2 a3).2, S.2.2.2.2.2.1, S.2.2.2.2.2.2.1, S.2.2.2.2.2.2.2.1, S.2.2.2.2.2.2.2.2.1, S.2.2.2.2.2.2.2.2.2.1, S.2.2.2.2.2.2.2.2.2.2.1, vp_updL S.2.2.2.2.2.2.2.2.2.2.2 0 (Int32.toInt64 ((cReach S.2.2.1 a1 a2 a3).1))) := if_pos hk
    have hP : va_P D vwCl (wK g o0 x0 ua ub (S.1, S.2.1, S.2.2.1, S.2.2.2.1, (cReach S.2.2.1 a1 a2 a3).2, S.2.2.2.2.2.1, S.2.2.2.2.2.2.1, S.2.2.2.2.2.2.2.1, S.2.2.2.2.2.2.2.2.1, S.2.2.2.2.2.2.2.2.2.1, S.2.2.2.2.2.2.2.2.2.2.1, vp_updL S.2.2.2.2.2.2.2.2.2.2.2 0 (Int32.toInt64 ((cReach S.2.2.1 a1 a2 a3).1)))) H := hP
    have hD : va_D A (wK g o0 x0 ua ub (S.1, S.2.1, S.2.2.1, S.2.2.2.1, (cReach S.2.2.1 a1 a2 a3).2, S.2.2.2.2.2.1, S.2.2.2.2.2.2.1, S.2.2.2.2.2.2.2.1, S.2.2.2.2.2.2.2.2.1, S.2.2.2.2.2.2.2.2.2.1, S.2.2.2.2.2.2.2.2.2.2.1, vp_updL S.2.2.2.2.2.2.2.2.2.2.2 0 (Int32.toInt64 ((cReach S.2.2.1 a1 a2 a3).1)))) := hD
    rw [← hs] at hP hD
    exact k_ri hx hb hr hlocks hP hD hS dL_reach_24 hk.symm rfl
  ·
    have hC := c_X7_reach_x l D g x0 (ua 0 0) (ua 1 0) (ua 2 0) (ua 3 0) (ua 4 0) (ua 5 0) (ua 6 0) (ua 1 2) (ua 1 4) (ua 1 1) (ua 1 3) (ua 1 5) H.size S.2.2.1 a1 a2 a3 hst hk
    rcases kdc_reach a1 a2 a3 S with h1 | h1 | h1
    · exact absurd h1 hk
    · rw [h1, show ex_X7_reach 1 = "java/lang/IndexOutOfBoundsException" from rfl] at hC
      refine k_xc (E := "java/lang/IndexOutOfBoundsException") (mc := 1) (ms := 6) (vx_runV (As := [.int a1, .int a2, .int a3]) (rest := [.int 0, .ref o0]) ⟨hx, hb, hml, hown, hts⟩ hC (cwV 3 hts gL_reach_X7_reach rfl rfl rfl (by decide +kernel) (k_lvl (by omega) (by decide))) (kPVx hP hD hK hS hA hE hX [1, 4, 5, 6, 7, 8, 9] rfl (by decide) 1 7 rfl rfl rfl) rfl rfl hl.1 rfl (lv_room (Nat.le_of_ble_eq_true rfl)) dL_reach_7 ⟨Nat.le_of_ble_eq_true rfl, Nat.le_of_ble_eq_true rfl⟩) hP hD hS hA [1, 4, 5, 6, 7, 8, 9] rfl (fun ce q9 H locs hP hS hc1 hc2 hc3 => ?_)
      refine k_catch1 (own := RL) (E := "java/lang/IndexOutOfBoundsException") hex hown hX (by decide) (by decide) (hts _ qL_reach_h0) (by decide +kernel) hc1 hc2 hc3 ?_
      refine lv_astore (lv' := [(5, .ref q9), (0, .ref x0), (1, .int a1), (2, .int a2), (3, .int a3), (4, .ref o0)]) hx hb dL_reach_15 hl (by decide) rfl (fun ls hl => ?_)
      refine lv_iconst (v := 1) hx hb dL_reach_17 (by decide) ?_
      refine W.widen (k := 1) (n := 6) (Nat.le_of_ble_eq_true rfl) (Nat.le_of_ble_eq_true rfl) ?_
      have hs : sL_reach a1 a2 a3 S = S := if_neg hk
      rw [← hs] at hP hD
      exact k_ri hx hb hr hlocks hP hD hS dL_reach_18 h1.symm rfl
    · rw [h1, show ex_X7_reach 2 = "java/lang/IllegalArgumentException" from rfl] at hC
      refine k_xc (E := "java/lang/IllegalArgumentException") (mc := 1) (ms := 6) (vx_runV (As := [.int a1, .int a2, .int a3]) (rest := [.int 0, .ref o0]) ⟨hx, hb, hml, hown, hts⟩ hC (cwV 3 hts gL_reach_X7_reach rfl rfl rfl (by decide +kernel) (k_lvl (by omega) (by decide))) (kPVx hP hD hK hS hA hE hX [1, 4, 5, 6, 7, 8, 9] rfl (by decide) 1 7 rfl rfl rfl) rfl rfl hl.1 rfl (lv_room (Nat.le_of_ble_eq_true rfl)) dL_reach_7 ⟨Nat.le_of_ble_eq_true rfl, Nat.le_of_ble_eq_true rfl⟩) hP hD hS hA [1, 4, 5, 6, 7, 8, 9] rfl (fun ce q9 H locs hP hS hc1 hc2 hc3 => ?_)
      refine k_catch2 (own := RL) (E := "java/lang/IllegalArgumentException") (E1 := "java/lang/IndexOutOfBoundsException") hex hown hX (by decide) (hts _ qL_reach_h0) (by decide +kernel) (by decide +kernel) (by decide) (by decide) (by decide) (hts _ qL_reach_h1) (by decide +kernel) hc1 hc2 hc3 ?_
      refine lv_astore (lv' := [(5, .ref q9), (0, .ref x0), (1, .int a1), (2, .int a2), (3, .int a3), (4, .ref o0)]) hx hb dL_reach_19 hl (by decide) rfl (fun ls hl => ?_)
      refine lv_iconst (v := 2) hx hb dL_reach_21 (by decide) ?_
      refine W.widen (k := 1) (n := 6) (Nat.le_of_ble_eq_true rfl) (Nat.le_of_ble_eq_true rfl) ?_
      have hs : sL_reach a1 a2 a3 S = S := if_neg hk
      rw [← hs] at hP hD
      exact k_ri hx hb hr hlocks hP hD hS dL_reach_22 h1.symm rfl
theorem kdc_runScript (a1 : Int32) (a2 : Int64) (S : KC) : kd_X7_runScript a1 a2 = 0 ∨ kd_X7_runScript a1 a2 = 1 := by
  unfold kd_X7_runScript
  try dsimp only
  repeat' split
  all_goals first | exact Or.inl rfl | exact Or.inr rfl
theorem qL_runScript_h0 : Cond.classLink RL 13 "java/lang/IllegalArgumentException" ∈ wsL_runScript := (List.mem_cons_of_mem _ (List.mem_append_left _ (List.mem_append_left _ (List.mem_append_left _ (List.mem_append_left _ (List.mem_append_left _ (List.mem_append_left _ (List.mem_append_left _ (List.mem_of_getElem? (i := 0) rfl)))))))))
set_option maxHeartbeats 4000000 in
set_option maxRecDepth 100000 in
theorem c_L_runScript (l : Launch) (D : va_G) (g : Nat → Nat) (o0 x0 : Nat) (ua ub : Nat → Nat → Nat) (sz : Nat) (S : KC) (a1 : Int32) (a2 : Int64) (hst : l.stackTraces = false) (hln : S.1 ≤ 120) (hnx : S.2.2.2.2.2.1 < 14) (hkc : S.2.2.2.2.2.2.1 ≤ 14) (hpt : ¬ 10 < S.2.2.1.1) (hp1 : S.2.2.1.1 = nI S.2.2.1.1.toNatClampNeg) (hp2 : S.2.2.1.1.toNatClampNeg ≤ 10) : kMw l D g yL_runScript wsL_runScript 40 1 6 [.ref x0, .int a1, .long a2, .ref o0] (wK g o0 x0 ua ub S) sz (kd_X7_runScript a1 a2) (wK g o0 x0 ua ub (sL_runScript a1 a2 S)) := by
  refine k_enterW (nm := "runScript") (own := RL) (bytes := cL_runScript) (maxL := 6) (ret := (some .int)) (hh := [(0, 11, 14, 13)]) (Qf := fun A => kQi D (wK g o0 x0 ua ub (sL_runScript a1 a2 S)) A (kd_X7_runScript a1 a2)) (by decide) rfl rfl rfl (Nat.le_of_ble_eq_true rfl) ?_
  rintro pp ee s mm below meth cc A ls args Q H locs hQ ⟨hx, hb, hr, hml, hown, hts, hlocks, hin⟩ hex hP hK hD hA hS hE hX hl
  have hl : lv_has ls 6 [(0, .ref x0), (1, .int a1), (2, .long a2), (4, .ref o0)] := hl
  subst hQ
  refine lv_aload hx hb dL_runScript_0 (lv_at hl 3 rfl) ?_
  refine lv_iconst (v := 0) hx hb dL_runScript_2 (by decide) ?_
  refine lv_aload_n hx hb dL_runScript_3 rfl (lv_at hl 0 rfl) ?_
  refine lv_iload_n hx hb dL_runScript_4 rfl (lv_at hl 1 rfl) ?_
  refine lv_lload_n hx hb dL_runScript_5 rfl (lv_at hl 2 rfl) ?_
  by_cases hk : kd_X7_runScript a1 a2 = 0
  ·
    refine k_aiS (w2 := (wK g o0 x0 ua ub (S.1, S.2.1, S.2.2.1, ((cRun a1.toNatClampNeg a2.toNatClampNeg a1.toNatClampNeg 0 S.2.2.1 S.2.2.2.2.1).2.1), ((cRun a1.toNatClampNeg a2.toNatClampNeg a1.toNatClampNeg 0 S.2.2.1 S.2.2.2.2.1).2.2), S.2.2.2.2.2.1, S.2.2.2.2.2.2.1, S.2.2.2.2.2.2.2.1, S.2.2.2.2.2.2.2.2.1, S.2.2.2.2.2.2.2.2.2.1, S.2.2.2.2.2.2.2.2.2.2.1, S.2.2.2.2.2.2.2.2.2.2.2))) (va_runV (As := [.int a1, .long a2]) (rest := [.int 0, .ref o0]) ⟨hx, hb, hml, hown, hts⟩ (c_X7_runScript l D g x0 (ua 0 0) (ua 1 0) (ua 2 0) (ua 3 0) (ua 4 0) (ua 5 0) (ua 6 0) (ua 1 2) (ua 1 4) (ua 1 1) (ua 1 3) (ua 1 5) (ua 2 2) (ua 2 4) (ua 2 1) (ua 2 3) (ua 2 5) (ua 3 2) (ua 3 4) (ua 3 1) (ua 3 3) (ua 3 5) H.size S.2.2.1 S.2.2.2.1 S.2.2.2.2.1 a1 a2 hk) (cwV 2 hts gL_runScript_X7_runScript rfl rfl rfl (by decide +kernel) (k_lvl (by omega) (by decide))) (kPV hP hD hK hS hA hE [1, 4, 5, 6, 7, 8, 9, 10, 11, 12, 13, 14, 15, 16, 17, 18, 19, 20, 21] rfl (by decide +kernel) 1 7 rfl rfl rfl) rfl rfl hl.1 rfl (lv_room (Nat.le_of_ble_eq_true rfl)) dL_runScript_6 ⟨Nat.le_of_ble_eq_true rfl, Nat.le_of_ble_eq_true rfl⟩) hP hD hS hA [1, 4, 5, 6, 7, 8, 9, 10, 11, 12, 13, 14, 15, 16, 17, 18, 19, 20, 21] rfl (by decide +kernel) rfl (setAll_by (E := (wE g o0 x0 ua ub S)) (E2 := (wE g o0 x0 ua ub (S.1, S.2.1, S.2.2.1, ((cRun a1.toNatClampNeg a2.toNatClampNeg a1.toNatClampNeg 0 S.2.2.1 S.2.2.2.2.1).2.1), ((cRun a1.toNatClampNeg a2.toNatClampNeg a1.toNatClampNeg 0 S.2.2.1 S.2.2.2.2.1).2.2), S.2.2.2.2.2.1, S.2.2.2.2.2.2.1, S.2.2.2.2.2.2.2.1, S.2.2.2.2.2.2.2.2.1, S.2.2.2.2.2.2.2.2.2.1, S.2.2.2.2.2.2.2.2.2.2.1, S.2.2.2.2.2.2.2.2.2.2.2))) (P := (wPool g ub S.2.2.2.2.2.2.2.1)) [1, 4, 5, 6, 7, 8, 9, 10, 11, 12, 13, 14, 15, 16, 17, 18, 19, 20, 21] [0, 2, 3, 22, 23, 24, 25, 26, 27, 28, 29, 30, 31, 32, 33, 34, 35, 36, 37] 38 rfl rfl rfl (by decide) (by decide) (by decide +kernel) rfl rfl) (fun H locs hP hD hS => ?_)
    refine lv_i2l (v := Int32.toInt64 ((cRun a1.toNatClampNeg a2.toNatClampNeg a1.toNatClampNeg 0 S.2.2.1 S.2.2.2.2.1).1)) hx hb dL_runScript_9 rfl ?_
    refine va_last (i := 0) (x := Int32.toInt64 ((cRun a1.toNatClampNeg a2.toNatClampNeg a1.toNatClampNeg 0 S.2.2.1 S.2.2.2.2.1).1)) hx hb hK hP hD hS 0 4 rfl rfl (by unfold vp_in; decide) dL_runScript_10 (fun H locs hP hD hS => ?_)
    refine lv_goto (tgt := 18) hx hb dL_runScript_11 (by decide) ?_
    refine lv_iconst (v := 0) hx hb dL_runScript_18 (by decide) ?_
    refine W.widen (k := 1) (n := 6) (Nat.le_of_ble_eq_true rfl) (Nat.le_of_ble_eq_true rfl) ?_
    have hs : sL_runScript a1 a2 S = (S.1, S.2.1, S.2.2.1, ((cRun a1.toNatClampNeg a2.toNatClampNeg a1.toNatClampNeg 0 S.2.2.1 S.2.2.2.2.1).2.1), ((cRun a1.toNatClampNeg a2.toNatClampNeg a1.toNatClampNeg 0 S.2.2.1 S.2.2.2.2.1).2.2), S.2.2.2.2.2.1, S.2.2.2.2.2.2.1, S.2.2.2.2.2.2.2.1, S.2.2.2.2.2.2.2.2.1, S.2.2.2.2.2.2.2.2.2.1, S.2.2.2.2.2.2.2.2.2.2.1, vp_updL S.2.2.2.2.2.2.2.2.2.2.2 0 (Int32.toInt64 ((cRun a1.toNatClampNeg a2.toNatClampNeg a1.toNatClampNeg 0 S.2.2.1 S.2.2.2.2.1).1))) := if_pos hk
    have hP : va_P D vwCl (wK g o0 x0 ua ub (S.1, S.2.1, S.2.2.1, ((cRun a1.toNatClampNeg a2.toNatClampNeg a1.toNatClampNeg 0 S.2.2.1 S.2.2.2.2.1).2.1), ((cRun a1.toNatClampNeg a2.toNatClampNeg a1.toNatClampNeg 0 S.2.2.1 S.2.2.2.2.1).2.2), S.2.2.2.2.2.1, S.2.2.2.2.2.2.1, S.2.2.2.2.2.2.2.1, S.2.2.2.2.2.2.2.2.1, S.2.2.2.2.2.2.2.2.2.1, S.2.2.2.2.2.2.2.2.2.2.1, vp_updL S.2.2.2.2.2.2.2.2.2.2.2 0 (Int32.toInt64 ((cRun a1.toNatClampNeg a2.toNatClampNeg a1.toNatClampNeg 0 S.2.2.1 S.2.2.2.2.1).1)))) H := hP
    have hD : va_D A (wK g o0 x0 ua ub (S.1, S.2.1, S.2.2.1, ((cRun a1.toNatClampNeg a2.toNatClampNeg a1.toNatClampNeg 0 S.2.2.1 S.2.2.2.2.1).2.1), ((cRun a1.toNatClampNeg a2.toNatClampNeg a1.toNatClampNeg 0 S.2.2.1 S.2.2.2.2.1).2.2), S.2.2.2.2.2.1, S.2.2.2.2.2.2.1, S.2.2.2.2.2.2.2.1, S.2.2.2.2.2.2.2.2.1, S.2.2.2.2.2.2.2.2.2.1, S.2.2.2.2.2.2.2.2.2.2.1, vp_updL S.2.2.2.2.2.2.2.2.2.2.2 0 (Int32.toInt64 ((cRun a1.toNatClampNeg a2.toNatClampNeg a1.toNatClampNeg 0 S.2.2.1 S.2.2.2.2.1).1)))) := hD
    rw [← hs] at hP hD
    exact k_ri hx hb hr hlocks hP hD hS dL_runScript_19 hk.symm rfl
  ·
    have hC := c_X7_runScript_x l D g x0 (ua 0 0) (ua 1 0) (ua 2 0) (ua 3 0) (ua 4 0) (ua 5 0) (ua 6 0) H.size S.2.2.1 S.2.2.2.1 S.2.2.2.2.1 a1 a2 hst hk
    rcases kdc_runScript a1 a2 S with h1 | h1
    · exact absurd h1 hk
    · rw [h1, show ex_X7_runScript 1 = "java/lang/IllegalArgumentException" from rfl] at hC
      refine k_xc (E := "java/lang/IllegalArgumentException") (mc := 1) (ms := 6) (vx_runV (As := [.int a1, .long a2]) (rest := [.int 0, .ref o0]) ⟨hx, hb, hml, hown, hts⟩ hC (cwV 2 hts gL_runScript_X7_runScript rfl rfl rfl (by decide +kernel) (k_lvl (by omega) (by decide))) (kPVx hP hD hK hS hA hE hX [1] rfl (by decide) 1 7 rfl rfl rfl) rfl rfl hl.1 rfl (lv_room (Nat.le_of_ble_eq_true rfl)) dL_runScript_6 ⟨Nat.le_of_ble_eq_true rfl, Nat.le_of_ble_eq_true rfl⟩) hP hD hS hA [1] rfl (fun ce q9 H locs hP hS hc1 hc2 hc3 => ?_)
      refine k_catch1 (own := RL) (E := "java/lang/IllegalArgumentException") hex hown hX (by decide) (by decide) (hts _ qL_runScript_h0) (by decide +kernel) hc1 hc2 hc3 ?_
      refine lv_astore (lv' := [(5, .ref q9), (0, .ref x0), (1, .int a1), (2, .long a2), (4, .ref o0)]) hx hb dL_runScript_14 hl (by decide) rfl (fun ls hl => ?_)
      refine lv_iconst (v := 1) hx hb dL_runScript_16 (by decide) ?_
      refine W.widen (k := 1) (n := 6) (Nat.le_of_ble_eq_true rfl) (Nat.le_of_ble_eq_true rfl) ?_
      have hs : sL_runScript a1 a2 S = S := if_neg hk
      rw [← hs] at hP hD
      exact k_ri hx hb hr hlocks hP hD hS dL_runScript_17 h1.symm rfl
theorem kdc_simulate (a1 : Int64) (a2 : Int32) (S : KC) : kd_X7_simulate a2 = 0 ∨ kd_X7_simulate a2 = 1 := by
  unfold kd_X7_simulate
  try dsimp only
  repeat' split
  all_goals first | exact Or.inl rfl | exact Or.inr rfl
theorem qL_simulate_h0 : Cond.classLink RL 13 "java/lang/IllegalArgumentException" ∈ wsL_simulate := (List.mem_cons_of_mem _ (List.mem_append_left _ (List.mem_append_left _ (List.mem_append_left _ (List.mem_append_left _ (List.mem_append_left _ (List.mem_append_left _ (List.mem_of_getElem? (i := 0) rfl))))))))
set_option maxHeartbeats 4000000 in
set_option maxRecDepth 100000 in
theorem c_L_simulate (l : Launch) (D : va_G) (g : Nat → Nat) (o0 x0 : Nat) (ua ub : Nat → Nat → Nat) (sz : Nat) (S : KC) (a1 : Int64) (a2 : Int32) (hst : l.stackTraces = false) (hln : S.1 ≤ 120) (hnx : S.2.2.2.2.2.1 < 14) (hkc : S.2.2.2.2.2.2.1 ≤ 14) (hpt : ¬ 10 < S.2.2.1.1) (hp1 : S.2.2.1.1 = nI S.2.2.1.1.toNatClampNeg) (hp2 : S.2.2.1.1.toNatClampNeg ≤ 10) : kMw l D g yL_simulate wsL_simulate 40 1 6 [.ref x0, .long a1, .int a2, .ref o0] (wK g o0 x0 ua ub S) sz (kd_X7_simulate a2) (wK g o0 x0 ua ub (sL_simulate a1 a2 S)) := by
  refine k_enterW (nm := "simulate") (own := RL) (bytes := cL_simulate) (maxL := 6) (ret := (some .int)) (hh := [(0, 11, 14, 13)]) (Qf := fun A => kQi D (wK g o0 x0 ua ub (sL_simulate a1 a2 S)) A (kd_X7_simulate a2)) (by decide) rfl rfl rfl (Nat.le_of_ble_eq_true rfl) ?_
  rintro pp ee s mm below meth cc A ls args Q H locs hQ ⟨hx, hb, hr, hml, hown, hts, hlocks, hin⟩ hex hP hK hD hA hS hE hX hl
  have hl : lv_has ls 6 [(0, .ref x0), (1, .long a1), (3, .int a2), (4, .ref o0)] := hl
  subst hQ
  refine lv_aload hx hb dL_simulate_0 (lv_at hl 3 rfl) ?_
  refine lv_iconst (v := 0) hx hb dL_simulate_2 (by decide) ?_
  refine lv_aload_n hx hb dL_simulate_3 rfl (lv_at hl 0 rfl) ?_
  refine lv_lload_n hx hb dL_simulate_4 rfl (lv_at hl 1 rfl) ?_
  refine lv_iload_n hx hb dL_simulate_5 rfl (lv_at hl 2 rfl) ?_
  by_cases hk : kd_X7_simulate a2 = 0
  ·
    refine k_aiS (w2 := (wK g o0 x0 ua ub (S.1, S.2.1, S.2.2.1, (cSimu a1 a2 S.2.2.1 S.2.2.2.1).2, S.2.2.2.2.1, S.2.2.2.2.2.1, S.2.2.2.2.2.2.1, S.2.2.2.2.2.2.2.1, S.2.2.2.2.2.2.2.2.1, S.2.2.2.2.2.2.2.2.2.1, S.2.2.2.2.2.2.2.2.2.2.1, S.2.2.2.2.2.2.2.2.2.2.2))) (va_runV (As := [.long a1, .int a2]) (rest := [.int 0, .ref o0]) ⟨hx, hb, hml, hown, hts⟩ (c_X7_simulate l D g x0 (ua 0 0) (ua 1 0) (ua 2 0) (ua 3 0) (ua 4 0) (ua 5 0) (ua 6 0) (ua 1 2) (ua 1 4) (ua 1 1) (ua 1 3) (ua 1 5) (ua 2 2) (ua 2 4) (ua 2 1) (ua 2 3) (ua 2 5) H.size S.2.2.1 S.2.2.2.1 a1 a2 hp1 hp2 hk) (cwV 2 hts gL_simulate_X7_simulate rfl rfl rfl (by decide +kernel) (k_lvl (by omega) (by decide))) (kPV hP hD hK hS hA hE [1, 4, 5, 6, 7, 8, 9, 10, 11, 12, 13, 14, 15] rfl (by decide) 1 7 rfl rfl rfl) rfl rfl hl.1 rfl (lv_room (Nat.le_of_ble_eq_true rfl)) dL_simulate_6 ⟨Nat.le_of_ble_eq_true rfl, Nat.le_of_ble_eq_true rfl⟩) hP hD hS hA [1, 4, 5, 6, 7, 8, 9, 10, 11, 12, 13, 14, 15] rfl (by decide) rfl rfl (fun H locs hP hD hS => ?_)
    refine lv_i2l (v := Int32.toInt64 ((cSimu a1 a2 S.2.2.1 S.2.2.2.1).1)) hx hb dL_simulate_9 rfl ?_
    refine va_last (i := 0) (x := Int32.toInt64 ((cSimu a1 a2 S.2.2.1 S.2.2.2.1).1)) hx hb hK hP hD hS 0 4 rfl rfl (by unfold vp_in; decide) dL_simulate_10 (fun H locs hP hD hS => ?_)
    refine lv_goto (tgt := 18) hx hb dL_simulate_11 (by decide) ?_
    refine lv_iconst (v := 0) hx hb dL_simulate_18 (by decide) ?_
    refine W.widen (k := 1) (n := 6) (Nat.le_of_ble_eq_true rfl) (Nat.le_of_ble_eq_true rfl) ?_
    have hs : sL_simulate a1 a2 S = (S.1, S.2.1, S.2.2.1, (cSimu a1 a2 S.2.2.1 S.2.2.2.1).2, S.2.2.2.2.1, S.2.2.2.2.2.1, S.2.2.2.2.2.2.1, S.2.2.2.2.2.2.2.1, S.2.2.2.2.2.2.2.2.1, S.2.2.2.2.2.2.2.2.2.1, S.2.2.2.2.2.2.2.2.2.2.1, vp_updL S.2.2.2.2.2.2.2.2.2.2.2 0 (Int32.toInt64 ((cSimu a1 a2 S.2.2.1 S.2.2.2.1).1))) := if_pos hk
    have hP : va_P D vwCl (wK g o0 x0 ua ub (S.1, S.2.1, S.2.2.1, (cSimu a1 a2 S.2.2.1 S.2.2.2.1).2, S.2.2.2.2.1, S.2.2.2.2.2.1, S.2.2.2.2.2.2.1, S.2.2.2.2.2.2.2.1, S.2.2.2.2.2.2.2.2.1, S.2.2.2.2.2.2.2.2.2.1, S.2.2.2.2.2.2.2.2.2.2.1, vp_updL S.2.2.2.2.2.2.2.2.2.2.2 0 (Int32.toInt64 ((cSimu a1 a2 S.2.2.1 S.2.2.2.1).1)))) H := hP
    have hD : va_D A (wK g o0 x0 ua ub (S.1, S.2.1, S.2.2.1, (cSimu a1 a2 S.2.2.1 S.2.2.2.1).2, S.2.2.2.2.1, S.2.2.2.2.2.1, S.2.2.2.2.2.2.1, S.2.2.2.2.2.2.2.1, S.2.2.2.2.2.2.2.2.1, S.2.2.2.2.2.2.2.2.2.1, S.2.2.2.2.2.2.2.2.2.2.1, vp_updL S.2.2.2.2.2.2.2.2.2.2.2 0 (Int32.toInt64 ((cSimu a1 a2 S.2.2.1 S.2.2.2.1).1)))) := hD
    rw [← hs] at hP hD
    exact k_ri hx hb hr hlocks hP hD hS dL_simulate_19 hk.symm rfl
  ·
    have hC := c_X7_simulate_x l D g x0 (ua 0 0) (ua 1 0) (ua 2 0) (ua 3 0) (ua 4 0) (ua 5 0) (ua 6 0) H.size S.2.2.1 S.2.2.2.1 a1 a2 hst hk
    rcases kdc_simulate a1 a2 S with h1 | h1
    · exact absurd h1 hk
    · rw [h1, show ex_X7_simulate 1 = "java/lang/IllegalArgumentException" from rfl] at hC
      refine k_xc (E := "java/lang/IllegalArgumentException") (mc := 1) (ms := 6) (vx_runV (As := [.long a1, .int a2]) (rest := [.int 0, .ref o0]) ⟨hx, hb, hml, hown, hts⟩ hC (cwV 2 hts gL_simulate_X7_simulate rfl rfl rfl (by decide +kernel) (k_lvl (by omega) (by decide))) (kPVx hP hD hK hS hA hE hX [1] rfl (by decide) 1 7 rfl rfl rfl) rfl rfl hl.1 rfl (lv_room (Nat.le_of_ble_eq_true rfl)) dL_simulate_6 ⟨Nat.le_of_ble_eq_true rfl, Nat.le_of_ble_eq_true rfl⟩) hP hD hS hA [1] rfl (fun ce q9 H locs hP hS hc1 hc2 hc3 => ?_)
      refine k_catch1 (own := RL) (E := "java/lang/IllegalArgumentException") hex hown hX (by decide) (by decide) (hts _ qL_simulate_h0) (by decide +kernel) hc1 hc2 hc3 ?_
      refine lv_astore (lv' := [(5, .ref q9), (0, .ref x0), (1, .long a1), (3, .int a2), (4, .ref o0)]) hx hb dL_simulate_14 hl (by decide) rfl (fun ls hl => ?_)
      refine lv_iconst (v := 1) hx hb dL_simulate_16 (by decide) ?_
      refine W.widen (k := 1) (n := 6) (Nat.le_of_ble_eq_true rfl) (Nat.le_of_ble_eq_true rfl) ?_
      have hs : sL_simulate a1 a2 S = S := if_neg hk
      rw [← hs] at hP hD
      exact k_ri hx hb hr hlocks hP hD hS dL_simulate_17 h1.symm rfl
theorem kdc_save (a1 : Int32) (S : KC) : kd_X7_save a1 = 0 ∨ kd_X7_save a1 = 1 := by
  unfold kd_X7_save
  try dsimp only
  repeat' split
  all_goals first | exact Or.inl rfl | exact Or.inr rfl
theorem qL_save_h0 : Cond.classLink RL 28 "java/lang/IndexOutOfBoundsException" ∈ wsL_save := (List.mem_cons_of_mem _ (List.mem_append_left _ (List.mem_append_left _ (List.mem_append_left _ (List.mem_append_left _ (List.mem_append_left _ (List.mem_append_left _ (List.mem_of_getElem? (i := 0) rfl))))))))
set_option maxHeartbeats 4000000 in
set_option maxRecDepth 100000 in
theorem c_L_save (l : Launch) (D : va_G) (g : Nat → Nat) (o0 x0 : Nat) (ua ub : Nat → Nat → Nat) (sz : Nat) (S : KC) (a1 : Int32) (hst : l.stackTraces = false) (hln : S.1 ≤ 120) (hnx : S.2.2.2.2.2.1 < 14) (hkc : S.2.2.2.2.2.2.1 ≤ 14) (hpt : ¬ 10 < S.2.2.1.1) (hp1 : S.2.2.1.1 = nI S.2.2.1.1.toNatClampNeg) (hp2 : S.2.2.1.1.toNatClampNeg ≤ 10) : kMw l D g yL_save wsL_save 40 1 6 [.ref x0, .int a1, .ref o0] (wK g o0 x0 ua ub S) sz (kd_X7_save a1) (wK g o0 x0 ua ub (sL_save a1 S)) := by
  refine k_enterW (nm := "save") (own := RL) (bytes := cL_save) (maxL := 4) (ret := (some .int)) (hh := [(0, 9, 12, 28)]) (Qf := fun A => kQi D (wK g o0 x0 ua ub (sL_save a1 S)) A (kd_X7_save a1)) (by decide) rfl rfl rfl (Nat.le_of_ble_eq_true rfl) ?_
  rintro pp ee s mm below meth cc A ls args Q H locs hQ ⟨hx, hb, hr, hml, hown, hts, hlocks, hin⟩ hex hP hK hD hA hS hE hX hl
  have hl : lv_has ls 4 [(0, .ref x0), (1, .int a1), (2, .ref o0)] := hl
  subst hQ
  refine lv_aload_n hx hb dL_save_0 rfl (lv_at hl 2 rfl) ?_
  refine lv_iconst (v := 0) hx hb dL_save_1 (by decide) ?_
  refine lv_aload_n hx hb dL_save_2 rfl (lv_at hl 0 rfl) ?_
  refine lv_iload_n hx hb dL_save_3 rfl (lv_at hl 1 rfl) ?_
  by_cases hk : kd_X7_save a1 = 0
  · rcases slot_save a1 S hk with rfl | rfl
    ·
      refine k_aiS (w2 := (wK g o0 x0 ua ub (S.1, S.2.1, S.2.2.1, S.2.2.2.1, S.2.2.2.2.1, S.2.2.2.2.2.1, S.2.2.2.2.2.2.1, S.2.2.2.2.2.2.2.1, (f_X7_save_0 S.2.2.1 S.2.2.2.2.2.2.2.2.2.2.1).2.1, S.2.2.2.2.2.2.2.2.2.1, (f_X7_save_0 S.2.2.1 S.2.2.2.2.2.2.2.2.2.2.1).2.2, S.2.2.2.2.2.2.2.2.2.2.2))) (va_runV (As := [.int 0]) (rest := [.int 0, .ref o0]) ⟨hx, hb, hml, hown, hts⟩ (c_X7_save_0 l D g x0 (ua 0 0) (ua 1 0) (ua 2 0) (ua 3 0) (ua 4 0) (ua 5 0) (ua 6 0) (ua 1 2) (ua 1 4) (ua 1 1) (ua 1 3) (ua 1 5) (ua 7 0) (ua 7 2) (ua 7 4) (ua 7 1) (ua 7 3) (ua 7 5) H.size S.2.2.1 (fun j => some (ua (7 + j) 0)) S.2.2.2.2.2.2.2.2.1 S.2.2.2.2.2.2.2.2.2.2.1 rfl) (cwV 1 hts gL_save_X7_save rfl rfl rfl (by decide +kernel) (k_lvl (by omega) (by decide))) (kPV hP hD hK hS hA hE [1, 4, 5, 6, 7, 8, 9, 24, 26, 27, 28, 29, 30, 31, 25] rfl (by decide) 1 7 rfl rfl rfl) rfl rfl hl.1 rfl (lv_room (Nat.le_of_ble_eq_true rfl)) dL_save_4 ⟨Nat.le_of_ble_eq_true rfl, Nat.le_of_ble_eq_true rfl⟩) hP hD hS hA [1, 4, 5, 6, 7, 8, 9, 24, 26, 27, 28, 29, 30, 31, 25] rfl (by decide) rfl (setAll_by (E := (wE g o0 x0 ua ub S)) (E2 := (wE g o0 x0 ua ub (S.1, S.2.1, S.2.2.1, S.2.2.2.1, S.2.2.2.2.1, S.2.2.2.2.2.1, S.2.2.2.2.2.2.1, S.2.2.2.2.2.2.2.1, (f_X7_save_0 S.2.2.1 S.2.2.2.2.2.2.2.2.2.2.1).2.1, S.2.2.2.2.2.2.2.2.2.1, (f_X7_save_0 S.2.2.1 S.2.2.2.2.2.2.2.2.2.2.1).2.2, S.2.2.2.2.2.2.2.2.2.2.2))) (P := (wPool g ub S.2.2.2.2.2.2.2.1)) [1, 4, 5, 6, 7, 8, 9, 24, 26, 27, 28, 29, 30, 31, 25] [0, 2, 3, 10, 11, 12, 13, 14, 15, 16, 17, 18, 19, 20, 21, 22, 23, 32, 33, 34, 35, 36, 37] 38 rfl rfl rfl (by decide) (by decide) (by decide +kernel) rfl rfl) (fun H locs hP hD hS => ?_)
      refine lv_i2l (v := Int32.toInt64 ((f_X7_save_0 S.2.2.1 S.2.2.2.2.2.2.2.2.2.2.1).1)) hx hb dL_save_7 rfl ?_
      refine va_last (i := 0) (x := Int32.toInt64 ((f_X7_save_0 S.2.2.1 S.2.2.2.2.2.2.2.2.2.2.1).1)) hx hb hK hP hD hS 0 4 rfl rfl (by unfold vp_in; decide) dL_save_8 (fun H locs hP hD hS => ?_)
      refine lv_goto (tgt := 15) hx hb dL_save_9 (by decide) ?_
      refine lv_iconst (v := 0) hx hb dL_save_15 (by decide) ?_
      refine W.widen (k := 1) (n := 6) (Nat.le_of_ble_eq_true rfl) (Nat.le_of_ble_eq_true rfl) ?_
      have hs : sL_save 0 S = (S.1, S.2.1, S.2.2.1, S.2.2.2.1, S.2.2.2.2.1, S.2.2.2.2.2.1, S.2.2.2.2.2.2.1, S.2.2.2.2.2.2.2.1, (f_X7_save_0 S.2.2.1 S.2.2.2.2.2.2.2.2.2.2.1).2.1, S.2.2.2.2.2.2.2.2.2.1, (f_X7_save_0 S.2.2.1 S.2.2.2.2.2.2.2.2.2.2.1).2.2, vp_updL S.2.2.2.2.2.2.2.2.2.2.2 0 (Int32.toInt64 ((f_X7_save_0 S.2.2.1 S.2.2.2.2.2.2.2.2.2.2.1).1))) := (if_pos hk).trans (if_pos rfl)
      have hP : va_P D vwCl (wK g o0 x0 ua ub (S.1, S.2.1, S.2.2.1, S.2.2.2.1, S.2.2.2.2.1, S.2.2.2.2.2.1, S.2.2.2.2.2.2.1, S.2.2.2.2.2.2.2.1, (f_X7_save_0 S.2.2.1 S.2.2.2.2.2.2.2.2.2.2.1).2.1, S.2.2.2.2.2.2.2.2.2.1, (f_X7_save_0 S.2.2.1 S.2.2.2.2.2.2.2.2.2.2.1).2.2, vp_updL S.2.2.2.2.2.2.2.2.2.2.2 0 (Int32.toInt64 ((f_X7_save_0 S.2.2.1 S.2.2.2.2.2.2.2.2.2.2.1).1)))) H := hP
      have hD : va_D A (wK g o0 x0 ua ub (S.1, S.2.1, S.2.2.1, S.2.2.2.1, S.2.2.2.2.1, S.2.2.2.2.2.1, S.2.2.2.2.2.2.1, S.2.2.2.2.2.2.2.1, (f_X7_save_0 S.2.2.1 S.2.2.2.2.2.2.2.2.2.2.1).2.1, S.2.2.2.2.2.2.2.2.2.1, (f_X7_save_0 S.2.2.1 S.2.2.2.2.2.2.2.2.2.2.1).2.2, vp_updL S.2.2.2.2.2.2.2.2.2.2.2 0 (Int32.toInt64 ((f_X7_save_0 S.2.2.1 S.2.2.2.2.2.2.2.2.2.2.1).1)))) := hD
      rw [← hs] at hP hD
      exact k_ri hx hb hr hlocks hP hD hS dL_save_16 hk.symm rfl
    ·
      refine k_aiS (w2 := (wK g o0 x0 ua ub (S.1, S.2.1, S.2.2.1, S.2.2.2.1, S.2.2.2.2.1, S.2.2.2.2.2.1, S.2.2.2.2.2.2.1, S.2.2.2.2.2.2.2.1, S.2.2.2.2.2.2.2.2.1, (f_X7_save_1 S.2.2.1 S.2.2.2.2.2.2.2.2.2.2.1).2.1, (f_X7_save_1 S.2.2.1 S.2.2.2.2.2.2.2.2.2.2.1).2.2, S.2.2.2.2.2.2.2.2.2.2.2))) (va_runV (As := [.int 1]) (rest := [.int 0, .ref o0]) ⟨hx, hb, hml, hown, hts⟩ (c_X7_save_1 l D g x0 (ua 0 0) (ua 1 0) (ua 2 0) (ua 3 0) (ua 4 0) (ua 5 0) (ua 6 0) (ua 1 2) (ua 1 4) (ua 1 1) (ua 1 3) (ua 1 5) (ua 8 0) (ua 8 2) (ua 8 4) (ua 8 1) (ua 8 3) (ua 8 5) H.size S.2.2.1 (fun j => some (ua (7 + j) 0)) S.2.2.2.2.2.2.2.2.2.1 S.2.2.2.2.2.2.2.2.2.2.1 rfl) (cwV 1 hts gL_save_X7_save rfl rfl rfl (by decide +kernel) (k_lvl (by omega) (by decide))) (kPV hP hD hK hS hA hE [1, 4, 5, 6, 7, 8, 9, 24, 32, 33, 34, 35, 36, 37, 25] rfl (by decide) 1 7 rfl rfl rfl) rfl rfl hl.1 rfl (lv_room (Nat.le_of_ble_eq_true rfl)) dL_save_4 ⟨Nat.le_of_ble_eq_true rfl, Nat.le_of_ble_eq_true rfl⟩) hP hD hS hA [1, 4, 5, 6, 7, 8, 9, 24, 32, 33, 34, 35, 36, 37, 25] rfl (by decide) rfl (setAll_by (E := (wE g o0 x0 ua ub S)) (E2 := (wE g o0 x0 ua ub (S.1, S.2.1, S.2.2.1, S.2.2.2.1, S.2.2.2.2.1, S.2.2.2.2.2.1, S.2.2.2.2.2.2.1, S.2.2.2.2.2.2.2.1, S.2.2.2.2.2.2.2.2.1, (f_X7_save_1 S.2.2.1 S.2.2.2.2.2.2.2.2.2.2.1).2.1, (f_X7_save_1 S.2.2.1 S.2.2.2.2.2.2.2.2.2.2.1).2.2, S.2.2.2.2.2.2.2.2.2.2.2))) (P := (wPool g ub S.2.2.2.2.2.2.2.1)) [1, 4, 5, 6, 7, 8, 9, 24, 32, 33, 34, 35, 36, 37, 25] [0, 2, 3, 10, 11, 12, 13, 14, 15, 16, 17, 18, 19, 20, 21, 22, 23, 26, 27, 28, 29, 30, 31] 38 rfl rfl rfl (by decide) (by decide) (by decide +kernel) rfl rfl) (fun H locs hP hD hS => ?_)
      refine lv_i2l (v := Int32.toInt64 ((f_X7_save_1 S.2.2.1 S.2.2.2.2.2.2.2.2.2.2.1).1)) hx hb dL_save_7 rfl ?_
      refine va_last (i := 0) (x := Int32.toInt64 ((f_X7_save_1 S.2.2.1 S.2.2.2.2.2.2.2.2.2.2.1).1)) hx hb hK hP hD hS 0 4 rfl rfl (by unfold vp_in; decide) dL_save_8 (fun H locs hP hD hS => ?_)
      refine lv_goto (tgt := 15) hx hb dL_save_9 (by decide) ?_
      refine lv_iconst (v := 0) hx hb dL_save_15 (by decide) ?_
      refine W.widen (k := 1) (n := 6) (Nat.le_of_ble_eq_true rfl) (Nat.le_of_ble_eq_true rfl) ?_
      have hs : sL_save 1 S = (S.1, S.2.1, S.2.2.1, S.2.2.2.1, S.2.2.2.2.1, S.2.2.2.2.2.1, S.2.2.2.2.2.2.1, S.2.2.2.2.2.2.2.1, S.2.2.2.2.2.2.2.2.1, (f_X7_save_1 S.2.2.1 S.2.2.2.2.2.2.2.2.2.2.1).2.1, (f_X7_save_1 S.2.2.1 S.2.2.2.2.2.2.2.2.2.2.1).2.2, vp_updL S.2.2.2.2.2.2.2.2.2.2.2 0 (Int32.toInt64 ((f_X7_save_1 S.2.2.1 S.2.2.2.2.2.2.2.2.2.2.1).1))) := (if_pos hk).trans (if_neg (by decide))
      have hP : va_P D vwCl (wK g o0 x0 ua ub (S.1, S.2.1, S.2.2.1, S.2.2.2.1, S.2.2.2.2.1, S.2.2.2.2.2.1, S.2.2.2.2.2.2.1, S.2.2.2.2.2.2.2.1, S.2.2.2.2.2.2.2.2.1, (f_X7_save_1 S.2.2.1 S.2.2.2.2.2.2.2.2.2.2.1).2.1, (f_X7_save_1 S.2.2.1 S.2.2.2.2.2.2.2.2.2.2.1).2.2, vp_updL S.2.2.2.2.2.2.2.2.2.2.2 0 (Int32.toInt64 ((f_X7_save_1 S.2.2.1 S.2.2.2.2.2.2.2.2.2.2.1).1)))) H := hP
      have hD : va_D A (wK g o0 x0 ua ub (S.1, S.2.1, S.2.2.1, S.2.2.2.1, S.2.2.2.2.1, S.2.2.2.2.2.1, S.2.2.2.2.2.2.1, S.2.2.2.2.2.2.2.1, S.2.2.2.2.2.2.2.2.1, (f_X7_save_1 S.2.2.1 S.2.2.2.2.2.2.2.2.2.2.1).2.1, (f_X7_save_1 S.2.2.1 S.2.2.2.2.2.2.2.2.2.2.1).2.2, vp_updL S.2.2.2.2.2.2.2.2.2.2.2 0 (Int32.toInt64 ((f_X7_save_1 S.2.2.1 S.2.2.2.2.2.2.2.2.2.2.1).1)))) := hD
      rw [← hs] at hP hD
      exact k_ri hx hb hr hlocks hP hD hS dL_save_16 hk.symm rfl
  ·
    have hC := c_X7_save_x l D g x0 (ua 0 0) (ua 1 0) (ua 2 0) (ua 3 0) (ua 4 0) (ua 5 0) (ua 6 0) H.size a1 hst hk
    rcases kdc_save a1 S with h1 | h1
    · exact absurd h1 hk
    · rw [h1, show ex_X7_save 1 = "java/lang/IndexOutOfBoundsException" from rfl] at hC
      refine k_xc (E := "java/lang/IndexOutOfBoundsException") (mc := 1) (ms := 6) (vx_runV (As := [.int a1]) (rest := [.int 0, .ref o0]) ⟨hx, hb, hml, hown, hts⟩ hC (cwV 1 hts gL_save_X7_save rfl rfl rfl (by decide +kernel) (k_lvl (by omega) (by decide))) (kPVx hP hD hK hS hA hE hX [1] rfl (by decide) 1 7 rfl rfl rfl) rfl rfl hl.1 rfl (lv_room (Nat.le_of_ble_eq_true rfl)) dL_save_4 ⟨Nat.le_of_ble_eq_true rfl, Nat.le_of_ble_eq_true rfl⟩) hP hD hS hA [1] rfl (fun ce q9 H locs hP hS hc1 hc2 hc3 => ?_)
      refine k_catch1 (own := RL) (E := "java/lang/IndexOutOfBoundsException") hex hown hX (by decide) (by decide) (hts _ qL_save_h0) (by decide +kernel) hc1 hc2 hc3 ?_
      refine lv_astore_n (lv' := [(3, .ref q9), (0, .ref x0), (1, .int a1), (2, .ref o0)]) hx hb dL_save_12 rfl hl (by decide) rfl (fun ls hl => ?_)
      refine lv_iconst (v := 1) hx hb dL_save_13 (by decide) ?_
      refine W.widen (k := 1) (n := 6) (Nat.le_of_ble_eq_true rfl) (Nat.le_of_ble_eq_true rfl) ?_
      have hs : sL_save a1 S = S := if_neg hk
      rw [← hs] at hP hD
      exact k_ri hx hb hr hlocks hP hD hS dL_save_14 h1.symm rfl
theorem kdc_restore (a1 : Int32) (S : KC) : kd_X7_restore S.2.2.2.2.2.2.2.2.2.2.1 a1 = 0 ∨ kd_X7_restore S.2.2.2.2.2.2.2.2.2.2.1 a1 = 1 ∨ kd_X7_restore S.2.2.2.2.2.2.2.2.2.2.1 a1 = 2 := by
  unfold kd_X7_restore
  try dsimp only
  repeat' split
  all_goals first | exact Or.inl rfl | exact Or.inr (Or.inl rfl) | exact Or.inr (Or.inr rfl)
theorem qL_restore_h0 : Cond.classLink RL 28 "java/lang/IndexOutOfBoundsException" ∈ wsL_restore := (List.mem_cons_of_mem _ (List.mem_append_left _ (List.mem_append_left _ (List.mem_append_left _ (List.mem_append_left _ (List.mem_append_left _ (List.mem_append_left _ (List.mem_append_left _ (List.mem_append_left _ (List.mem_of_getElem? (i := 0) rfl))))))))))
theorem qL_restore_h1 : Cond.classLink RL 15 "java/lang/IllegalStateException" ∈ wsL_restore := (List.mem_cons_of_mem _ (List.mem_append_left _ (List.mem_append_left _ (List.mem_append_left _ (List.mem_append_left _ (List.mem_append_left _ (List.mem_append_left _ (List.mem_append_left _ (List.mem_append_left _ (List.mem_of_getElem? (i := 1) rfl))))))))))
set_option maxHeartbeats 4000000 in
set_option maxRecDepth 100000 in
theorem c_L_restore (l : Launch) (D : va_G) (g : Nat → Nat) (o0 x0 : Nat) (ua ub : Nat → Nat → Nat) (sz : Nat) (S : KC) (a1 : Int32) (hst : l.stackTraces = false) (hln : S.1 ≤ 120) (hnx : S.2.2.2.2.2.1 < 14) (hkc : S.2.2.2.2.2.2.1 ≤ 14) (hpt : ¬ 10 < S.2.2.1.1) (hp1 : S.2.2.1.1 = nI S.2.2.1.1.toNatClampNeg) (hp2 : S.2.2.1.1.toNatClampNeg ≤ 10) : kMw l D g yL_restore wsL_restore 40 1 6 [.ref x0, .int a1, .ref o0] (wK g o0 x0 ua ub S) sz (kd_X7_restore S.2.2.2.2.2.2.2.2.2.2.1 a1) (wK g o0 x0 ua ub (sL_restore a1 S)) := by
  refine k_enterW (nm := "restore") (own := RL) (bytes := cL_restore) (maxL := 4) (ret := (some .int)) (hh := [(0, 9, 12, 28), (0, 9, 15, 15)]) (Qf := fun A => kQi D (wK g o0 x0 ua ub (sL_restore a1 S)) A (kd_X7_restore S.2.2.2.2.2.2.2.2.2.2.1 a1)) (by decide) rfl rfl rfl (Nat.le_of_ble_eq_true rfl) ?_
  rintro pp ee s mm below meth cc A ls args Q H locs hQ ⟨hx, hb, hr, hml, hown, hts, hlocks, hin⟩ hex hP hK hD hA hS hE hX hl
  have hl : lv_has ls 4 [(0, .ref x0), (1, .int a1), (2, .ref o0)] := hl
  subst hQ
  refine lv_aload_n hx hb dL_restore_0 rfl (lv_at hl 2 rfl) ?_
  refine lv_iconst (v := 0) hx hb dL_restore_1 (by decide) ?_
  refine lv_aload_n hx hb dL_restore_2 rfl (lv_at hl 0 rfl) ?_
  refine lv_iload_n hx hb dL_restore_3 rfl (lv_at hl 1 rfl) ?_
  by_cases hk : kd_X7_restore S.2.2.2.2.2.2.2.2.2.2.1 a1 = 0
  · rcases slot_restore a1 S hk with rfl | rfl
    ·
      have hfl : ¬ S.2.2.2.2.2.2.2.2.2.2.1 0 = 0 := full_restore hk
      refine k_aiS (w2 := (wK g o0 x0 ua ub (S.1, S.2.1, (f_X7_restore_0 S.2.2.2.2.2.2.2.2.1).2, S.2.2.2.1, S.2.2.2.2.1, S.2.2.2.2.2.1, 0, S.2.2.2.2.2.2.2.1, S.2.2.2.2.2.2.2.2.1, S.2.2.2.2.2.2.2.2.2.1, S.2.2.2.2.2.2.2.2.2.2.1, S.2.2.2.2.2.2.2.2.2.2.2))) (va_runV (As := [.int 0]) (rest := [.int 0, .ref o0]) ⟨hx, hb, hml, hown, hts⟩ (c_X7_restore_0 l D g x0 (ua 0 0) (ua 1 0) (ua 2 0) (ua 3 0) (ua 4 0) (ua 5 0) (ua 6 0) (ua 1 2) (ua 1 4) (ua 1 1) (ua 1 3) (ua 1 5) (ua 4 1) (ua 7 0) (ua 7 2) (ua 7 4) (ua 7 1) (ua 7 3) (ua 7 5) H.size S.2.2.1 S.2.2.2.2.2.1 S.2.2.2.2.2.2.1 (fun j => some (ua (7 + j) 0)) S.2.2.2.2.2.2.2.2.1 S.2.2.2.2.2.2.2.2.2.2.1 rfl hfl) (cwV 1 hts gL_restore_X7_restore rfl rfl rfl (by decide +kernel) (k_lvl (by omega) (by decide))) (kPV hP hD hK hS hA hE [1, 4, 5, 6, 7, 8, 9, 22, 24, 26, 27, 28, 29, 30, 31, 25] rfl (by decide +kernel) 1 7 rfl rfl rfl) rfl rfl hl.1 rfl (lv_room (Nat.le_of_ble_eq_true rfl)) dL_restore_4 ⟨Nat.le_of_ble_eq_true rfl, Nat.le_of_ble_eq_true rfl⟩) hP hD hS hA [1, 4, 5, 6, 7, 8, 9, 22, 24, 26, 27, 28, 29, 30, 31, 25] rfl (by decide +kernel) rfl (setAll_by (E := (wE g o0 x0 ua ub S)) (E2 := (wE g o0 x0 ua ub (S.1, S.2.1, (f_X7_restore_0 S.2.2.2.2.2.2.2.2.1).2, S.2.2.2.1, S.2.2.2.2.1, S.2.2.2.2.2.1, 0, S.2.2.2.2.2.2.2.1, S.2.2.2.2.2.2.2.2.1, S.2.2.2.2.2.2.2.2.2.1, S.2.2.2.2.2.2.2.2.2.2.1, S.2.2.2.2.2.2.2.2.2.2.2))) (P := (wPool g ub S.2.2.2.2.2.2.2.1)) [1, 4, 5, 6, 7, 8, 9, 22, 24, 26, 27, 28, 29, 30, 31, 25] [0, 2, 3, 10, 11, 12, 13, 14, 15, 16, 17, 18, 19, 20, 21, 23, 32, 33, 34, 35, 36, 37] 38 rfl rfl rfl (by decide) (by decide) (by decide +kernel) rfl rfl) (fun H locs hP hD hS => ?_)
      refine lv_i2l (v := Int32.toInt64 ((f_X7_restore_0 S.2.2.2.2.2.2.2.2.1).1)) hx hb dL_restore_7 rfl ?_
      refine va_last (i := 0) (x := Int32.toInt64 ((f_X7_restore_0 S.2.2.2.2.2.2.2.2.1).1)) hx hb hK hP hD hS 0 4 rfl rfl (by unfold vp_in; decide) dL_restore_8 (fun H locs hP hD hS => ?_)
      refine lv_goto (tgt := 18) hx hb dL_restore_9 (by decide) ?_
      refine lv_iconst (v := 0) hx hb dL_restore_18 (by decide) ?_
      refine W.widen (k := 1) (n := 6) (Nat.le_of_ble_eq_true rfl) (Nat.le_of_ble_eq_true rfl) ?_
      have hs : sL_restore 0 S = (S.1, S.2.1, (f_X7_restore_0 S.2.2.2.2.2.2.2.2.1).2, S.2.2.2.1, S.2.2.2.2.1, S.2.2.2.2.2.1, 0, S.2.2.2.2.2.2.2.1, S.2.2.2.2.2.2.2.2.1, S.2.2.2.2.2.2.2.2.2.1, S.2.2.2.2.2.2.2.2.2.2.1, vp_updL S.2.2.2.2.2.2.2.2.2.2.2 0 (Int32.toInt64 ((f_X7_restore_0 S.2.2.2.2.2.2.2.2.1).1))) := (if_pos hk).trans (if_pos rfl)
      have hP : va_P D vwCl (wK g o0 x0 ua ub (S.1, S.2.1, (f_X7_restore_0 S.2.2.2.2.2.2.2.2.1).2, S.2.2.2.1, S.2.2.2.2.1, S.2.2.2.2.2.1, 0, S.2.2.2.2.2.2.2.1, S.2.2.2.2.2.2.2.2.1, S.2.2.2.2.2.2.2.2.2.1, S.2.2.2.2.2.2.2.2.2.2.1, vp_updL S.2.2.2.2.2.2.2.2.2.2.2 0 (Int32.toInt64 ((f_X7_restore_0 S.2.2.2.2.2.2.2.2.1).1)))) H := hP
      have hD : va_D A (wK g o0 x0 ua ub (S.1, S.2.1, (f_X7_restore_0 S.2.2.2.2.2.2.2.2.1).2, S.2.2.2.1, S.2.2.2.2.1, S.2.2.2.2.2.1, 0, S.2.2.2.2.2.2.2.1, S.2.2.2.2.2.2.2.2.1, S.2.2.2.2.2.2.2.2.2.1, S.2.2.2.2.2.2.2.2.2.2.1, vp_updL S.2.2.2.2.2.2.2.2.2.2.2 0 (Int32.toInt64 ((f_X7_restore_0 S.2.2.2.2.2.2.2.2.1).1)))) := hD
      rw [← hs] at hP hD
      exact k_ri hx hb hr hlocks hP hD hS dL_restore_19 hk.symm rfl
    ·
      have hfl : ¬ S.2.2.2.2.2.2.2.2.2.2.1 1 = 0 := full_restore hk
      refine k_aiS (w2 := (wK g o0 x0 ua ub (S.1, S.2.1, (f_X7_restore_1 S.2.2.2.2.2.2.2.2.2.1).2, S.2.2.2.1, S.2.2.2.2.1, S.2.2.2.2.2.1, 0, S.2.2.2.2.2.2.2.1, S.2.2.2.2.2.2.2.2.1, S.2.2.2.2.2.2.2.2.2.1, S.2.2.2.2.2.2.2.2.2.2.1, S.2.2.2.2.2.2.2.2.2.2.2))) (va_runV (As := [.int 1]) (rest := [.int 0, .ref o0]) ⟨hx, hb, hml, hown, hts⟩ (c_X7_restore_1 l D g x0 (ua 0 0) (ua 1 0) (ua 2 0) (ua 3 0) (ua 4 0) (ua 5 0) (ua 6 0) (ua 1 2) (ua 1 4) (ua 1 1) (ua 1 3) (ua 1 5) (ua 4 1) (ua 8 0) (ua 8 2) (ua 8 4) (ua 8 1) (ua 8 3) (ua 8 5) H.size S.2.2.1 S.2.2.2.2.2.1 S.2.2.2.2.2.2.1 (fun j => some (ua (7 + j) 0)) S.2.2.2.2.2.2.2.2.2.1 S.2.2.2.2.2.2.2.2.2.2.1 rfl hfl) (cwV 1 hts gL_restore_X7_restore rfl rfl rfl (by decide +kernel) (k_lvl (by omega) (by decide))) (kPV hP hD hK hS hA hE [1, 4, 5, 6, 7, 8, 9, 22, 24, 32, 33, 34, 35, 36, 37, 25] rfl (by decide +kernel) 1 7 rfl rfl rfl) rfl rfl hl.1 rfl (lv_room (Nat.le_of_ble_eq_true rfl)) dL_restore_4 ⟨Nat.le_of_ble_eq_true rfl, Nat.le_of_ble_eq_true rfl⟩) hP hD hS hA [1, 4, 5, 6, 7, 8, 9, 22, 24, 32, 33, 34, 35, 36, 37, 25] rfl (by decide +kernel) rfl (setAll_by (E := (wE g o0 x0 ua ub S)) (E2 := (wE g o0 x0 ua ub (S.1, S.2.1, (f_X7_restore_1 S.2.2.2.2.2.2.2.2.2.1).2, S.2.2.2.1, S.2.2.2.2.1, S.2.2.2.2.2.1, 0, S.2.2.2.2.2.2.2.1, S.2.2.2.2.2.2.2.2.1, S.2.2.2.2.2.2.2.2.2.1, S.2.2.2.2.2.2.2.2.2.2.1, S.2.2.2.2.2.2.2.2.2.2.2))) (P := (wPool g ub S.2.2.2.2.2.2.2.1)) [1, 4, 5, 6, 7, 8, 9, 22, 24, 32, 33, 34, 35, 36, 37, 25] [0, 2, 3, 10, 11, 12, 13, 14, 15, 16, 17, 18, 19, 20, 21, 23, 26, 27, 28, 29, 30, 31] 38 rfl rfl rfl (by decide) (by decide) (by decide +kernel) rfl rfl) (fun H locs hP hD hS => ?_)
      refine lv_i2l (v := Int32.toInt64 ((f_X7_restore_1 S.2.2.2.2.2.2.2.2.2.1).1)) hx hb dL_restore_7 rfl ?_
      refine va_last (i := 0) (x := Int32.toInt64 ((f_X7_restore_1 S.2.2.2.2.2.2.2.2.2.1).1)) hx hb hK hP hD hS 0 4 rfl rfl (by unfold vp_in; decide) dL_restore_8 (fun H locs hP hD hS => ?_)
      refine lv_goto (tgt := 18) hx hb dL_restore_9 (by decide) ?_
      refine lv_iconst (v := 0) hx hb dL_restore_18 (by decide) ?_
      refine W.widen (k := 1) (n := 6) (Nat.le_of_ble_eq_true rfl) (Nat.le_of_ble_eq_true rfl) ?_
      have hs : sL_restore 1 S = (S.1, S.2.1, (f_X7_restore_1 S.2.2.2.2.2.2.2.2.2.1).2, S.2.2.2.1, S.2.2.2.2.1, S.2.2.2.2.2.1, 0, S.2.2.2.2.2.2.2.1, S.2.2.2.2.2.2.2.2.1, S.2.2.2.2.2.2.2.2.2.1, S.2.2.2.2.2.2.2.2.2.2.1, vp_updL S.2.2.2.2.2.2.2.2.2.2.2 0 (Int32.toInt64 ((f_X7_restore_1 S.2.2.2.2.2.2.2.2.2.1).1))) := (if_pos hk).trans (if_neg (by decide))
      have hP : va_P D vwCl (wK g o0 x0 ua ub (S.1, S.2.1, (f_X7_restore_1 S.2.2.2.2.2.2.2.2.2.1).2, S.2.2.2.1, S.2.2.2.2.1, S.2.2.2.2.2.1, 0, S.2.2.2.2.2.2.2.1, S.2.2.2.2.2.2.2.2.1, S.2.2.2.2.2.2.2.2.2.1, S.2.2.2.2.2.2.2.2.2.2.1, vp_updL S.2.2.2.2.2.2.2.2.2.2.2 0 (Int32.toInt64 ((f_X7_restore_1 S.2.2.2.2.2.2.2.2.2.1).1)))) H := hP
      have hD : va_D A (wK g o0 x0 ua ub (S.1, S.2.1, (f_X7_restore_1 S.2.2.2.2.2.2.2.2.2.1).2, S.2.2.2.1, S.2.2.2.2.1, S.2.2.2.2.2.1, 0, S.2.2.2.2.2.2.2.1, S.2.2.2.2.2.2.2.2.1, S.2.2.2.2.2.2.2.2.2.1, S.2.2.2.2.2.2.2.2.2.2.1, vp_updL S.2.2.2.2.2.2.2.2.2.2.2 0 (Int32.toInt64 ((f_X7_restore_1 S.2.2.2.2.2.2.2.2.2.1).1)))) := hD
      rw [← hs] at hP hD
      exact k_ri hx hb hr hlocks hP hD hS dL_restore_19 hk.symm rfl
  ·
    have hC := c_X7_restore_x l D g x0 (ua 0 0) (ua 1 0) (ua 2 0) (ua 3 0) (ua 4 0) (ua 5 0) (ua 6 0) H.size S.2.2.2.2.2.2.2.2.2.2.1 a1 hst hk
    rcases kdc_restore a1 S with h1 | h1 | h1
    · exact absurd h1 hk
    · rw [h1, show ex_X7_restore 1 = "java/lang/IndexOutOfBoundsException" from rfl] at hC
      refine k_xc (E := "java/lang/IndexOutOfBoundsException") (mc := 1) (ms := 6) (vx_runV (As := [.int a1]) (rest := [.int 0, .ref o0]) ⟨hx, hb, hml, hown, hts⟩ hC (cwV 1 hts gL_restore_X7_restore rfl rfl rfl (by decide +kernel) (k_lvl (by omega) (by decide))) (kPVx hP hD hK hS hA hE hX [1, 25] rfl (by decide) 1 7 rfl rfl rfl) rfl rfl hl.1 rfl (lv_room (Nat.le_of_ble_eq_true rfl)) dL_restore_4 ⟨Nat.le_of_ble_eq_true rfl, Nat.le_of_ble_eq_true rfl⟩) hP hD hS hA [1, 25] rfl (fun ce q9 H locs hP hS hc1 hc2 hc3 => ?_)
      refine k_catch1 (own := RL) (E := "java/lang/IndexOutOfBoundsException") hex hown hX (by decide) (by decide) (hts _ qL_restore_h0) (by decide +kernel) hc1 hc2 hc3 ?_
      refine lv_astore_n (lv' := [(3, .ref q9), (0, .ref x0), (1, .int a1), (2, .ref o0)]) hx hb dL_restore_12 rfl hl (by decide) rfl (fun ls hl => ?_)
      refine lv_iconst (v := 1) hx hb dL_restore_13 (by decide) ?_
      refine W.widen (k := 1) (n := 6) (Nat.le_of_ble_eq_true rfl) (Nat.le_of_ble_eq_true rfl) ?_
      have hs : sL_restore a1 S = S := if_neg hk
      rw [← hs] at hP hD
      exact k_ri hx hb hr hlocks hP hD hS dL_restore_14 h1.symm rfl
    · rw [h1, show ex_X7_restore 2 = "java/lang/IllegalStateException" from rfl] at hC
      refine k_xc (E := "java/lang/IllegalStateException") (mc := 1) (ms := 6) (vx_runV (As := [.int a1]) (rest := [.int 0, .ref o0]) ⟨hx, hb, hml, hown, hts⟩ hC (cwV 1 hts gL_restore_X7_restore rfl rfl rfl (by decide +kernel) (k_lvl (by omega) (by decide))) (kPVx hP hD hK hS hA hE hX [1, 25] rfl (by decide) 1 7 rfl rfl rfl) rfl rfl hl.1 rfl (lv_room (Nat.le_of_ble_eq_true rfl)) dL_restore_4 ⟨Nat.le_of_ble_eq_true rfl, Nat.le_of_ble_eq_true rfl⟩) hP hD hS hA [1, 25] rfl (fun ce q9 H locs hP hS hc1 hc2 hc3 => ?_)
      refine k_catch2 (own := RL) (E := "java/lang/IllegalStateException") (E1 := "java/lang/IndexOutOfBoundsException") hex hown hX (by decide) (hts _ qL_restore_h0) (by decide +kernel) (by decide +kernel) (by decide) (by decide) (by decide) (hts _ qL_restore_h1) (by decide +kernel) hc1 hc2 hc3 ?_
      refine lv_astore_n (lv' := [(3, .ref q9), (0, .ref x0), (1, .int a1), (2, .ref o0)]) hx hb dL_restore_15 rfl hl (by decide) rfl (fun ls hl => ?_)
      refine lv_iconst (v := 2) hx hb dL_restore_16 (by decide) ?_
      refine W.widen (k := 1) (n := 6) (Nat.le_of_ble_eq_true rfl) (Nat.le_of_ble_eq_true rfl) ?_
      have hs : sL_restore a1 S = S := if_neg hk
      rw [← hs] at hP hD
      exact k_ri hx hb hr hlocks hP hD hS dL_restore_17 h1.symm rfl
end
