-- THE LAW, 2: what a method of the class is for the law
noncomputable section
theorem kdc_would (a1 : Int32) (a2 : Int32) (a3 : Int32) (S : KC) : kd_X7_would S.2.2.1 a1 a2 a3 = 0 ∨ kd_X7_would S.2.2.1 a1 a2 a3 = 1 ∨ kd_X7_would S.2.2.1 a1 a2 a3 = 2 := by
  unfold kd_X7_would
  try dsimp only
  repeat' split
  all_goals first | exact Or.inl rfl | exact Or.inr (Or.inl rfl) | exact Or.inr (Or.inr rfl)
theorem qL_would_h0 : Cond.classLink RL 28 "java/lang/IndexOutOfBoundsException" ∈ wsL_would := (List.mem_cons_of_mem _ (List.mem_append_left _ (List.mem_append_left _ (List.mem_append_left _ (List.mem_append_left _ (List.mem_append_left _ (List.mem_append_left _ (List.mem_append_left _ (List.mem_of_getElem? (i := 0) rfl)))))))))
theorem qL_would_h1 : Cond.classLink RL 13 "java/lang/IllegalArgumentException" ∈ wsL_would := (List.mem_cons_of_mem _ (List.mem_append_left _ (List.mem_append_left _ (List.mem_append_left _ (List.mem_append_left _ (List.mem_append_left _ (List.mem_append_left _ (List.mem_append_left _ (List.mem_of_getElem? (i := 1) rfl)))))))))
set_option maxHeartbeats 4000000 in
set_option maxRecDepth 100000 in
theorem c_L_would (l : Launch) (D : va_G) (g : Nat → Nat) (o0 x0 : Nat) (ua ub : Nat → Nat → Nat) (sz : Nat) (S : KC) (a1 : Int32) (a2 : Int32) (a3 : Int32) (hst : l.stackTraces = false) (hln : S.1 ≤ 120) (hnx : S.2.2.2.2.2.1 < 14) (hkc : S.2.2.2.2.2.2.1 ≤ 14) (hpt : ¬ 10 < S.2.2.1.1) (hp1 : S.2.2.1.1 = nI S.2.2.1.1.toNatClampNeg) (hp2 : S.2.2.1.1.toNatClampNeg ≤ 10) : kMw l D g yL_would wsL_would 40 1 6 [.ref x0, .int a1, .int a2, .int a3, .ref o0] (wK g o0 x0 ua ub S) sz (kd_X7_would S.2.2.1 a1 a2 a3) (wK g o0 x0 ua ub (sL_would a1 a2 a3 S)) := by
  refine k_enterW (nm := "would") (own := RL) (bytes := cL_would) (maxL := 6) (ret := (some .int)) (hh := [(0, 12, 15, 28), (0, 12, 19, 13)]) (Qf := fun A => kQi D (wK g o0 x0 ua ub (sL_would a1 a2 a3 S)) A (kd_X7_would S.2.2.1 a1 a2 a3)) (by decide) rfl rfl rfl (Nat.le_of_ble_eq_true rfl) ?_
  rintro pp ee s mm below meth cc A ls args Q H locs hQ ⟨hx, hb, hr, hml, hown, hts, hlocks, hin⟩ hex hP hK hD hA hS hE hX hl
  have hl : lv_has ls 6 [(0, .ref x0), (1, .int a1), (2, .int a2), (3, .int a3), (4, .ref o0)] := hl
  subst hQ
  refine lv_aload hx hb dL_would_0 (lv_at hl 4 rfl) ?_
  refine lv_iconst (v := 0) hx hb dL_would_2 (by decide) ?_
  refine lv_aload_n hx hb dL_would_3 rfl (lv_at hl 0 rfl) ?_
  refine lv_iload_n hx hb dL_would_4 rfl (lv_at hl 1 rfl) ?_
  refine lv_iload_n hx hb dL_would_5 rfl (lv_at hl 2 rfl) ?_
  refine lv_iload_n hx hb dL_would_6 rfl (lv_at hl 3 rfl) ?_
  by_cases hk : kd_X7_would S.2.2.1 a1 a2 a3 = 0
  ·
    have hC := c_X7_would l D g x0 (ua 0 0) (ua 1 0) (ua 2 0) (ua 3 0) (ua 4 0) (ua 5 0) (ua 6 0) (ua 1 2) (ua 1 4) (ua 1 1) (ua 1 3) (ua 1 5) (ua 3 2) (ua 3 4) (ua 3 1) (ua 3 3) (ua 3 5) H.size S.2.2.1 S.2.2.2.2.1 a1 a2 a3 hk
    obtain ⟨F1, hF1⟩ : ∃ z, z = (f_X7_would S.2.2.1 a1 a2 a3) := ⟨_, rfl⟩
    rw [← hF1] at hC
    refine k_aiS (w2 := (wK g o0 x0 ua ub (S.1, S.2.1, S.2.2.1, S.2.2.2.1, F1.2, S.2.2.2.2.2.1, S.2.2.2.2.2.2.1, S.2.2.2.2.2.2.2.1, S.2.2.2.2.2.2.2.2.1, S.2.2.2.2.2.2.2.2.2.1, S.2.2.2.2.2.2.2.2.2.2.1, S.2.2.2.2.2.2.2.2.2.2.2))) (va_runV (As := [.int a1, .int a2, .int a3]) (rest := [.int 0, .ref o0]) ⟨hx, hb, hml, hown, hts⟩ hC (cwV 3 hts gL_would_X7_would rfl rfl rfl (by decide +kernel) (k_lvl (by omega) (by decide))) (kPV hP hD hK hS hA hE [1, 4, 5, 6, 7, 8, 9, 16, 17, 18, 19, 20, 21] rfl (by decide) 1 7 rfl rfl rfl) rfl rfl hl.1 rfl (lv_room (Nat.le_of_ble_eq_true rfl)) dL_would_7 ⟨Nat.le_of_ble_eq_true rfl, Nat.le_of_ble_eq_true rfl⟩) hP hD hS hA [1, 4, 5, 6, 7, 8, 9, 16, 17, 18, 19, 20, 21] rfl (by decide) rfl (setAll_by (E := (wE g o0 x0 ua ub S)) (E2 := (wE g o0 x0 ua ub (S.1, S.2.1, S.2.2.1, S.2.2.2.1, F1.2, S.2.2.2.2.2.1, S.2.2.2.2.2.2.1, S.2.2.2.2.2.2.2.1, S.2.2.2.2.2.2.2.2.1, S.2.2.2.2.2.2.2.2.2.1, S.2.2.2.2.2.2.2.2.2.2.1, S.2.2.2.2.2.2.2.2.2.2.2))) (P := (wPool g ub S.2.2.2.2.2.2.2.1)) [(o0, .inl (g 4, 1, .inr (.inl S.2.2.2.2.2.2.2.2.2.2.2))), (ua 0 0, .inr (6, [.ref (ua 0 1), .int (nI S.1)])), (ua 0 1, .inl (g 1, 120, .inl S.2.1)), ((ua 2 0), .inr (4, [.ref (ua 2 2), .ref (ua 2 4), .ref (ua 2 1), .int S.2.2.2.1.1, .int S.2.2.2.1.2.1, .int S.2.2.2.1.2.2.1, .int S.2.2.2.1.2.2.2.1, .int S.2.2.2.1.2.2.2.2.1, .int S.2.2.2.1.2.2.2.2.2.1])), ((ua 2 1), .inl (g 0, 80, .inl S.2.2.2.1.2.2.2.2.2.2.1)), ((ua 2 2), .inr (1, [.ref (ua 2 3)])), ((ua 2 3), .inl (g 0, 480, .inl S.2.2.2.1.2.2.2.2.2.2.2.1)), ((ua 2 4), .inr (0, [.ref (ua 2 5), .int S.2.2.2.1.2.2.2.2.2.2.2.2.1])), ((ua 2 5), .inl (g 0, 60, .inl S.2.2.2.1.2.2.2.2.2.2.2.2.2)), (ua 4 0, .inr (3, [.ref (ua 4 1), .int (nI S.2.2.2.2.2.1), .int (nI S.2.2.2.2.2.2.1)])), (ua 4 1, .inl (g 3, 14, .inr (.inr (.inr (.inr (fun j => some (ub j 0))))))), (ua 5 0, .inl (g 3, 2, .inr (.inr (.inr (.inr (fun j => some (ua (7 + j) 0))))))), (ua 6 0, .inl (g 2, 2, .inl S.2.2.2.2.2.2.2.2.2.2.1)), ((ua 7 0), .inr (4, [.ref (ua 7 2), .ref (ua 7 4), .ref (ua 7 1), .int S.2.2.2.2.2.2.2.2.1.1, .int S.2.2.2.2.2.2.2.2.1.2.1, .int S.2.2.2.2.2.2.2.2.1.2.2.1, .int S.2.2.2.2.2.2.2.2.1.2.2.2.1, .int S.2.2.2.2.2.2.2.2.1.2.2.2.2.1, .int S.2.2.2.2.2.2.2.2.1.2.2.2.2.2.1])), ((ua 7 1), .inl (g 0, 80, .inl S.2.2.2.2.2.2.2.2.1.2.2.2.2.2.2.1)), ((ua 7 2), .inr (1, [.ref (ua 7 3)])), ((ua 7 3), .inl (g 0, 480, .inl S.2.2.2.2.2.2.2.2.1.2.2.2.2.2.2.2.1)), ((ua 7 4), .inr (0, [.ref (ua 7 5), .int S.2.2.2.2.2.2.2.2.1.2.2.2.2.2.2.2.2.1])), ((ua 7 5), .inl (g 0, 60, .inl S.2.2.2.2.2.2.2.2.1.2.2.2.2.2.2.2.2.2)), ((ua 8 0), .inr (4, [.ref (ua 8 2), .ref (ua 8 4), .ref (ua 8 1), .int S.2.2.2.2.2.2.2.2.2.1.1, .int S.2.2.2.2.2.2.2.2.2.1.2.1, .int S.2.2.2.2.2.2.2.2.2.1.2.2.1, .int S.2.2.2.2.2.2.2.2.2.1.2.2.2.1, .int S.2.2.2.2.2.2.2.2.2.1.2.2.2.2.1, .int S.2.2.2.2.2.2.2.2.2.1.2.2.2.2.2.1])), ((ua 8 1), .inl (g 0, 80, .inl S.2.2.2.2.2.2.2.2.2.1.2.2.2.2.2.2.1)), ((ua 8 2), .inr (1, [.ref (ua 8 3)])), ((ua 8 3), .inl (g 0, 480, .inl S.2.2.2.2.2.2.2.2.2.1.2.2.2.2.2.2.2.1)), ((ua 8 4), .inr (0, [.ref (ua 8 5), .int S.2.2.2.2.2.2.2.2.2.1.2.2.2.2.2.2.2.2.1])), ((ua 8 5), .inl (g 0, 60, .inl S.2.2.2.2.2.2.2.2.2.1.2.2.2.2.2.2.2.2.2))] [1, 4, 5, 6, 7, 8, 9, 16, 17, 18, 19, 20, 21] [0, 2, 3, 10, 11, 12, 13, 14, 15, 22, 23, 24, 25, 26, 27, 28, 29, 30, 31, 32, 33, 34, 35, 36, 37] 38 rfl rfl rfl (by decide) (by decide) (by decide +kernel) rfl rfl rfl) (fun H locs hP hD hS => ?_)
    refine lv_i2l (v := Int32.toInt64 (F1.1)) hx hb dL_would_10 rfl ?_
    refine va_last (i := 0) (x := Int32.toInt64 (F1.1)) hx hb hK hP hD hS 0 4 rfl rfl (by unfold vp_in; decide) dL_would_11 (fun H locs hP hD hS => ?_)
    refine lv_goto (tgt := 23) hx hb dL_would_12 (by decide) ?_
    refine lv_iconst (v := 0) hx hb dL_would_23 (by decide) ?_
    refine W.widen (k := 1) (n := 6) (Nat.le_of_ble_eq_true rfl) (Nat.le_of_ble_eq_true rfl) ?_
    have hP : va_P D vwCl (wK g o0 x0 ua ub (S.1, S.2.1, S.2.2.1, S.2.2.2.1, F1.2, S.2.2.2.2.2.1, S.2.2.2.2.2.2.1, S.2.2.2.2.2.2.2.1, S.2.2.2.2.2.2.2.2.1, S.2.2.2.2.2.2.2.2.2.1, S.2.2.2.2.2.2.2.2.2.2.1, vp_updL S.2.2.2.2.2.2.2.2.2.2.2 0 (Int32.toInt64 (F1.1)))) H := hP
    have hD : va_D A (wK g o0 x0 ua ub (S.1, S.2.1, S.2.2.1, S.2.2.2.1, F1.2, S.2.2.2.2.2.1, S.2.2.2.2.2.2.1, S.2.2.2.2.2.2.2.1, S.2.2.2.2.2.2.2.2.1, S.2.2.2.2.2.2.2.2.2.1, S.2.2.2.2.2.2.2.2.2.2.1, vp_updL S.2.2.2.2.2.2.2.2.2.2.2 0 (Int32.toInt64 (F1.1)))) := hD
    subst hF1
    have hs : sL_would a1 a2 a3 S = (S.1, S.2.1, S.2.2.1, S.2.2.2.1, (f_X7_would S.2.2.1 a1 a2 a3).2, S.2.2.2.2.2.1, S.2.2.2.2.2.2.1, S.2.2.2.2.2.2.2.1, S.2.2.2.2.2.2.2.2.1, S.2.2.2.2.2.2.2.2.2.1, S.2.2.2.2.2.2.2.2.2.2.1, vp_updL S.2.2.2.2.2.2.2.2.2.2.2 0 (Int32.toInt64 ((f_X7_would S.2.2.1 a1 a2 a3).1))) := if_pos hk
    rw [← hs] at hP hD
    exact k_ri hx hb hr hlocks hP hD hS dL_would_24 hk.symm rfl
  ·
    have hC := c_X7_would_x l D g x0 (ua 0 0) (ua 1 0) (ua 2 0) (ua 3 0) (ua 4 0) (ua 5 0) (ua 6 0) (ua 1 2) (ua 1 4) (ua 1 1) (ua 1 3) (ua 1 5) H.size S.2.2.1 a1 a2 a3 hst hk
    rcases kdc_would a1 a2 a3 S with h1 | h1 | h1
    · exact absurd h1 hk
    · rw [h1, show ex_X7_would 1 = "java/lang/IndexOutOfBoundsException" from rfl] at hC
      refine k_xc (E := "java/lang/IndexOutOfBoundsException") (mc := 1) (ms := 6) (vx_runV (As := [.int a1, .int a2, .int a3]) (rest := [.int 0, .ref o0]) ⟨hx, hb, hml, hown, hts⟩ hC (cwV 3 hts gL_would_X7_would rfl rfl rfl (by decide +kernel) (k_lvl (by omega) (by decide))) (kPVx hP hD hK hS hA hE hX [1, 4, 5, 6, 7, 8, 9] rfl (by decide) 1 7 rfl rfl rfl) rfl rfl hl.1 rfl (lv_room (Nat.le_of_ble_eq_true rfl)) dL_would_7 ⟨Nat.le_of_ble_eq_true rfl, Nat.le_of_ble_eq_true rfl⟩) hP hD hS hA [1, 4, 5, 6, 7, 8, 9] rfl (fun ce q9 H locs hP hS hc1 hc2 hc3 => ?_)
      refine k_catch1 (own := RL) (E := "java/lang/IndexOutOfBoundsException") hex hown hX (by decide) (by decide) (hts _ qL_would_h0) (by decide +kernel) hc1 hc2 hc3 ?_
      refine lv_astore (lv' := [(5, .ref q9), (0, .ref x0), (1, .int a1), (2, .int a2), (3, .int a3), (4, .ref o0)]) hx hb dL_would_15 hl (by decide) rfl (fun ls hl => ?_)
      refine lv_iconst (v := 1) hx hb dL_would_17 (by decide) ?_
      refine W.widen (k := 1) (n := 6) (Nat.le_of_ble_eq_true rfl) (Nat.le_of_ble_eq_true rfl) ?_
      have hs : sL_would a1 a2 a3 S = S := if_neg hk
      rw [← hs] at hP hD
      exact k_ri hx hb hr hlocks hP hD hS dL_would_18 h1.symm rfl
    · rw [h1, show ex_X7_would 2 = "java/lang/IllegalArgumentException" from rfl] at hC
      refine k_xc (E := "java/lang/IllegalArgumentException") (mc := 1) (ms := 6) (vx_runV (As := [.int a1, .int a2, .int a3]) (rest := [.int 0, .ref o0]) ⟨hx, hb, hml, hown, hts⟩ hC (cwV 3 hts gL_would_X7_would rfl rfl rfl (by decide +kernel) (k_lvl (by omega) (by decide))) (kPVx hP hD hK hS hA hE hX [1, 4, 5, 6, 7, 8, 9] rfl (by decide) 1 7 rfl rfl rfl) rfl rfl hl.1 rfl (lv_room (Nat.le_of_ble_eq_true rfl)) dL_would_7 ⟨Nat.le_of_ble_eq_true rfl, Nat.le_of_ble_eq_true rfl⟩) hP hD hS hA [1, 4, 5, 6, 7, 8, 9] rfl (fun ce q9 H locs hP hS hc1 hc2 hc3 => ?_)
      refine k_catch2 (own := RL) (E := "java/lang/IllegalArgumentException") (E1 := "java/lang/IndexOutOfBoundsException") hex hown hX (by decide) (hts _ qL_would_h0) (by decide +kernel) (by decide +kernel) (by decide) (by decide) (by decide) (hts _ qL_would_h1) (by decide +kernel) hc1 hc2 hc3 ?_
      refine lv_astore (lv' := [(5, .ref q9), (0, .ref x0), (1, .int a1), (2, .int a2), (3, .int a3), (4, .ref o0)]) hx hb dL_would_19 hl (by decide) rfl (fun ls hl => ?_)
      refine lv_iconst (v := 2) hx hb dL_would_21 (by decide) ?_
      refine W.widen (k := 1) (n := 6) (Nat.le_of_ble_eq_true rfl) (Nat.le_of_ble_eq_true rfl) ?_
      have hs : sL_would a1 a2 a3 S = S := if_neg hk
      rw [← hs] at hP hD
      exact k_ri hx hb hr hlocks hP hD hS dL_would_22 h1.symm rfl
theorem kdc_stands (a1 : Int32) (a2 : Int32) (a3 : Int32) (a4 : Int32) (S : KC) : kd_X7_stands S.2.2.1 a1 a2 a3 a4 = 0 ∨ kd_X7_stands S.2.2.1 a1 a2 a3 a4 = 1 := by
  unfold kd_X7_stands
  try dsimp only
  repeat' split
  all_goals first | exact Or.inl rfl | exact Or.inr rfl
theorem qL_stands_h0 : Cond.classLink RL 28 "java/lang/IndexOutOfBoundsException" ∈ wsL_stands := (List.mem_cons_of_mem _ (List.mem_append_left _ (List.mem_append_left _ (List.mem_append_left _ (List.mem_append_left _ (List.mem_append_left _ (List.mem_of_getElem? (i := 0) rfl)))))))
set_option maxHeartbeats 4000000 in
set_option maxRecDepth 100000 in
theorem c_L_stands (l : Launch) (D : va_G) (g : Nat → Nat) (o0 x0 : Nat) (ua ub : Nat → Nat → Nat) (sz : Nat) (S : KC) (a1 : Int32) (a2 : Int32) (a3 : Int32) (a4 : Int32) (hst : l.stackTraces = false) (hln : S.1 ≤ 120) (hnx : S.2.2.2.2.2.1 < 14) (hkc : S.2.2.2.2.2.2.1 ≤ 14) (hpt : ¬ 10 < S.2.2.1.1) (hp1 : S.2.2.1.1 = nI S.2.2.1.1.toNatClampNeg) (hp2 : S.2.2.1.1.toNatClampNeg ≤ 10) : kMw l D g yL_stands wsL_stands 40 1 6 [.ref x0, .int a1, .int a2, .int a3, .int a4, .ref o0] (wK g o0 x0 ua ub S) sz (kd_X7_stands S.2.2.1 a1 a2 a3 a4) (wK g o0 x0 ua ub (sL_stands a1 a2 a3 a4 S)) := by
  refine k_enterW (nm := "stands") (own := RL) (bytes := cL_stands) (maxL := 7) (ret := (some .int)) (hh := [(0, 14, 17, 28)]) (Qf := fun A => kQi D (wK g o0 x0 ua ub (sL_stands a1 a2 a3 a4 S)) A (kd_X7_stands S.2.2.1 a1 a2 a3 a4)) (by decide) rfl rfl rfl (Nat.le_of_ble_eq_true rfl) ?_
  rintro pp ee s mm below meth cc A ls args Q H locs hQ ⟨hx, hb, hr, hml, hown, hts, hlocks, hin⟩ hex hP hK hD hA hS hE hX hl
  have hl : lv_has ls 7 [(0, .ref x0), (1, .int a1), (2, .int a2), (3, .int a3), (4, .int a4), (5, .ref o0)] := hl
  subst hQ
  refine lv_aload hx hb dL_stands_0 (lv_at hl 5 rfl) ?_
  refine lv_iconst (v := 0) hx hb dL_stands_2 (by decide) ?_
  refine lv_aload_n hx hb dL_stands_3 rfl (lv_at hl 0 rfl) ?_
  refine lv_iload_n hx hb dL_stands_4 rfl (lv_at hl 1 rfl) ?_
  refine lv_iload_n hx hb dL_stands_5 rfl (lv_at hl 2 rfl) ?_
  refine lv_iload_n hx hb dL_stands_6 rfl (lv_at hl 3 rfl) ?_
  refine lv_iload hx hb dL_stands_7 (lv_at hl 4 rfl) ?_
  by_cases hk : kd_X7_stands S.2.2.1 a1 a2 a3 a4 = 0
  ·
    have hC := c_X7_stands l D g x0 (ua 0 0) (ua 1 0) (ua 2 0) (ua 3 0) (ua 4 0) (ua 5 0) (ua 6 0) (ua 1 2) (ua 1 4) (ua 1 1) (ua 1 3) (ua 1 5) H.size S.2.2.1 a1 a2 a3 a4 hk
    refine k_aiS (w2 := (wK g o0 x0 ua ub (S.1, S.2.1, S.2.2.1, S.2.2.2.1, S.2.2.2.2.1, S.2.2.2.2.2.1, S.2.2.2.2.2.2.1, S.2.2.2.2.2.2.2.1, S.2.2.2.2.2.2.2.2.1, S.2.2.2.2.2.2.2.2.2.1, S.2.2.2.2.2.2.2.2.2.2.1, S.2.2.2.2.2.2.2.2.2.2.2))) (va_runV (As := [.int a1, .int a2, .int a3, .int a4]) (rest := [.int 0, .ref o0]) ⟨hx, hb, hml, hown, hts⟩ hC (cwV 4 hts gL_stands_X7_stands rfl rfl rfl (by decide +kernel) (k_lvl (by omega) (by decide))) (kPV hP hD hK hS hA hE [1, 4, 5, 6, 7, 8, 9] rfl (by decide) 1 7 rfl rfl rfl) rfl rfl hl.1 rfl (lv_room (Nat.le_of_ble_eq_true rfl)) dL_stands_9 ⟨Nat.le_of_ble_eq_true rfl, Nat.le_of_ble_eq_true rfl⟩) hP hD hS hA [1, 4, 5, 6, 7, 8, 9] rfl (by decide) rfl rfl (fun H locs hP hD hS => ?_)
    refine lv_i2l (v := Int32.toInt64 (f_X7_stands S.2.2.1 a1 a2 a3 a4)) hx hb dL_stands_12 rfl ?_
    refine va_last (i := 0) (x := Int32.toInt64 (f_X7_stands S.2.2.1 a1 a2 a3 a4)) hx hb hK hP hD hS 0 4 rfl rfl (by unfold vp_in; decide) dL_stands_13 (fun H locs hP hD hS => ?_)
    refine lv_goto (tgt := 21) hx hb dL_stands_14 (by decide) ?_
    refine lv_iconst (v := 0) hx hb dL_stands_21 (by decide) ?_
    refine W.widen (k := 1) (n := 6) (Nat.le_of_ble_eq_true rfl) (Nat.le_of_ble_eq_true rfl) ?_
    have hP : va_P D vwCl (wK g o0 x0 ua ub (S.1, S.2.1, S.2.2.1, S.2.2.2.1, S.2.2.2.2.1, S.2.2.2.2.2.1, S.2.2.2.2.2.2.1, S.2.2.2.2.2.2.2.1, S.2.2.2.2.2.2.2.2.1, S.2.2.2.2.2.2.2.2.2.1, S.2.2.2.2.2.2.2.2.2.2.1, vp_updL S.2.2.2.2.2.2.2.2.2.2.2 0 (Int32.toInt64 (f_X7_stands S.2.2.1 a1 a2 a3 a4)))) H := hP
    have hD : va_D A (wK g o0 x0 ua ub (S.1, S.2.1, S.2.2.1, S.2.2.2.1, S.2.2.2.2.1, S.2.2.2.2.2.1, S.2.2.2.2.2.2.1, S.2.2.2.2.2.2.2.1, S.2.2.2.2.2.2.2.2.1, S.2.2.2.2.2.2.2.2.2.1, S.2.2.2.2.2.2.2.2.2.2.1, vp_updL S.2.2.2.2.2.2.2.2.2.2.2 0 (Int32.toInt64 (f_X7_stands S.2.2.1 a1 a2 a3 a4)))) := hD
    have hs : sL_stands a1 a2 a3 a4 S = (S.1, S.2.1, S.2.2.1, S.2.2.2.1, S.2.2.2.2.1, S.2.2.2.2.2.1, S.2.2.2.2.2.2.1, S.2.2.2.2.2.2.2.1, S.2.2.2.2.2.2.2.2.1, S.2.2.2.2.2.2.2.2.2.1, S.2.2.2.2.2.2.2.2.2.2.1, vp_updL S.2.2.2.2.2.2.2.2.2.2.2 0 (Int32.toInt64 (f_X7_stands S.2.2.1 a1 a2 a3 a4))) := if_pos hk
    rw [← hs] at hP hD
    exact k_ri hx hb hr hlocks hP hD hS dL_stands_22 hk.symm rfl
  ·
    have hC := c_X7_stands_x l D g x0 (ua 0 0) (ua 1 0) (ua 2 0) (ua 3 0) (ua 4 0) (ua 5 0) (ua 6 0) (ua 1 2) (ua 1 4) (ua 1 1) (ua 1 3) (ua 1 5) H.size S.2.2.1 a1 a2 a3 a4 hst hk
    rcases kdc_stands a1 a2 a3 a4 S with h1 | h1
    · exact absurd h1 hk
    · rw [h1, show ex_X7_stands 1 = "java/lang/IndexOutOfBoundsException" from rfl] at hC
      refine k_xc (E := "java/lang/IndexOutOfBoundsException") (mc := 1) (ms := 6) (vx_runV (As := [.int a1, .int a2, .int a3, .int a4]) (rest := [.int 0, .ref o0]) ⟨hx, hb, hml, hown, hts⟩ hC (cwV 4 hts gL_stands_X7_stands rfl rfl rfl (by decide +kernel) (k_lvl (by omega) (by decide))) (kPVx hP hD hK hS hA hE hX [1, 4, 5, 6, 7, 8, 9] rfl (by decide) 1 7 rfl rfl rfl) rfl rfl hl.1 rfl (lv_room (Nat.le_of_ble_eq_true rfl)) dL_stands_9 ⟨Nat.le_of_ble_eq_true rfl, Nat.le_of_ble_eq_true rfl⟩) hP hD hS hA [1, 4, 5, 6, 7, 8, 9] rfl (fun ce q9 H locs hP hS hc1 hc2 hc3 => ?_)
      refine k_catch1 (own := RL) (E := "java/lang/IndexOutOfBoundsException") hex hown hX (by decide) (by decide) (hts _ qL_stands_h0) (by decide +kernel) hc1 hc2 hc3 ?_
      refine lv_astore (lv' := [(6, .ref q9), (0, .ref x0), (1, .int a1), (2, .int a2), (3, .int a3), (4, .int a4), (5, .ref o0)]) hx hb dL_stands_17 hl (by decide) rfl (fun ls hl => ?_)
      refine lv_iconst (v := 1) hx hb dL_stands_19 (by decide) ?_
      refine W.widen (k := 1) (n := 6) (Nat.le_of_ble_eq_true rfl) (Nat.le_of_ble_eq_true rfl) ?_
      have hs : sL_stands a1 a2 a3 a4 S = S := if_neg hk
      rw [← hs] at hP hD
      exact k_ri hx hb hr hlocks hP hD hS dL_stands_20 h1.symm rfl
set_option maxHeartbeats 4000000 in
set_option maxRecDepth 100000 in
theorem c_7_holes (l : Launch) (D : va_G) (g : Nat → Nat) (o0 x0 : Nat) (ua ub : Nat → Nat → Nat) (sz : Nat) (S : KC) (hst : l.stackTraces = false) (hln : S.1 ≤ 120) (hnx : S.2.2.2.2.2.1 < 14) (hkc : S.2.2.2.2.2.2.1 ≤ 14) (hpt : ¬ 10 < S.2.2.1.1) (hp1 : S.2.2.1.1 = nI S.2.2.1.1.toNatClampNeg) (hp2 : S.2.2.1.1.toNatClampNeg ≤ 10) : kMi l D g yX7_holes wsX7_holes 3 0 0 [.ref x0] (wK g o0 x0 ua ub S) sz (f_X7_holes S.2.2.1) (wK g o0 x0 ua ub (sL_holes S)) := k_frameS (c_X7_holes l D g x0 (ua 0 0) (ua 1 0) (ua 2 0) (ua 3 0) (ua 4 0) (ua 5 0) (ua 6 0) (ua 1 2) (ua 1 4) (ua 1 1) (ua 1 3) (ua 1 5) sz S.2.2.1) [1, 4, 5, 6, 7, 8, 9] rfl (by decide) rfl rfl
theorem kdc_firstBad (a1 : Int32) (a2 : Int32) (a3 : Int32) (S : KC) : kd_X7_firstBad S.2.2.1 a1 a2 a3 = 0 ∨ kd_X7_firstBad S.2.2.1 a1 a2 a3 = 1 ∨ kd_X7_firstBad S.2.2.1 a1 a2 a3 = 2 := by
  unfold kd_X7_firstBad
  try dsimp only
  repeat' split
  all_goals first | exact Or.inl rfl | exact Or.inr (Or.inl rfl) | exact Or.inr (Or.inr rfl)
theorem qL_firstBad_h0 : Cond.classLink RL 28 "java/lang/IndexOutOfBoundsException" ∈ wsL_firstBad := (List.mem_cons_of_mem _ (List.mem_append_left _ (List.mem_append_left _ (List.mem_append_left _ (List.mem_append_left _ (List.mem_append_left _ (List.mem_append_left _ (List.mem_append_left _ (List.mem_of_getElem? (i := 0) rfl)))))))))
theorem qL_firstBad_h1 : Cond.classLink RL 13 "java/lang/IllegalArgumentException" ∈ wsL_firstBad := (List.mem_cons_of_mem _ (List.mem_append_left _ (List.mem_append_left _ (List.mem_append_left _ (List.mem_append_left _ (List.mem_append_left _ (List.mem_append_left _ (List.mem_append_left _ (List.mem_of_getElem? (i := 1) rfl)))))))))
set_option maxHeartbeats 4000000 in
set_option maxRecDepth 100000 in
theorem c_L_firstBad (l : Launch) (D : va_G) (g : Nat → Nat) (o0 x0 : Nat) (ua ub : Nat → Nat → Nat) (sz : Nat) (S : KC) (a1 : Int32) (a2 : Int32) (a3 : Int32) (hst : l.stackTraces = false) (hln : S.1 ≤ 120) (hnx : S.2.2.2.2.2.1 < 14) (hkc : S.2.2.2.2.2.2.1 ≤ 14) (hpt : ¬ 10 < S.2.2.1.1) (hp1 : S.2.2.1.1 = nI S.2.2.1.1.toNatClampNeg) (hp2 : S.2.2.1.1.toNatClampNeg ≤ 10) : kMw l D g yL_firstBad wsL_firstBad 40 1 6 [.ref x0, .int a1, .int a2, .int a3, .ref o0] (wK g o0 x0 ua ub S) sz (kd_X7_firstBad S.2.2.1 a1 a2 a3) (wK g o0 x0 ua ub (sL_firstBad a1 a2 a3 S)) := by
  refine k_enterW (nm := "firstBad") (own := RL) (bytes := cL_firstBad) (maxL := 6) (ret := (some .int)) (hh := [(0, 12, 15, 28), (0, 12, 19, 13)]) (Qf := fun A => kQi D (wK g o0 x0 ua ub (sL_firstBad a1 a2 a3 S)) A (kd_X7_firstBad S.2.2.1 a1 a2 a3)) (by decide) rfl rfl rfl (Nat.le_of_ble_eq_true rfl) ?_
  rintro pp ee s mm below meth cc A ls args Q H locs hQ ⟨hx, hb, hr, hml, hown, hts, hlocks, hin⟩ hex hP hK hD hA hS hE hX hl
  have hl : lv_has ls 6 [(0, .ref x0), (1, .int a1), (2, .int a2), (3, .int a3), (4, .ref o0)] := hl
  subst hQ
  refine lv_aload hx hb dL_firstBad_0 (lv_at hl 4 rfl) ?_
  refine lv_iconst (v := 0) hx hb dL_firstBad_2 (by decide) ?_
  refine lv_aload_n hx hb dL_firstBad_3 rfl (lv_at hl 0 rfl) ?_
  refine lv_iload_n hx hb dL_firstBad_4 rfl (lv_at hl 1 rfl) ?_
  refine lv_iload_n hx hb dL_firstBad_5 rfl (lv_at hl 2 rfl) ?_
  refine lv_iload_n hx hb dL_firstBad_6 rfl (lv_at hl 3 rfl) ?_
  by_cases hk : kd_X7_firstBad S.2.2.1 a1 a2 a3 = 0
  ·
    have hC := c_X7_firstBad l D g x0 (ua 0 0) (ua 1 0) (ua 2 0) (ua 3 0) (ua 4 0) (ua 5 0) (ua 6 0) (ua 1 2) (ua 1 4) (ua 1 1) (ua 1 3) (ua 1 5) (ua 3 2) (ua 3 4) (ua 3 1) (ua 3 3) (ua 3 5) H.size S.2.2.1 S.2.2.2.2.1 a1 a2 a3 hk
    obtain ⟨F1, hF1⟩ : ∃ z, z = (cFb a1 a2 a3.toNatClampNeg 0 S.2.2.1) := ⟨_, rfl⟩
    rw [← hF1] at hC
    refine k_aiS (w2 := (wK g o0 x0 ua ub (S.1, S.2.1, S.2.2.1, S.2.2.2.1, F1.2, S.2.2.2.2.2.1, S.2.2.2.2.2.2.1, S.2.2.2.2.2.2.2.1, S.2.2.2.2.2.2.2.2.1, S.2.2.2.2.2.2.2.2.2.1, S.2.2.2.2.2.2.2.2.2.2.1, S.2.2.2.2.2.2.2.2.2.2.2))) (va_runV (As := [.int a1, .int a2, .int a3]) (rest := [.int 0, .ref o0]) ⟨hx, hb, hml, hown, hts⟩ hC (cwV 3 hts gL_firstBad_X7_firstBad rfl rfl rfl (by decide +kernel) (k_lvl (by omega) (by decide))) (kPV hP hD hK hS hA hE [1, 4, 5, 6, 7, 8, 9, 16, 17, 18, 19, 20, 21] rfl (by decide) 1 7 rfl rfl rfl) rfl rfl hl.1 rfl (lv_room (Nat.le_of_ble_eq_true rfl)) dL_firstBad_7 ⟨Nat.le_of_ble_eq_true rfl, Nat.le_of_ble_eq_true rfl⟩) hP hD hS hA [1, 4, 5, 6, 7, 8, 9, 16, 17, 18, 19, 20, 21] rfl (by decide) rfl (setAll_by (E := (wE g o0 x0 ua ub S)) (E2 := (wE g o0 x0 ua ub (S.1, S.2.1, S.2.2.1, S.2.2.2.1, F1.2, S.2.2.2.2.2.1, S.2.2.2.2.2.2.1, S.2.2.2.2.2.2.2.1, S.2.2.2.2.2.2.2.2.1, S.2.2.2.2.2.2.2.2.2.1, S.2.2.2.2.2.2.2.2.2.2.1, S.2.2.2.2.2.2.2.2.2.2.2))) (P := (wPool g ub S.2.2.2.2.2.2.2.1)) [(o0, .inl (g 4, 1, .inr (.inl S.2.2.2.2.2.2.2.2.2.2.2))), (ua 0 0, .inr (6, [.ref (ua 0 1), .int (nI S.1)])), (ua 0 1, .inl (g 1, 120, .inl S.2.1)), ((ua 2 0), .inr (4, [.ref (ua 2 2), .ref (ua 2 4), .ref (ua 2 1), .int S.2.2.2.1.1, .int S.2.2.2.1.2.1, .int S.2.2.2.1.2.2.1, .int S.2.2.2.1.2.2.2.1, .int S.2.2.2.1.2.2.2.2.1, .int S.2.2.2.1.2.2.2.2.2.1])), ((ua 2 1), .inl (g 0, 80, .inl S.2.2.2.1.2.2.2.2.2.2.1)), ((ua 2 2), .inr (1, [.ref (ua 2 3)])), ((ua 2 3), .inl (g 0, 480, .inl S.2.2.2.1.2.2.2.2.2.2.2.1)), ((ua 2 4), .inr (0, [.ref (ua 2 5), .int S.2.2.2.1.2.2.2.2.2.2.2.2.1])), ((ua 2 5), .inl (g 0, 60, .inl S.2.2.2.1.2.2.2.2.2.2.2.2.2)), (ua 4 0, .inr (3, [.ref (ua 4 1), .int (nI S.2.2.2.2.2.1), .int (nI S.2.2.2.2.2.2.1)])), (ua 4 1, .inl (g 3, 14, .inr (.inr (.inr (.inr (fun j => some (ub j 0))))))), (ua 5 0, .inl (g 3, 2, .inr (.inr (.inr (.inr (fun j => some (ua (7 + j) 0))))))), (ua 6 0, .inl (g 2, 2, .inl S.2.2.2.2.2.2.2.2.2.2.1)), ((ua 7 0), .inr (4, [.ref (ua 7 2), .ref (ua 7 4), .ref (ua 7 1), .int S.2.2.2.2.2.2.2.2.1.1, .int S.2.2.2.2.2.2.2.2.1.2.1, .int S.2.2.2.2.2.2.2.2.1.2.2.1, .int S.2.2.2.2.2.2.2.2.1.2.2.2.1, .int S.2.2.2.2.2.2.2.2.1.2.2.2.2.1, .int S.2.2.2.2.2.2.2.2.1.2.2.2.2.2.1])), ((ua 7 1), .inl (g 0, 80, .inl S.2.2.2.2.2.2.2.2.1.2.2.2.2.2.2.1)), ((ua 7 2), .inr (1, [.ref (ua 7 3)])), ((ua 7 3), .inl (g 0, 480, .inl S.2.2.2.2.2.2.2.2.1.2.2.2.2.2.2.2.1)), ((ua 7 4), .inr (0, [.ref (ua 7 5), .int S.2.2.2.2.2.2.2.2.1.2.2.2.2.2.2.2.2.1])), ((ua 7 5), .inl (g 0, 60, .inl S.2.2.2.2.2.2.2.2.1.2.2.2.2.2.2.2.2.2)), ((ua 8 0), .inr (4, [.ref (ua 8 2), .ref (ua 8 4), .ref (ua 8 1), .int S.2.2.2.2.2.2.2.2.2.1.1, .int S.2.2.2.2.2.2.2.2.2.1.2.1, .int S.2.2.2.2.2.2.2.2.2.1.2.2.1, .int S.2.2.2.2.2.2.2.2.2.1.2.2.2.1, .int S.2.2.2.2.2.2.2.2.2.1.2.2.2.2.1, .int S.2.2.2.2.2.2.2.2.2.1.2.2.2.2.2.1])), ((ua 8 1), .inl (g 0, 80, .inl S.2.2.2.2.2.2.2.2.2.1.2.2.2.2.2.2.1)), ((ua 8 2), .inr (1, [.ref (ua 8 3)])), ((ua 8 3), .inl (g 0, 480, .inl S.2.2.2.2.2.2.2.2.2.1.2.2.2.2.2.2.2.1)), ((ua 8 4), .inr (0, [.ref (ua 8 5), .int S.2.2.2.2.2.2.2.2.2.1.2.2.2.2.2.2.2.2.1])), ((ua 8 5), .inl (g 0, 60, .inl S.2.2.2.2.2.2.2.2.2.1.2.2.2.2.2.2.2.2.2))] [1, 4, 5, 6, 7, 8, 9, 16, 17, 18, 19, 20, 21] [0, 2, 3, 10, 11, 12, 13, 14, 15, 22, 23, 24, 25, 26, 27, 28, 29, 30, 31, 32, 33, 34, 35, 36, 37] 38 rfl rfl rfl (by decide) (by decide) (by decide +kernel) rfl rfl rfl) (fun H locs hP hD hS => ?_)
    refine lv_i2l (v := Int32.toInt64 (F1.1)) hx hb dL_firstBad_10 rfl ?_
    refine va_last (i := 0) (x := Int32.toInt64 (F1.1)) hx hb hK hP hD hS 0 4 rfl rfl (by unfold vp_in; decide) dL_firstBad_11 (fun H locs hP hD hS => ?_)
    refine lv_goto (tgt := 23) hx hb dL_firstBad_12 (by decide) ?_
    refine lv_iconst (v := 0) hx hb dL_firstBad_23 (by decide) ?_
    refine W.widen (k := 1) (n := 6) (Nat.le_of_ble_eq_true rfl) (Nat.le_of_ble_eq_true rfl) ?_
    have hP : va_P D vwCl (wK g o0 x0 ua ub (S.1, S.2.1, S.2.2.1, S.2.2.2.1, F1.2, S.2.2.2.2.2.1, S.2.2.2.2.2.2.1, S.2.2.2.2.2.2.2.1, S.2.2.2.2.2.2.2.2.1, S.2.2.2.2.2.2.2.2.2.1, S.2.2.2.2.2.2.2.2.2.2.1, vp_updL S.2.2.2.2.2.2.2.2.2.2.2 0 (Int32.toInt64 (F1.1)))) H := hP
    have hD : va_D A (wK g o0 x0 ua ub (S.1, S.2.1, S.2.2.1, S.2.2.2.1, F1.2, S.2.2.2.2.2.1, S.2.2.2.2.2.2.1, S.2.2.2.2.2.2.2.1, S.2.2.2.2.2.2.2.2.1, S.2.2.2.2.2.2.2.2.2.1, S.2.2.2.2.2.2.2.2.2.2.1, vp_updL S.2.2.2.2.2.2.2.2.2.2.2 0 (Int32.toInt64 (F1.1)))) := hD
    subst hF1
    have hs : sL_firstBad a1 a2 a3 S = (S.1, S.2.1, S.2.2.1, S.2.2.2.1, (cFb a1 a2 a3.toNatClampNeg 0 S.2.2.1).2, S.2.2.2.2.2.1, S.2.2.2.2.2.2.1, S.2.2.2.2.2.2.2.1, S.2.2.2.2.2.2.2.2.1, S.2.2.2.2.2.2.2.2.2.1, S.2.2.2.2.2.2.2.2.2.2.1, vp_updL S.2.2.2.2.2.2.2.2.2.2.2 0 (Int32.toInt64 ((cFb a1 a2 a3.toNatClampNeg 0 S.2.2.1).1))) := if_pos hk
    rw [← hs] at hP hD
    exact k_ri hx hb hr hlocks hP hD hS dL_firstBad_24 hk.symm rfl
  ·
    have hC := c_X7_firstBad_x l D g x0 (ua 0 0) (ua 1 0) (ua 2 0) (ua 3 0) (ua 4 0) (ua 5 0) (ua 6 0) (ua 1 2) (ua 1 4) (ua 1 1) (ua 1 3) (ua 1 5) H.size S.2.2.1 a1 a2 a3 hst hk
    rcases kdc_firstBad a1 a2 a3 S with h1 | h1 | h1
    · exact absurd h1 hk
    · rw [h1, show ex_X7_firstBad 1 = "java/lang/IndexOutOfBoundsException" from rfl] at hC
      refine k_xc (E := "java/lang/IndexOutOfBoundsException") (mc := 1) (ms := 6) (vx_runV (As := [.int a1, .int a2, .int a3]) (rest := [.int 0, .ref o0]) ⟨hx, hb, hml, hown, hts⟩ hC (cwV 3 hts gL_firstBad_X7_firstBad rfl rfl rfl (by decide +kernel) (k_lvl (by omega) (by decide))) (kPVx hP hD hK hS hA hE hX [1, 4, 5, 6, 7, 8, 9] rfl (by decide) 1 7 rfl rfl rfl) rfl rfl hl.1 rfl (lv_room (Nat.le_of_ble_eq_true rfl)) dL_firstBad_7 ⟨Nat.le_of_ble_eq_true rfl, Nat.le_of_ble_eq_true rfl⟩) hP hD hS hA [1, 4, 5, 6, 7, 8, 9] rfl (fun ce q9 H locs hP hS hc1 hc2 hc3 => ?_)
      refine k_catch1 (own := RL) (E := "java/lang/IndexOutOfBoundsException") hex hown hX (by decide) (by decide) (hts _ qL_firstBad_h0) (by decide +kernel) hc1 hc2 hc3 ?_
      refine lv_astore (lv' := [(5, .ref q9), (0, .ref x0), (1, .int a1), (2, .int a2), (3, .int a3), (4, .ref o0)]) hx hb dL_firstBad_15 hl (by decide) rfl (fun ls hl => ?_)
      refine lv_iconst (v := 1) hx hb dL_firstBad_17 (by decide) ?_
      refine W.widen (k := 1) (n := 6) (Nat.le_of_ble_eq_true rfl) (Nat.le_of_ble_eq_true rfl) ?_
      have hs : sL_firstBad a1 a2 a3 S = S := if_neg hk
      rw [← hs] at hP hD
      exact k_ri hx hb hr hlocks hP hD hS dL_firstBad_18 h1.symm rfl
    · rw [h1, show ex_X7_firstBad 2 = "java/lang/IllegalArgumentException" from rfl] at hC
      refine k_xc (E := "java/lang/IllegalArgumentException") (mc := 1) (ms := 6) (vx_runV (As := [.int a1, .int a2, .int a3]) (rest := [.int 0, .ref o0]) ⟨hx, hb, hml, hown, hts⟩ hC (cwV 3 hts gL_firstBad_X7_firstBad rfl rfl rfl (by decide +kernel) (k_lvl (by omega) (by decide))) (kPVx hP hD hK hS hA hE hX [1, 4, 5, 6, 7, 8, 9] rfl (by decide) 1 7 rfl rfl rfl) rfl rfl hl.1 rfl (lv_room (Nat.le_of_ble_eq_true rfl)) dL_firstBad_7 ⟨Nat.le_of_ble_eq_true rfl, Nat.le_of_ble_eq_true rfl⟩) hP hD hS hA [1, 4, 5, 6, 7, 8, 9] rfl (fun ce q9 H locs hP hS hc1 hc2 hc3 => ?_)
      refine k_catch2 (own := RL) (E := "java/lang/IllegalArgumentException") (E1 := "java/lang/IndexOutOfBoundsException") hex hown hX (by decide) (hts _ qL_firstBad_h0) (by decide +kernel) (by decide +kernel) (by decide) (by decide) (by decide) (hts _ qL_firstBad_h1) (by decide +kernel) hc1 hc2 hc3 ?_
      refine lv_astore (lv' := [(5, .ref q9), (0, .ref x0), (1, .int a1), (2, .int a2), (3, .int a3), (4, .ref o0)]) hx hb dL_firstBad_19 hl (by decide) rfl (fun ls hl => ?_)
      refine lv_iconst (v := 2) hx hb dL_firstBad_21 (by decide) ?_
      refine W.widen (k := 1) (n := 6) (Nat.le_of_ble_eq_true rfl) (Nat.le_of_ble_eq_true rfl) ?_
      have hs : sL_firstBad a1 a2 a3 S = S := if_neg hk
      rw [← hs] at hP hD
      exact k_ri hx hb hr hlocks hP hD hS dL_firstBad_22 h1.symm rfl
end
