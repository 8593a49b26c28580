-- THE LAW, 2: what a method of the class is for the law
noncomputable section
theorem kdc_mostBlamed (a1 : Int32) (a2 : Int32) (a3 : Int32) (S : KC) : kd_X7_mostBlamed S.2.2.1 a1 a2 a3 = 0 ∨ kd_X7_mostBlamed S.2.2.1 a1 a2 a3 = 1 ∨ kd_X7_mostBlamed S.2.2.1 a1 a2 a3 = 2 := by
  unfold kd_X7_mostBlamed
  try dsimp only
  repeat' split
  all_goals first | exact Or.inl rfl | exact Or.inr (Or.inl rfl) | exact Or.inr (Or.inr rfl)
theorem qL_mostBlamed_h0 : Cond.classLink RL 28 "java/lang/IndexOutOfBoundsException" ∈ wsL_mostBlamed := (List.mem_cons_of_mem _ (List.mem_append_left _ (List.mem_append_left _ (List.mem_append_left _ (List.mem_append_left _ (List.mem_append_left _ (List.mem_append_left _ (List.mem_append_left _ (List.mem_of_getElem? (i := 0) rfl)))))))))
theorem qL_mostBlamed_h1 : Cond.classLink RL 13 "java/lang/IllegalArgumentException" ∈ wsL_mostBlamed := (List.mem_cons_of_mem _ (List.mem_append_left _ (List.mem_append_left _ (List.mem_append_left _ (List.mem_append_left _ (List.mem_append_left _ (List.mem_append_left _ (List.mem_append_left _ (List.mem_of_getElem? (i := 1) rfl)))))))))
set_option maxHeartbeats 4000000 in
set_option maxRecDepth 100000 in
theorem c_L_mostBlamed (l : Launch) (D : va_G) (g : Nat → Nat) (o0 x0 : Nat) (ua ub : Nat → Nat → Nat) (sz : Nat) (S : KC) (a1 : Int32) (a2 : Int32) (a3 : Int32) (hst : l.stackTraces = false) (hln : S.1 ≤ 120) (hnx : S.2.2.2.2.2.1 < 14) (hkc : S.2.2.2.2.2.2.1 ≤ 14) (hpt : ¬ 10 < S.2.2.1.1) (hp1 : S.2.2.1.1 = nI S.2.2.1.1.toNatClampNeg) (hp2 : S.2.2.1.1.toNatClampNeg ≤ 10) : kMw l D g yL_mostBlamed wsL_mostBlamed 40 1 6 [.ref x0, .int a1, .int a2, .int a3, .ref o0] (wK g o0 x0 ua ub S) sz (kd_X7_mostBlamed S.2.2.1 a1 a2 a3) (wK g o0 x0 ua ub (sL_mostBlamed a1 a2 a3 S)) := by
  refine k_enterW (nm := "mostBlamed") (own := RL) (bytes := cL_mostBlamed) (maxL := 6) (ret := (some .int)) (hh := [(0, 12, 15, 28), (0, 12, 19, 13)]) (Qf := fun A => kQi D (wK g o0 x0 ua ub (sL_mostBlamed a1 a2 a3 S)) A (kd_X7_mostBlamed S.2.2.1 a1 a2 a3)) (by decide) rfl rfl rfl (Nat.le_of_ble_eq_true rfl) ?_
  rintro pp ee s mm below meth cc A ls args Q H locs hQ ⟨hx, hb, hr, hml, hown, hts, hlocks, hin⟩ hex hP hK hD hA hS hE hX hl
  have hl : lv_has ls 6 [(0, .ref x0), (1, .int a1), (2, .int a2), (3, .int a3), (4, .ref o0)] := hl
  subst hQ
  refine lv_aload hx hb dL_mostBlamed_0 (lv_at hl 4 rfl) ?_
  refine lv_iconst (v := 0) hx hb dL_mostBlamed_2 (by decide) ?_
  refine lv_aload_n hx hb dL_mostBlamed_3 rfl (lv_at hl 0 rfl) ?_
  refine lv_iload_n hx hb dL_mostBlamed_4 rfl (lv_at hl 1 rfl) ?_
  refine lv_iload_n hx hb dL_mostBlamed_5 rfl (lv_at hl 2 rfl) ?_
  refine lv_iload_n hx hb dL_mostBlamed_6 rfl (lv_at hl 3 rfl) ?_
  by_cases hk : kd_X7_mostBlamed S.2.2.1 a1 a2 a3 = 0
  ·
    have hC := c_X7_mostBlamed l D g x0 (ua 0 0) (ua 1 0) (ua 2 0) (ua 3 0) (ua 4 0) (ua 5 0) (ua 6 0) (ua 1 2) (ua 1 4) (ua 1 1) (ua 1 3) (ua 1 5) (ua 3 2) (ua 3 4) (ua 3 1) (ua 3 3) (ua 3 5) H.size S.2.2.1 S.2.2.2.2.1 a1 a2 a3 hp1 hp2 hk
    obtain ⟨F1, hF1⟩ : ∃ z, z = (cCalls a1 a2 a3.toNatClampNeg S.2.2.1) := ⟨_, rfl⟩
    rw [← hF1] at hC
    refine k_aiS (w2 := (wK g o0 x0 ua ub (S.1, S.2.1, S.2.2.1, S.2.2.2.1, F1, S.2.2.2.2.2.1, S.2.2.2.2.2.2.1, S.2.2.2.2.2.2.2.1, S.2.2.2.2.2.2.2.2.1, S.2.2.2.2.2.2.2.2.2.1, S.2.2.2.2.2.2.2.2.2.2.1, S.2.2.2.2.2.2.2.2.2.2.2))) (va_runV (As := [.int a1, .int a2, .int a3]) (rest := [.int 0, .ref o0]) ⟨hx, hb, hml, hown, hts⟩ hC (cwV 3 hts gL_mostBlamed_X7_mostBlamed rfl rfl rfl (by decide +kernel) (k_lvl (by omega) (by decide))) (kPV hP hD hK hS hA hE [1, 4, 5, 6, 7, 8, 9, 16, 17, 18, 19, 20, 21] rfl (by decide) 1 7 rfl rfl rfl) rfl rfl hl.1 rfl (lv_room (Nat.le_of_ble_eq_true rfl)) dL_mostBlamed_7 ⟨Nat.le_of_ble_eq_true rfl, Nat.le_of_ble_eq_true rfl⟩) hP hD hS hA [1, 4, 5, 6, 7, 8, 9, 16, 17, 18, 19, 20, 21] rfl (by decide) rfl (setAll_by (E := (wE g o0 x0 ua ub S)) (E2 := (wE g o0 x0 ua ub (S.1, S.2.1, S.2.2.1, S.2.2.2.1, F1, S.2.2.2.2.2.1, S.2.2.2.2.2.2.1, S.2.2.2.2.2.2.2.1, S.2.2.2.2.2.2.2.2.1, S.2.2.2.2.2.2.2.2.2.1, S.2.2.2.2.2.2.2.2.2.2.1, S.2.2.2.2.2.2.2.2.2.2.2))) (P := (wPool g ub S.2.2.2.2.2.2.2.1)) [(o0, .inl (g 4, 1, .inr (.inl S.2.2.2.2.2.2.2.2.2.2.2))), (ua 0 0, .inr (6, [.ref (ua 0 1), .int (nI S.1)])), (ua 0 1, .inl (g 1, 120, .inl S.2.1)), ((ua 2 0), .inr (4, [.ref (ua 2 2), .ref (ua 2 4), .ref (ua 2 1), .int S.2.2.2.1.1, .int S.2.2.2.1.2.1, .int S.2.2.2.1.2.2.1, .int S.2.2.2.1.2.2.2.1, .int S.2.2.2.1.2.2.2.2.1, .int S.2.2.2.1.2.2.2.2.2.1])), ((ua 2 1), .inl (g 0, 80, .inl S.2.2.2.1.2.2.2.2.2.2.1)), ((ua 2 2), .inr (1, [.ref (ua 2 3)])), ((ua 2 3), .inl (g 0, 480, .inl S.2.2.2.1.2.2.2.2.2.2.2.1)), ((ua 2 4), .inr (0, [.ref (ua 2 5), .int S.2.2.2.1.2.2.2.2.2.2.2.2.1])), ((ua 2 5), .inl (g 0, 60, .inl S.2.2.2.1.2.2.2.2.2.2.2.2.2)), (ua 4 0, .inr (3, [.ref (ua 4 1), .int (nI S.2.2.2.2.2.1), .int (nI S.2.2.2.2.2.2.1)])), (ua 4 1, .inl (g 3, 14, .inr (.inr (.inr (.inr (fun j => some (ub j 0))))))), (ua 5 0, .inl (g 3, 2, .inr (.inr (.inr (.inr (fun j => some (ua (7 + j) 0))))))), (ua 6 0, .inl (g 2, 2, .inl S.2.2.2.2.2.2.2.2.2.2.1)), ((ua 7 0), .inr (4, [.ref (ua 7 2), .ref (ua 7 4), .ref (ua 7 1), .int S.2.2.2.2.2.2.2.2.1.1, .int S.2.2.2.2.2.2.2.2.1.2.1, .int S.2.2.2.2.2.2.2.2.1.2.2.1, .int S.2.2.2.2.2.2.2.2.1.2.2.2.1, .int S.2.2.2.2.2.2.2.2.1.2.2.2.2.1, .int S.2.2.2.2.2.2.2.2.1.2.2.2.2.2.1])), ((ua 7 1), .inl (g 0, 80, .inl S.2.2.2.2.2.2.2.2.1.2.2.2.2.2.2.1)), ((ua 7 2), .inr (1, [.ref (ua 7 3)])), ((ua 7 3), .inl (g 0, 480, .inl S.2.2.2.2.2.2.2.2.1.2.2.2.2.2.2.2.1)), ((ua 7 4), .inr (0, [.ref (ua 7 5), .int S.2.2.2.2.2.2.2.2.1.2.2.2.2.2.2.2.2.1])), ((ua 7 5), .inl (g 0, 60, .inl S.2.2.2.2.2.2.2.2.1.2.2.2.2.2.2.2.2.2)), ((ua 8 0), .inr (4, [.ref (ua 8 2), .ref (ua 8 4), .ref (ua 8 1), .int S.2.2.2.2.2.2.2.2.2.1.1, .int S.2.2.2.2.2.2.2.2.2.1.2.1, .int S.2.2.2.2.2.2.2.2.2.1.2.2.1, .int S.2.2.2.2.2.2.2.2.2.1.2.2.2.1, .int S.2.2.2.2.2.2.2.2.2.1.2.2.2.2.1, .int S.2.2.2.2.2.2.2.2.2.1.2.2.2.2.2.1])), ((ua 8 1), .inl (g 0, 80, .inl S.2.2.2.2.2.2.2.2.2.1.2.2.2.2.2.2.1)), ((ua 8 2), .inr (1, [.ref (ua 8 3)])), ((ua 8 3), .inl (g 0, 480, .inl S.2.2.2.2.2.2.2.2.2.1.2.2.2.2.2.2.2.1)), ((ua 8 4), .inr (0, [.ref (ua 8 5), .int S.2.2.2.2.2.2.2.2.2.1.2.2.2.2.2.2.2.2.1])), ((ua 8 5), .inl (g 0, 60, .inl S.2.2.2.2.2.2.2.2.2.1.2.2.2.2.2.2.2.2.2))] [1, 4, 5, 6, 7, 8, 9, 16, 17, 18, 19, 20, 21] [0, 2, 3, 10, 11, 12, 13, 14, 15, 22, 23, 24, 25, 26, 27, 28, 29, 30, 31, 32, 33, 34, 35, 36, 37] 38 rfl rfl rfl (by decide) (by decide) (by decide +kernel) rfl rfl rfl) (fun H locs hP hD hS => ?_)
    refine lv_i2l (v := Int32.toInt64 ((cMb F1 S.2.2.1 S.2.2.1.1.toNatClampNeg).2)) hx hb dL_mostBlamed_10 rfl ?_
    refine va_last (i := 0) (x := Int32.toInt64 ((cMb F1 S.2.2.1 S.2.2.1.1.toNatClampNeg).2)) hx hb hK hP hD hS 0 4 rfl rfl (by unfold vp_in; decide) dL_mostBlamed_11 (fun H locs hP hD hS => ?_)
    refine lv_goto (tgt := 23) hx hb dL_mostBlamed_12 (by decide) ?_
    refine lv_iconst (v := 0) hx hb dL_mostBlamed_23 (by decide) ?_
    refine W.widen (k := 1) (n := 6) (Nat.le_of_ble_eq_true rfl) (Nat.le_of_ble_eq_true rfl) ?_
    have hP : va_P D vwCl (wK g o0 x0 ua ub (S.1, S.2.1, S.2.2.1, S.2.2.2.1, F1, S.2.2.2.2.2.1, S.2.2.2.2.2.2.1, S.2.2.2.2.2.2.2.1, S.2.2.2.2.2.2.2.2.1, S.2.2.2.2.2.2.2.2.2.1, S.2.2.2.2.2.2.2.2.2.2.1, vp_updL S.2.2.2.2.2.2.2.2.2.2.2 0 (Int32.toInt64 ((cMb F1 S.2.2.1 S.2.2.1.1.toNatClampNeg).2)))) H := hP
    have hD : va_D A (wK g o0 x0 ua ub (S.1, S.2.1, S.2.2.1, S.2.2.2.1, F1, S.2.2.2.2.2.1, S.2.2.2.2.2.2.1, S.2.2.2.2.2.2.2.1, S.2.2.2.2.2.2.2.2.1, S.2.2.2.2.2.2.2.2.2.1, S.2.2.2.2.2.2.2.2.2.2.1, vp_updL S.2.2.2.2.2.2.2.2.2.2.2 0 (Int32.toInt64 ((cMb F1 S.2.2.1 S.2.2.1.1.toNatClampNeg).2)))) := hD
    subst hF1
    have hs : sL_mostBlamed a1 a2 a3 S = (S.1, S.2.1, S.2.2.1, S.2.2.2.1, (cCalls a1 a2 a3.toNatClampNeg S.2.2.1), S.2.2.2.2.2.1, S.2.2.2.2.2.2.1, S.2.2.2.2.2.2.2.1, S.2.2.2.2.2.2.2.2.1, S.2.2.2.2.2.2.2.2.2.1, S.2.2.2.2.2.2.2.2.2.2.1, vp_updL S.2.2.2.2.2.2.2.2.2.2.2 0 (Int32.toInt64 ((cMb (cCalls a1 a2 a3.toNatClampNeg S.2.2.1) S.2.2.1 S.2.2.1.1.toNatClampNeg).2))) := if_pos hk
    rw [← hs] at hP hD
    exact k_ri hx hb hr hlocks hP hD hS dL_mostBlamed_24 hk.symm rfl
  ·
    have hC := c_X7_mostBlamed_x l D g x0 (ua 0 0) (ua 1 0) (ua 2 0) (ua 3 0) (ua 4 0) (ua 5 0) (ua 6 0) (ua 1 2) (ua 1 4) (ua 1 1) (ua 1 3) (ua 1 5) H.size S.2.2.1 a1 a2 a3 hst hk
    rcases kdc_mostBlamed a1 a2 a3 S with h1 | h1 | h1
    · exact absurd h1 hk
    · rw [h1, show ex_X7_mostBlamed 1 = "java/lang/IndexOutOfBoundsException" from rfl] at hC
      refine k_xc (E := "java/lang/IndexOutOfBoundsException") (mc := 1) (ms := 6) (vx_runV (As := [.int a1, .int a2, .int a3]) (rest := [.int 0, .ref o0]) ⟨hx, hb, hml, hown, hts⟩ hC (cwV 3 hts gL_mostBlamed_X7_mostBlamed rfl rfl rfl (by decide +kernel) (k_lvl (by omega) (by decide))) (kPVx hP hD hK hS hA hE hX [1, 4, 5, 6, 7, 8, 9] rfl (by decide) 1 7 rfl rfl rfl) rfl rfl hl.1 rfl (lv_room (Nat.le_of_ble_eq_true rfl)) dL_mostBlamed_7 ⟨Nat.le_of_ble_eq_true rfl, Nat.le_of_ble_eq_true rfl⟩) hP hD hS hA [1, 4, 5, 6, 7, 8, 9] rfl (fun ce q9 H locs hP hS hc1 hc2 hc3 => ?_)
      refine k_catch1 (own := RL) (E := "java/lang/IndexOutOfBoundsException") hex hown hX (by decide) (by decide) (hts _ qL_mostBlamed_h0) (by decide +kernel) hc1 hc2 hc3 ?_
      refine lv_astore (lv' := [(5, .ref q9), (0, .ref x0), (1, .int a1), (2, .int a2), (3, .int a3), (4, .ref o0)]) hx hb dL_mostBlamed_15 hl (by decide) rfl (fun ls hl => ?_)
      refine lv_iconst (v := 1) hx hb dL_mostBlamed_17 (by decide) ?_
      refine W.widen (k := 1) (n := 6) (Nat.le_of_ble_eq_true rfl) (Nat.le_of_ble_eq_true rfl) ?_
      have hs : sL_mostBlamed a1 a2 a3 S = S := if_neg hk
      rw [← hs] at hP hD
      exact k_ri hx hb hr hlocks hP hD hS dL_mostBlamed_18 h1.symm rfl
    · rw [h1, show ex_X7_mostBlamed 2 = "java/lang/IllegalArgumentException" from rfl] at hC
      refine k_xc (E := "java/lang/IllegalArgumentException") (mc := 1) (ms := 6) (vx_runV (As := [.int a1, .int a2, .int a3]) (rest := [.int 0, .ref o0]) ⟨hx, hb, hml, hown, hts⟩ hC (cwV 3 hts gL_mostBlamed_X7_mostBlamed rfl rfl rfl (by decide +kernel) (k_lvl (by omega) (by decide))) (kPVx hP hD hK hS hA hE hX [1, 4, 5, 6, 7, 8, 9] rfl (by decide) 1 7 rfl rfl rfl) rfl rfl hl.1 rfl (lv_room (Nat.le_of_ble_eq_true rfl)) dL_mostBlamed_7 ⟨Nat.le_of_ble_eq_true rfl, Nat.le_of_ble_eq_true rfl⟩) hP hD hS hA [1, 4, 5, 6, 7, 8, 9] rfl (fun ce q9 H locs hP hS hc1 hc2 hc3 => ?_)
      refine k_catch2 (own := RL) (E := "java/lang/IllegalArgumentException") (E1 := "java/lang/IndexOutOfBoundsException") hex hown hX (by decide) (hts _ qL_mostBlamed_h0) (by decide +kernel) (by decide +kernel) (by decide) (by decide) (by decide) (hts _ qL_mostBlamed_h1) (by decide +kernel) hc1 hc2 hc3 ?_
      refine lv_astore (lv' := [(5, .ref q9), (0, .ref x0), (1, .int a1), (2, .int a2), (3, .int a3), (4, .ref o0)]) hx hb dL_mostBlamed_19 hl (by decide) rfl (fun ls hl => ?_)
      refine lv_iconst (v := 2) hx hb dL_mostBlamed_21 (by decide) ?_
      refine W.widen (k := 1) (n := 6) (Nat.le_of_ble_eq_true rfl) (Nat.le_of_ble_eq_true rfl) ?_
      have hs : sL_mostBlamed a1 a2 a3 S = S := if_neg hk
      rw [← hs] at hP hD
      exact k_ri hx hb hr hlocks hP hD hS dL_mostBlamed_22 h1.symm rfl
theorem kdc_reach (a1 : Int32) (a2 : Int32) (a3 : Int32) (S : KC) : kd_X7_reach S.2.2.1 a1 a2 = 0 ∨ kd_X7_reach S.2.2.1 a1 a2 = 1 ∨ kd_X7_reach S.2.2.1 a1 a2 = 2 := by
  unfold kd_X7_reach
  try dsimp only
  repeat' split
  all_goals first | exact Or.inl rfl | exact Or.inr (Or.inl rfl) | exact Or.inr (Or.inr rfl)
theorem qL_reach_h0 : Cond.classLink RL 28 "java/lang/IndexOutOfBoundsException" ∈ wsL_reach := (List.mem_cons_of_mem _ (List.mem_append_left _ (List.mem_append_left _ (List.mem_append_left _ (List.mem_append_left _ (List.mem_append_left _ (List.mem_append_left _ (List.mem_append_left _ (List.mem_of_getElem? (i := 0) rfl)))))))))
theorem qL_reach_h1 : Cond.classLink RL 13 "java/lang/IllegalArgumentException" ∈ wsL_reach := (List.mem_cons_of_mem _ (List.mem_append_left _ (List.mem_append_left _ (List.mem_append_left _ (List.mem_append_left _ (List.mem_append_left _ (List.mem_append_left _ (List.mem_append_left _ (List.mem_of_getElem? (i := 1) rfl)))))))))
set_option maxHeartbeats 4000000 in
set_option maxRecDepth 100000 in
theorem c_L_reach (l : Launch) (D : va_G) (g : Nat → Nat) (o0 x0 : Nat) (ua ub : Nat → Nat → Nat) (sz : Nat) (S : KC) (a1 : Int32) (a2 : Int32) (a3 : Int32) (hst : l.stackTraces = false) (hln : S.1 ≤ 120) (hnx : S.2.2.2.2.2.1 < 14) (hkc : S.2.2.2.2.2.2.1 ≤ 14) (hpt : ¬ 10 < S.2.2.1.1) (hp1 : S.2.2.1.1 = nI S.2.2.1.1.toNatClampNeg) (hp2 : S.2.2.1.1.toNatClampNeg ≤ 10) : kMw l D g yL_reach wsL_reach 40 1 6 [.ref x0, .int a1, .int a2, .int a3, .ref o0] (wK g o0 x0 ua ub S) sz (kd_X7_reach S.2.2.1 a1 a2) (wK g o0 x0 ua ub (sL_reach a1 a2 a3 S)) := by
  refine k_enterW (nm := "reach") (own := RL) (bytes := cL_reach) (maxL := 6) (ret := (some .int)) (hh := [(0, 12, 15, 28), (0, 12, 19, 13)]) (Qf := fun A => kQi D (wK g o0 x0 ua ub (sL_reach a1 a2 a3 S)) A (kd_X7_reach S.2.2.1 a1 a2)) (by decide) rfl rfl rfl (Nat.le_of_ble_eq_true rfl) ?_
  rintro pp ee s mm below meth cc A ls args Q H locs hQ ⟨hx, hb, hr, hml, hown, hts, hlocks, hin⟩ hex hP hK hD hA hS hE hX hl
  have hl : lv_has ls 6 [(0, .ref x0), (1, .int a1), (2, .int a2), (3, .int a3), (4, .ref o0)] := hl
  subst hQ
  refine lv_aload hx hb dL_reach_0 (lv_at hl 4 rfl) ?_
  refine lv_iconst (v := 0) hx hb dL_reach_2 (by decide) ?_
  refine lv_aload_n hx hb dL_reach_3 rfl (lv_at hl 0 rfl) ?_
  refine lv_iload_n hx hb dL_reach_4 rfl (lv_at hl 1 rfl) ?_
  refine lv_iload_n hx hb dL_reach_5 rfl (lv_at hl 2 rfl) ?_
  refine lv_iload_n hx hb dL_reach_6 rfl (lv_at hl 3 rfl) ?_
  by_cases hk : kd_X7_reach S.2.2.1 a1 a2 = 0
  ·
    have hC := c_X7_reach l D g x0 (ua 0 0) (ua 1 0) (ua 2 0) (ua 3 0) (ua 4 0) (ua 5 0) (ua 6 0) (ua 1 2) (ua 1 4) (ua 1 1) (ua 1 3) (ua 1 5) (ua 3 2) (ua 3 4) (ua 3 1) (ua 3 3) (ua 3 5) H.size S.2.2.1 S.2.2.2.2.1 a1 a2 a3 hk
    obtain ⟨F1, hF1⟩ : ∃ z, z = (cReach S.2.2.1 a1 a2 a3) := ⟨_, rfl⟩
    rw [← hF1] at hC
    refine k_aiS (w2 := (wK g o0 x0 ua ub (S.1, S.2.1, S.2.2.1, S.2.2.2.1, F1.2, S.2.2.2.2.2.1, S.2.2.2.2.2.2.1, S.2.2.2.2.2.2.2.1, S.2.2.2.2.2.2.2.2.1, S.2.2.2.2.2.2.2.2.2.1, S.2.2.2.2.2.2.2.2.2.2.1, S.2.2.2.2.2.2.2.2.2.2.2))) (va_runV (As := [.int a1, .int a2, .int a3]) (rest := [.int 0, .ref o0]) ⟨hx, hb, hml, hown, hts⟩ hC (cwV 3 hts gL_reach_X7_reach rfl rfl rfl (by decide +kernel) (k_lvl (by omega) (by decide))) (kPV hP hD hK hS hA hE [1, 4, 5, 6, 7, 8, 9, 16, 17, 18, 19, 20, 21] rfl (by decide) 1 7 rfl rfl rfl) rfl rfl hl.1 rfl (lv_room (Nat.le_of_ble_eq_true rfl)) dL_reach_7 ⟨Nat.le_of_ble_eq_true rfl, Nat.le_of_ble_eq_true rfl⟩) hP hD hS hA [1, 4, 5, 6, 7, 8, 9, 16, 17, 18, 19, 20, 21] rfl (by decide) rfl (setAll_by (E := (wE g o0 x0 ua ub S)) (E2 := (wE g o0 x0 ua ub (S.1, S.2.1, S.2.2.1, S.2.2.2.1, F1.2, S.2.2.2.2.2.1, S.2.2.2.2.2.2.1, S.2.2.2.2.2.2.2.1, S.2.2.2.2.2.2.2.2.1, S.2.2.2.2.2.2.2.2.2.1, S.2.2.2.2.2.2.2.2.2.2.1, S.2.2.2.2.2.2.2.2.2.2.2))) (P := (wPool g ub S.2.2.2.2.2.2.2.1)) [(o0, .inl (g 4, 1, .inr (.inl S.2.2.2.2.2.2.2.2.2.2.2))), (ua 0 0, .inr (6, [.ref (ua 0 1), .int (nI S.1)])), (ua 0 1, .inl (g 1, 120, .inl S.2.1)), ((ua 2 0), .inr (4, [.ref (ua 2 2), .ref (ua 2 4), .ref (ua 2 1), .int S.2.2.2.1.1, .int S.2.2.2.1.2.1, .int S.2.2.2.1.2.2.1, .int S.2.2.2.1.2.2.2.1, .int S.2.2.2.1.2.2.2.2.1, .int S.2.2.2.1.2.2.2.2.2.1])), ((ua 2 1), .inl (g 0, 80, .inl S.2.2.2.1.2.2.2.2.2.2.1)), ((ua 2 2), .inr (1, [.ref (ua 2 3)])), ((ua 2 3), .inl (g 0, 480, .inl S.2.2.2.1.2.2.2.2.2.2.2.1)), ((ua 2 4), .inr (0, [.ref (ua 2 5), .int S.2.2.2.1.2.2.2.2.2.2.2.2.1])), ((ua 2 5), .inl (g 0, 60, .inl S.2.2.2.1.2.2.2.2.2.2.2.2.2)), (ua 4 0, .inr (3, [.ref (ua 4 1), .int (nI S.2.2.2.2.2.1), .int (nI S.2.2.2.2.2.2.1)])), (ua 4 1, .inl (g 3, 14, .inr (.inr (.inr (.inr (fun j => some (ub j 0))))))), (ua 5 0, .inl (g 3, 2, .inr (.inr (.inr (.inr (fun j => some (ua (7 + j) 0))))))), (ua 6 0, .inl (g 2, 2, .inl S.2.2.2.2.2.2.2.2.2.2.1)), ((ua 7 0), .inr (4, [.ref (ua 7 2), .ref (ua 7 4), .ref (ua 7 1), .int S.2.2.2.2.2.2.2.2.1.1, .int S.2.2.2.2.2.2.2.2.1.2.1, .int S.2.2.2.2.2.2.2.2.1.2.2.1, .int S.2.2.2.2.2.2.2.2.1.2.2.2.1, .int S.2.2.2.2.2.2.2.2.1.2.2.2.2.1, .int S.2.2.2.2.2.2.2.2.1.2.2.2.2.2.1])), ((ua 7 1), .inl (g 0, 80, .inl S.2.2.2.2.2.2.2.2.1.2.2.2.2.2.2.1)), ((ua 7 2), .inr (1, [.ref (ua 7 3)])), ((ua 7 3), .inl (g 0, 480, .inl S.2.2.2.2.2.2.2.2.1.2.2.2.2.2.2.2.1)), ((ua 7 4), .inr (0, [.ref (ua 7 5), .int S.2.2.2.2.2.2.2.2.1.2.2.2.2.2.2.2.2.1])), ((ua 7 5), .inl (g 0, 60, .inl S.2.2.2.2.2.2.2.2.1.2.2.2.2.2.2.2.2.2)), ((ua 8 0), .inr (4, [.ref (ua 8 2), .ref (ua 8 4), .ref (ua 8 1), .int S.2.2.2.2.2.2.2.2.2.1.1, .int S.2.2.2.2.2.2.2.2.2.1.2.1, .int S.2.2.2.2.2.2.2.2.2.1.2.2.1, .int S.2.2.2.2.2.2.2.2.2.1.2.2.2.1, .int S.2.2.2.2.2.2.2.2.2.1.2.2.2.2.1, .int S.2.2.2.2.2.2.2.2.2.1.2.2.2.2.2.1])), ((ua 8 1), .inl (g 0, 80, .inl S.2.2.2.2.2.2.2.2.2.1.2.2.2.2.2.2.1)), ((ua 8 2), .inr (1, [.ref (ua 8 3)])), ((ua 8 3), .inl (g 0, 480, .inl S.2.2.2.2.2.2.2.2.2.1.2.2.2.2.2.2.2.1)), ((ua 8 4), .inr (0, [.ref (ua 8 5), .int S.2.2.2.2.2.2.2.2.2.1.2.2.2.2.2.2.2.2.1])), ((ua 8 5), .inl (g 0, 60, .inl S.2.2.2.2.2.2.2.2.2.1.2.2.2.2.2.2.2.2.2))] [1, 4, 5, 6, 7, 8, 9, 16, 17, 18, 19, 20, 21] [0, 2, 3, 10, 11, 12, 13, 14, 15, 22, 23, 24, 25, 26, 27, 28, 29, 30, 31, 32, 33, 34, 35, 36, 37] 38 rfl rfl rfl (by decide) (by decide) (by decide +kernel) rfl rfl rfl) (fun H locs hP hD hS => ?_)
    refine lv_i2l (v := Int32.toInt64 (F1.1)) hx hb dL_reach_10 rfl ?_
    refine va_last (i := 0) (x := Int32.toInt64 (F1.1)) hx hb hK hP hD hS 0 4 rfl rfl (by unfold vp_in; decide) dL_reach_11 (fun H locs hP hD hS => ?_)
    refine lv_goto (tgt := 23) hx hb dL_reach_12 (by decide) ?_
    refine lv_iconst (v := 0) hx hb dL_reach_23 (by decide) ?_
    refine W.widen (k := 1) (n := 6) (Nat.le_of_ble_eq_true rfl) (Nat.le_of_ble_eq_true rfl) ?_
    have hP : va_P D vwCl (wK g o0 x0 ua ub (S.1, S.2.1, S.2.2.1, S.2.2.2.1, F1.2, S.2.2.2.2.2.1, S.2.2.2.2.2.2.1, S.2.2.2.2.2.2.2.1, S.2.2.2.2.2.2.2.2.1, S.2.2.2.2.2.2.2.2.2.1, S.2.2.2.2.2.2.2.2.2.2.1, vp_updL S.2.2.2.2.2.2.2.2.2.2.2 0 (Int32.toInt64 (F1.1)))) H := hP
    have hD : va_D A (wK g o0 x0 ua ub (S.1, S.2.1, S.2.2.1, S.2.2.2.1, F1.2, S.2.2.2.2.2.1, S.2.2.2.2.2.2.1, S.2.2.2.2.2.2.2.1, S.2.2.2.2.2.2.2.2.1, S.2.2.2.2.2.2.2.2.2.1, S.2.2.2.2.2.2.2.2.2.2.1, vp_updL S.2.2.2.2.2.2.2.2.2.2.2 0 (Int32.toInt64 (F1.1)))) := hD
    subst hF1
    have hs : sL_reach a1 a2 a3 S = (S.1, S.2.1, S.2.2.1, S.2.2.2.1, (cReach S.2.2.1 a1 a2 a3).2, S.2.2.2.2.2.1, S.2.2.2.2.2.2.1, S.2.2.2.2.2.2.2.1, S.2.2.2.2.2.2.2.2.1, S.2.2.2.2.2.2.2.2.2.1, S.2.2.2.2.2.2.2.2.2.2.1, vp_updL S.2.2.2.2.2.2.2.2.2.2.2 0 (Int32.toInt64 ((cReach S.2.2.1 a1 a2 a3).1))) := if_pos hk
    rw [← hs] at hP hD
    exact k_ri hx hb hr hlocks hP hD hS dL_reach_24 hk.symm rfl
  ·
    have hC := c_X7_reach_x l D g x0 (ua 0 0) (ua 1 0) (ua 2 0) (ua 3 0) (ua 4 0) (ua 5 0) (ua 6 0) (ua 1 2) (ua 1 4) (ua 1 1) (ua 1 3) (ua 1 5) H.size S.2.2.1 a1 a2 a3 hst hk
    rcases kdc_reach a1 a2 a3 S with h1 | h1 | h1
    · exact absurd h1 hk
    · rw [h1, show ex_X7_reach 1 = "java/lang/IndexOutOfBoundsException" from rfl] at hC
      refine k_xc (E := "java/lang/IndexOutOfBoundsException") (mc := 1) (ms := 6) (vx_runV (As := [.int a1, .int a2, .int a3]) (rest := [.int 0, .ref o0]) ⟨hx, hb, hml, hown, hts⟩ hC (cwV 3 hts gL_reach_X7_reach rfl rfl rfl (by decide +kernel) (k_lvl (by omega) (by decide))) (kPVx hP hD hK hS hA hE hX [1, 4, 5, 6, 7, 8, 9] rfl (by decide) 1 7 rfl rfl rfl) rfl rfl hl.1 rfl (lv_room (Nat.le_of_ble_eq_true rfl)) dL_reach_7 ⟨Nat.le_of_ble_eq_true rfl, Nat.le_of_ble_eq_true rfl⟩) hP hD hS hA [1, 4, 5, 6, 7, 8, 9] rfl (fun ce q9 H locs hP hS hc1 hc2 hc3 => ?_)
      refine k_catch1 (own := RL) (E := "java/lang/IndexOutOfBoundsException") hex hown hX (by decide) (by decide) (hts _ qL_reach_h0) (by decide +kernel) hc1 hc2 hc3 ?_
      refine lv_astore (lv' := [(5, .ref q9), (0, .ref x0), (1, .int a1), (2, .int a2), (3, .int a3), (4, .ref o0)]) hx hb dL_reach_15 hl (by decide) rfl (fun ls hl => ?_)
      refine lv_iconst (v := 1) hx hb dL_reach_17 (by decide) ?_
      refine W.widen (k := 1) (n := 6) (Nat.le_of_ble_eq_true rfl) (Nat.le_of_ble_eq_true rfl) ?_
      have hs : sL_reach a1 a2 a3 S = S := if_neg hk
      rw [← hs] at hP hD
      exact k_ri hx hb hr hlocks hP hD hS dL_reach_18 h1.symm rfl
    · rw [h1, show ex_X7_reach 2 = "java/lang/IllegalArgumentException" from rfl] at hC
      refine k_xc (E := "java/lang/IllegalArgumentException") (mc := 1) (ms := 6) (vx_runV (As := [.int a1, .int a2, .int a3]) (rest := [.int 0, .ref o0]) ⟨hx, hb, hml, hown, hts⟩ hC (cwV 3 hts gL_reach_X7_reach rfl rfl rfl (by decide +kernel) (k_lvl (by omega) (by decide))) (kPVx hP hD hK hS hA hE hX [1, 4, 5, 6, 7, 8, 9] rfl (by decide) 1 7 rfl rfl rfl) rfl rfl hl.1 rfl (lv_room (Nat.le_of_ble_eq_true rfl)) dL_reach_7 ⟨Nat.le_of_ble_eq_true rfl, Nat.le_of_ble_eq_true rfl⟩) hP hD hS hA [1, 4, 5, 6, 7, 8, 9] rfl (fun ce q9 H locs hP hS hc1 hc2 hc3 => ?_)
      refine k_catch2 (own := RL) (E := "java/lang/IllegalArgumentException") (E1 := "java/lang/IndexOutOfBoundsException") hex hown hX (by decide) (hts _ qL_reach_h0) (by decide +kernel) (by decide +kernel) (by decide) (by decide) (by decide) (hts _ qL_reach_h1) (by decide +kernel) hc1 hc2 hc3 ?_
      refine lv_astore (lv' := [(5, .ref q9), (0, .ref x0), (1, .int a1), (2, .int a2), (3, .int a3), (4, .ref o0)]) hx hb dL_reach_19 hl (by decide) rfl (fun ls hl => ?_)
      refine lv_iconst (v := 2) hx hb dL_reach_21 (by decide) ?_
      refine W.widen (k := 1) (n := 6) (Nat.le_of_ble_eq_true rfl) (Nat.le_of_ble_eq_true rfl) ?_
      have hs : sL_reach a1 a2 a3 S = S := if_neg hk
      rw [← hs] at hP hD
      exact k_ri hx hb hr hlocks hP hD hS dL_reach_22 h1.symm rfl
theorem kdc_runScript (a1 : Int32) (a2 : Int64) (S : KC) : kd_X7_runScript a1 a2 = 0 ∨ kd_X7_runScript a1 a2 = 1 := by
  unfold kd_X7_runScript
  try dsimp only
  repeat' split
  all_goals first | exact Or.inl rfl | exact Or.inr rfl
theorem qL_runScript_h0 : Cond.classLink RL 13 "java/lang/IllegalArgumentException" ∈ wsL_runScript := (List.mem_cons_of_mem _ (List.mem_append_left _ (List.mem_append_left _ (List.mem_append_left _ (List.mem_append_left _ (List.mem_append_left _ (List.mem_append_left _ (List.mem_append_left _ (List.mem_of_getElem? (i := 0) rfl)))))))))
set_option maxHeartbeats 4000000 in
set_option maxRecDepth 100000 in
theorem c_L_runScript (l : Launch) (D : va_G) (g : Nat → Nat) (o0 x0 : Nat) (ua ub : Nat → Nat → Nat) (sz : Nat) (S : KC) (a1 : Int32) (a2 : Int64) (hst : l.stackTraces = false) (hln : S.1 ≤ 120) (hnx : S.2.2.2.2.2.1 < 14) (hkc : S.2.2.2.2.2.2.1 ≤ 14) (hpt : ¬ 10 < S.2.2.1.1) (hp1 : S.2.2.1.1 = nI S.2.2.1.1.toNatClampNeg) (hp2 : S.2.2.1.1.toNatClampNeg ≤ 10) : kMw l D g yL_runScript wsL_runScript 40 1 6 [.ref x0, .int a1, .long a2, .ref o0] (wK g o0 x0 ua ub S) sz (kd_X7_runScript a1 a2) (wK g o0 x0 ua ub (sL_runScript a1 a2 S)) := by
  refine k_enterW (nm := "runScript") (own := RL) (bytes := cL_runScript) (maxL := 6) (ret := (some .int)) (hh := [(0, 11, 14, 13)]) (Qf := fun A => kQi D (wK g o0 x0 ua ub (sL_runScript a1 a2 S)) A (kd_X7_runScript a1 a2)) (by decide) rfl rfl rfl (Nat.le_of_ble_eq_true rfl) ?_
  rintro pp ee s mm below meth cc A ls args Q H locs hQ ⟨hx, hb, hr, hml, hown, hts, hlocks, hin⟩ hex hP hK hD hA hS hE hX hl
  have hl : lv_has ls 6 [(0, .ref x0), (1, .int a1), (2, .long a2), (4, .ref o0)] := hl
  subst hQ
  refine lv_aload hx hb dL_runScript_0 (lv_at hl 3 rfl) ?_
  refine lv_iconst (v := 0) hx hb dL_runScript_2 (by decide) ?_
  refine lv_aload_n hx hb dL_runScript_3 rfl (lv_at hl 0 rfl) ?_
  refine lv_iload_n hx hb dL_runScript_4 rfl (lv_at hl 1 rfl) ?_
  refine lv_lload_n hx hb dL_runScript_5 rfl (lv_at hl 2 rfl) ?_
  by_cases hk : kd_X7_runScript a1 a2 = 0
  ·
    have hC := c_X7_runScript l D g x0 (ua 0 0) (ua 1 0) (ua 2 0) (ua 3 0) (ua 4 0) (ua 5 0) (ua 6 0) (ua 1 2) (ua 1 4) (ua 1 1) (ua 1 3) (ua 1 5) (ua 2 2) (ua 2 4) (ua 2 1) (ua 2 3) (ua 2 5) (ua 3 2) (ua 3 4) (ua 3 1) (ua 3 3) (ua 3 5) H.size S.2.2.1 S.2.2.2.1 S.2.2.2.2.1 a1 a2 hk
    obtain ⟨F1, hF1⟩ : ∃ z, z = (cRun a1.toNatClampNeg a2.toNatClampNeg a1.toNatClampNeg 0 S.2.2.1 S.2.2.2.2.1) := ⟨_, rfl⟩
    rw [← hF1] at hC
    refine k_aiS (w2 := (wK g o0 x0 ua ub (S.1, S.2.1, S.2.2.1, (F1.2.1), (F1.2.2), S.2.2.2.2.2.1, S.2.2.2.2.2.2.1, S.2.2.2.2.2.2.2.1, S.2.2.2.2.2.2.2.2.1, S.2.2.2.2.2.2.2.2.2.1, S.2.2.2.2.2.2.2.2.2.2.1, S.2.2.2.2.2.2.2.2.2.2.2))) (va_runV (As := [.int a1, .long a2]) (rest := [.int 0, .ref o0]) ⟨hx, hb, hml, hown, hts⟩ hC (cwV 2 hts gL_runScript_X7_runScript rfl rfl rfl (by decide +kernel) (k_lvl (by omega) (by decide))) (kPV hP hD hK hS hA hE [1, 4, 5, 6, 7, 8, 9, 10, 11, 12, 13, 14, 15, 16, 17, 18, 19, 20, 21] rfl (by decide +kernel) 1 7 rfl rfl rfl) rfl rfl hl.1 rfl (lv_room (Nat.le_of_ble_eq_true rfl)) dL_runScript_6 ⟨Nat.le_of_ble_eq_true rfl, Nat.le_of_ble_eq_true rfl⟩) hP hD hS hA [1, 4, 5, 6, 7, 8, 9, 10, 11, 12, 13, 14, 15, 16, 17, 18, 19, 20, 21] rfl (by decide +kernel) rfl (setAll_by (E := (wE g o0 x0 ua ub S)) (E2 := (wE g o0 x0 ua ub (S.1, S.2.1, S.2.2.1, (F1.2.1), (F1.2.2), S.2.2.2.2.2.1, S.2.2.2.2.2.2.1, S.2.2.2.2.2.2.2.1, S.2.2.2.2.2.2.2.2.1, S.2.2.2.2.2.2.2.2.2.1, S.2.2.2.2.2.2.2.2.2.2.1, S.2.2.2.2.2.2.2.2.2.2.2))) (P := (wPool g ub S.2.2.2.2.2.2.2.1)) [(o0, .inl (g 4, 1, .inr (.inl S.2.2.2.2.2.2.2.2.2.2.2))), (ua 0 0, .inr (6, [.ref (ua 0 1), .int (nI S.1)])), (ua 0 1, .inl (g 1, 120, .inl S.2.1)), (ua 4 0, .inr (3, [.ref (ua 4 1), .int (nI S.2.2.2.2.2.1), .int (nI S.2.2.2.2.2.2.1)])), (ua 4 1, .inl (g 3, 14, .inr (.inr (.inr (.inr (fun j => some (ub j 0))))))), (ua 5 0, .inl (g 3, 2, .inr (.inr (.inr (.inr (fun j => some (ua (7 + j) 0))))))), (ua 6 0, .inl (g 2, 2, .inl S.2.2.2.2.2.2.2.2.2.2.1)), ((ua 7 0), .inr (4, [.ref (ua 7 2), .ref (ua 7 4), .ref (ua 7 1), .int S.2.2.2.2.2.2.2.2.1.1, .int S.2.2.2.2.2.2.2.2.1.2.1, .int S.2.2.2.2.2.2.2.2.1.2.2.1, .int S.2.2.2.2.2.2.2.2.1.2.2.2.1, .int S.2.2.2.2.2.2.2.2.1.2.2.2.2.1, .int S.2.2.2.2.2.2.2.2.1.2.2.2.2.2.1])), ((ua 7 1), .inl (g 0, 80, .inl S.2.2.2.2.2.2.2.2.1.2.2.2.2.2.2.1)), ((ua 7 2), .inr (1, [.ref (ua 7 3)])), ((ua 7 3), .inl (g 0, 480, .inl S.2.2.2.2.2.2.2.2.1.2.2.2.2.2.2.2.1)), ((ua 7 4), .inr (0, [.ref (ua 7 5), .int S.2.2.2.2.2.2.2.2.1.2.2.2.2.2.2.2.2.1])), ((ua 7 5), .inl (g 0, 60, .inl S.2.2.2.2.2.2.2.2.1.2.2.2.2.2.2.2.2.2)), ((ua 8 0), .inr (4, [.ref (ua 8 2), .ref (ua 8 4), .ref (ua 8 1), .int S.2.2.2.2.2.2.2.2.2.1.1, .int S.2.2.2.2.2.2.2.2.2.1.2.1, .int S.2.2.2.2.2.2.2.2.2.1.2.2.1, .int S.2.2.2.2.2.2.2.2.2.1.2.2.2.1, .int S.2.2.2.2.2.2.2.2.2.1.2.2.2.2.1, .int S.2.2.2.2.2.2.2.2.2.1.2.2.2.2.2.1])), ((ua 8 1), .inl (g 0, 80, .inl S.2.2.2.2.2.2.2.2.2.1.2.2.2.2.2.2.1)), ((ua 8 2), .inr (1, [.ref (ua 8 3)])), ((ua 8 3), .inl (g 0, 480, .inl S.2.2.2.2.2.2.2.2.2.1.2.2.2.2.2.2.2.1)), ((ua 8 4), .inr (0, [.ref (ua 8 5), .int S.2.2.2.2.2.2.2.2.2.1.2.2.2.2.2.2.2.2.1])), ((ua 8 5), .inl (g 0, 60, .inl S.2.2.2.2.2.2.2.2.2.1.2.2.2.2.2.2.2.2.2))] [1, 4, 5, 6, 7, 8, 9, 10, 11, 12, 13, 14, 15, 16, 17, 18, 19, 20, 21] [0, 2, 3, 22, 23, 24, 25, 26, 27, 28, 29, 30, 31, 32, 33, 34, 35, 36, 37] 38 rfl rfl rfl (by decide) (by decide) (by decide +kernel) rfl rfl rfl) (fun H locs hP hD hS => ?_)
    refine lv_i2l (v := Int32.toInt64 (F1.1)) hx hb dL_runScript_9 rfl ?_
    refine va_last (i := 0) (x := Int32.toInt64 (F1.1)) hx hb hK hP hD hS 0 4 rfl rfl (by unfold vp_in; decide) dL_runScript_10 (fun H locs hP hD hS => ?_)
    refine lv_goto (tgt := 18) hx hb dL_runScript_11 (by decide) ?_
    refine lv_iconst (v := 0) hx hb dL_runScript_18 (by decide) ?_
    refine W.widen (k := 1) (n := 6) (Nat.le_of_ble_eq_true rfl) (Nat.le_of_ble_eq_true rfl) ?_
    have hP : va_P D vwCl (wK g o0 x0 ua ub (S.1, S.2.1, S.2.2.1, (F1.2.1), (F1.2.2), S.2.2.2.2.2.1, S.2.2.2.2.2.2.1, S.2.2.2.2.2.2.2.1, S.2.2.2.2.2.2.2.2.1, S.2.2.2.2.2.2.2.2.2.1, S.2.2.2.2.2.2.2.2.2.2.1, vp_updL S.2.2.2.2.2.2.2.2.2.2.2 0 (Int32.toInt64 (F1.1)))) H := hP
    have hD : va_D A (wK g o0 x0 ua ub (S.1, S.2.1, S.2.2.1, (F1.2.1), (F1.2.2), S.2.2.2.2.2.1, S.2.2.2.2.2.2.1, S.2.2.2.2.2.2.2.1, S.2.2.2.2.2.2.2.2.1, S.2.2.2.2.2.2.2.2.2.1, S.2.2.2.2.2.2.2.2.2.2.1, vp_updL S.2.2.2.2.2.2.2.2.2.2.2 0 (Int32.toInt64 (F1.1)))) := hD
    subst hF1
    have hs : sL_runScript a1 a2 S = (S.1, S.2.1, S.2.2.1, ((cRun a1.toNatClampNeg a2.toNatClampNeg a1.toNatClampNeg 0 S.2.2.1 S.2.2.2.2.1).2.1), ((cRun a1.toNatClampNeg a2.toNatClampNeg a1.toNatClampNeg 0 S.2.2.1 S.2.2.2.2.1).2.2), S.2.2.2.2.2.1, S.2.2.2.2.2.2.1, S.2.2.2.2.2.2.2.1, S.2.2.2.2.2.2.2.2.1, S.2.2.2.2.2.2.2.2.2.1, S.2.2.2.2.2.2.2.2.2.2.1, vp_updL S.2.2.2.2.2.2.2.2.2.2.2 0 (Int32.toInt64 ((cRun a1.toNatClampNeg a2.toNatClampNeg a1.toNatClampNeg 0 S.2.2.1 S.2.2.2.2.1).1))) := if_pos hk
    rw [← hs] at hP hD
    exact k_ri hx hb hr hlocks hP hD hS dL_runScript_19 hk.symm rfl
  ·
    have hC := c_X7_runScript_x l D g x0 (ua 0 0) (ua 1 0) (ua 2 0) (ua 3 0) (ua 4 0) (ua 5 0) (ua 6 0) H.size S.2.2.1 S.2.2.2.1 S.2.2.2.2.1 a1 a2 hst hk
    rcases kdc_runScript a1 a2 S with h1 | h1
    · exact absurd h1 hk
    · rw [h1, show ex_X7_runScript 1 = "java/lang/IllegalArgumentException" from rfl] at hC
      refine k_xc (E := "java/lang/IllegalArgumentException") (mc := 1) (ms := 6) (vx_runV (As := [.int a1, .long a2]) (rest := [.int 0, .ref o0]) ⟨hx, hb, hml, hown, hts⟩ hC (cwV 2 hts gL_runScript_X7_runScript rfl rfl rfl (by decide +kernel) (k_lvl (by omega) (by decide))) (kPVx hP hD hK hS hA hE hX [1] rfl (by decide) 1 7 rfl rfl rfl) rfl rfl hl.1 rfl (lv_room (Nat.le_of_ble_eq_true rfl)) dL_runScript_6 ⟨Nat.le_of_ble_eq_true rfl, Nat.le_of_ble_eq_true rfl⟩) hP hD hS hA [1] rfl (fun ce q9 H locs hP hS hc1 hc2 hc3 => ?_)
      refine k_catch1 (own := RL) (E := "java/lang/IllegalArgumentException") hex hown hX (by decide) (by decide) (hts _ qL_runScript_h0) (by decide +kernel) hc1 hc2 hc3 ?_
      refine lv_astore (lv' := [(5, .ref q9), (0, .ref x0), (1, .int a1), (2, .long a2), (4, .ref o0)]) hx hb dL_runScript_14 hl (by decide) rfl (fun ls hl => ?_)
      refine lv_iconst (v := 1) hx hb dL_runScript_16 (by decide) ?_
      refine W.widen (k := 1) (n := 6) (Nat.le_of_ble_eq_true rfl) (Nat.le_of_ble_eq_true rfl) ?_
      have hs : sL_runScript a1 a2 S = S := if_neg hk
      rw [← hs] at hP hD
      exact k_ri hx hb hr hlocks hP hD hS dL_runScript_17 h1.symm rfl
end
