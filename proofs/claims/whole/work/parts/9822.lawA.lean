-- THE LAW, 2: what a method of the class is for the law
noncomputable section
theorem kdc_simulate (a1 : Int64) (a2 : Int32) (S : KC) : kd_X7_simulate a2 = 0 ∨ kd_X7_simulate a2 = 1 := by
  unfold kd_X7_simulate
  try dsimp only
  repeat' split
  all_goals first | exact Or.inl rfl | exact Or.inr rfl
theorem qL_simulate_h0 : Cond.classLink RL 13 "java/lang/IllegalArgumentException" ∈ wsL_simulate := (List.mem_cons_of_mem _ (List.mem_append_left _ (List.mem_append_left _ (List.mem_append_left _ (List.mem_append_left _ (List.mem_append_left _ (List.mem_append_left _ (List.mem_of_getElem? (i := 0) rfl))))))))
set_option maxHeartbeats 4000000 in
set_option maxRecDepth 100000 in
theorem c_L_simulate (l : Launch) (D : va_G) (g : Nat → Nat) (o0 x0 : Nat) (ua ub : Nat → Nat → Nat) (sz : Nat) (S : KC) (a1 : Int64) (a2 : Int32) (hst : l.stackTraces = false) (hln : S.1 ≤ 120) (hnx : S.2.2.2.2.2.1 < 14) (hkc : S.2.2.2.2.2.2.1 ≤ 14) (hpt : ¬ 10 < S.2.2.1.1) (hp1 : S.2.2.1.1 = nI S.2.2.1.1.toNatClampNeg) (hp2 : S.2.2.1.1.toNatClampNeg ≤ 10) : kMw l D g yL_simulate wsL_simulate 40 1 6 [.ref x0, .long a1, .int a2, .ref o0] (wK g o0 x0 ua ub S) sz (kd_X7_simulate a2) (wK g o0 x0 ua ub (sL_simulate a1 a2 S)) := by
  refine k_enterW (nm := "simulate") (own := RL) (bytes := cL_simulate) (maxL := 6) (ret := (some .int)) (hh := [(0, 11, 14, 13)]) (Qf := fun A => kQi D (wK g o0 x0 ua ub (sL_simulate a1 a2 S)) A (kd_X7_simulate a2)) (by decide) rfl rfl rfl (Nat.le_of_ble_eq_true rfl) ?_
  rintro pp ee s mm below meth cc A ls args Q H locs hQ ⟨hx, hb, hr, hml, hown, hts, hlocks, hin⟩ hex hP hK hD hA hS hE hX hl
  have hl : lv_has ls 6 [(0, .ref x0), (1, .long a1), (3, .int a2), (4, .ref o0)] := hl
  subst hQ
  refine lv_aload hx hb dL_simulate_0 (lv_at hl 3 rfl) ?_
  refine lv_iconst (v := 0) hx hb dL_simulate_2 (by decide) ?_
  refine lv_aload_n hx hb dL_simulate_3 rfl (lv_at hl 0 rfl) ?_
  refine lv_lload_n hx hb dL_simulate_4 rfl (lv_at hl 1 rfl) ?_
  refine lv_iload_n hx hb dL_simulate_5 rfl (lv_at hl 2 rfl) ?_
  by_cases hk : kd_X7_simulate a2 = 0
  ·
    have hC := c_X7_simulate l D g x0 (ua 0 0) (ua 1 0) (ua 2 0) (ua 3 0) (ua 4 0) (ua 5 0) (ua 6 0) (ua 1 2) (ua 1 4) (ua 1 1) (ua 1 3) (ua 1 5) (ua 2 2) (ua 2 4) (ua 2 1) (ua 2 3) (ua 2 5) H.size S.2.2.1 S.2.2.2.1 a1 a2 hp1 hp2 hk
    obtain ⟨F1, hF1⟩ : ∃ z, z = (cSimu a1 a2 S.2.2.1 S.2.2.2.1) := ⟨_, rfl⟩
    rw [← hF1] at hC
    refine k_aiS (w2 := (wK g o0 x0 ua ub (S.1, S.2.1, S.2.2.1, F1.2, S.2.2.2.2.1, S.2.2.2.2.2.1, S.2.2.2.2.2.2.1, S.2.2.2.2.2.2.2.1, S.2.2.2.2.2.2.2.2.1, S.2.2.2.2.2.2.2.2.2.1, S.2.2.2.2.2.2.2.2.2.2.1, S.2.2.2.2.2.2.2.2.2.2.2))) (va_runV (As := [.long a1, .int a2]) (rest := [.int 0, .ref o0]) ⟨hx, hb, hml, hown, hts⟩ hC (cwV 2 hts gL_simulate_X7_simulate rfl rfl rfl (by decide +kernel) (k_lvl (by omega) (by decide))) (kPV hP hD hK hS hA hE [1, 4, 5, 6, 7, 8, 9, 10, 11, 12, 13, 14, 15] rfl (by decide) 1 7 rfl rfl rfl) rfl rfl hl.1 rfl (lv_room (Nat.le_of_ble_eq_true rfl)) dL_simulate_6 ⟨Nat.le_of_ble_eq_true rfl, Nat.le_of_ble_eq_true rfl⟩) hP hD hS hA [1, 4, 5, 6, 7, 8, 9, 10, 11, 12, 13, 14, 15] rfl (by decide) rfl (setAll_by (E := (wE g o0 x0 ua ub S)) (E2 := (wE g o0 x0 ua ub (S.1, S.2.1, S.2.2.1, F1.2, S.2.2.2.2.1, S.2.2.2.2.2.1, S.2.2.2.2.2.2.1, S.2.2.2.2.2.2.2.1, S.2.2.2.2.2.2.2.2.1, S.2.2.2.2.2.2.2.2.2.1, S.2.2.2.2.2.2.2.2.2.2.1, S.2.2.2.2.2.2.2.2.2.2.2))) (P := (wPool g ub S.2.2.2.2.2.2.2.1)) [(o0, .inl (g 4, 1, .inr (.inl S.2.2.2.2.2.2.2.2.2.2.2))), (ua 0 0, .inr (6, [.ref (ua 0 1), .int (nI S.1)])), (ua 0 1, .inl (g 1, 120, .inl S.2.1)), ((ua 3 0), .inr (4, [.ref (ua 3 2), .ref (ua 3 4), .ref (ua 3 1), .int S.2.2.2.2.1.1, .int S.2.2.2.2.1.2.1, .int S.2.2.2.2.1.2.2.1, .int S.2.2.2.2.1.2.2.2.1, .int S.2.2.2.2.1.2.2.2.2.1, .int S.2.2.2.2.1.2.2.2.2.2.1])), ((ua 3 1), .inl (g 0, 80, .inl S.2.2.2.2.1.2.2.2.2.2.2.1)), ((ua 3 2), .inr (1, [.ref (ua 3 3)])), ((ua 3 3), .inl (g 0, 480, .inl S.2.2.2.2.1.2.2.2.2.2.2.2.1)), ((ua 3 4), .inr (0, [.ref (ua 3 5), .int S.2.2.2.2.1.2.2.2.2.2.2.2.2.1])), ((ua 3 5), .inl (g 0, 60, .inl S.2.2.2.2.1.2.2.2.2.2.2.2.2.2)), (ua 4 0, .inr (3, [.ref (ua 4 1), .int (nI S.2.2.2.2.2.1), .int (nI S.2.2.2.2.2.2.1)])), (ua 4 1, .inl (g 3, 14, .inr (.inr (.inr (.inr (fun j => some (ub j 0))))))), (ua 5 0, .inl (g 3, 2, .inr (.inr (.inr (.inr (fun j => some (ua (7 + j) 0))))))), (ua 6 0, .inl (g 2, 2, .inl S.2.2.2.2.2.2.2.2.2.2.1)), ((ua 7 0), .inr (4, [.ref (ua 7 2), .ref (ua 7 4), .ref (ua 7 1), .int S.2.2.2.2.2.2.2.2.1.1, .int S.2.2.2.2.2.2.2.2.1.2.1, .int S.2.2.2.2.2.2.2.2.1.2.2.1, .int S.2.2.2.2.2.2.2.2.1.2.2.2.1, .int S.2.2.2.2.2.2.2.2.1.2.2.2.2.1, .int S.2.2.2.2.2.2.2.2.1.2.2.2.2.2.1])), ((ua 7 1), .inl (g 0, 80, .inl S.2.2.2.2.2.2.2.2.1.2.2.2.2.2.2.1)), ((ua 7 2), .inr (1, [.ref (ua 7 3)])), ((ua 7 3), .inl (g 0, 480, .inl S.2.2.2.2.2.2.2.2.1.2.2.2.2.2.2.2.1)), ((ua 7 4), .inr (0, [.ref (ua 7 5), .int S.2.2.2.2.2.2.2.2.1.2.2.2.2.2.2.2.2.1])), ((ua 7 5), .inl (g 0, 60, .inl S.2.2.2.2.2.2.2.2.1.2.2.2.2.2.2.2.2.2)), ((ua 8 0), .inr (4, [.ref (ua 8 2), .ref (ua 8 4), .ref (ua 8 1), .int S.2.2.2.2.2.2.2.2.2.1.1, .int S.2.2.2.2.2.2.2.2.2.1.2.1, .int S.2.2.2.2.2.2.2.2.2.1.2.2.1, .int S.2.2.2.2.2.2.2.2.2.1.2.2.2.1, .int S.2.2.2.2.2.2.2.2.2.1.2.2.2.2.1, .int S.2.2.2.2.2.2.2.2.2.1.2.2.2.2.2.1])), ((ua 8 1), .inl (g 0, 80, .inl S.2.2.2.2.2.2.2.2.2.1.2.2.2.2.2.2.1)), ((ua 8 2), .inr (1, [.ref (ua 8 3)])), ((ua 8 3), .inl (g 0, 480, .inl S.2.2.2.2.2.2.2.2.2.1.2.2.2.2.2.2.2.1)), ((ua 8 4), .inr (0, [.ref (ua 8 5), .int S.2.2.2.2.2.2.2.2.2.1.2.2.2.2.2.2.2.2.1])), ((ua 8 5), .inl (g 0, 60, .inl S.2.2.2.2.2.2.2.2.2.1.2.2.2.2.2.2.2.2.2))] [1, 4, 5, 6, 7, 8, 9, 10, 11, 12, 13, 14, 15] [0, 2, 3, 16, 17, 18, 19, 20, 21, 22, 23, 24, 25, 26, 27, 28, 29, 30, 31, 32, 33, 34, 35, 36, 37] 38 rfl rfl rfl (by decide) (by decide) (by decide +kernel) rfl rfl rfl) (fun H locs hP hD hS => ?_)
    refine lv_i2l (v := Int32.toInt64 (F1.1)) hx hb dL_simulate_9 rfl ?_
    refine va_last (i := 0) (x := Int32.toInt64 (F1.1)) hx hb hK hP hD hS 0 4 rfl rfl (by unfold vp_in; decide) dL_simulate_10 (fun H locs hP hD hS => ?_)
    refine lv_goto (tgt := 18) hx hb dL_simulate_11 (by decide) ?_
    refine lv_iconst (v := 0) hx hb dL_simulate_18 (by decide) ?_
    refine W.widen (k := 1) (n := 6) (Nat.le_of_ble_eq_true rfl) (Nat.le_of_ble_eq_true rfl) ?_
    have hP : va_P D vwCl (wK g o0 x0 ua ub (S.1, S.2.1, S.2.2.1, F1.2, S.2.2.2.2.1, S.2.2.2.2.2.1, S.2.2.2.2.2.2.1, S.2.2.2.2.2.2.2.1, S.2.2.2.2.2.2.2.2.1, S.2.2.2.2.2.2.2.2.2.1, S.2.2.2.2.2.2.2.2.2.2.1, vp_updL S.2.2.2.2.2.2.2.2.2.2.2 0 (Int32.toInt64 (F1.1)))) H := hP
    have hD : va_D A (wK g o0 x0 ua ub (S.1, S.2.1, S.2.2.1, F1.2, S.2.2.2.2.1, S.2.2.2.2.2.1, S.2.2.2.2.2.2.1, S.2.2.2.2.2.2.2.1, S.2.2.2.2.2.2.2.2.1, S.2.2.2.2.2.2.2.2.2.1, S.2.2.2.2.2.2.2.2.2.2.1, vp_updL S.2.2.2.2.2.2.2.2.2.2.2 0 (Int32.toInt64 (F1.1)))) := hD
    subst hF1
    have hs : sL_simulate a1 a2 S = (S.1, S.2.1, S.2.2.1, (cSimu a1 a2 S.2.2.1 S.2.2.2.1).2, S.2.2.2.2.1, S.2.2.2.2.2.1, S.2.2.2.2.2.2.1, S.2.2.2.2.2.2.2.1, S.2.2.2.2.2.2.2.2.1, S.2.2.2.2.2.2.2.2.2.1, S.2.2.2.2.2.2.2.2.2.2.1, vp_updL S.2.2.2.2.2.2.2.2.2.2.2 0 (Int32.toInt64 ((cSimu a1 a2 S.2.2.1 S.2.2.2.1).1))) := if_pos hk
    rw [← hs] at hP hD
    exact k_ri hx hb hr hlocks hP hD hS dL_simulate_19 hk.symm rfl
  ·
    have hC := c_X7_simulate_x l D g x0 (ua 0 0) (ua 1 0) (ua 2 0) (ua 3 0) (ua 4 0) (ua 5 0) (ua 6 0) H.size S.2.2.1 S.2.2.2.1 a1 a2 hst hk
    rcases kdc_simulate a1 a2 S with h1 | h1
    · exact absurd h1 hk
    · rw [h1, show ex_X7_simulate 1 = "java/lang/IllegalArgumentException" from rfl] at hC
      refine k_xc (E := "java/lang/IllegalArgumentException") (mc := 1) (ms := 6) (vx_runV (As := [.long a1, .int a2]) (rest := [.int 0, .ref o0]) ⟨hx, hb, hml, hown, hts⟩ hC (cwV 2 hts gL_simulate_X7_simulate rfl rfl rfl (by decide +kernel) (k_lvl (by omega) (by decide))) (kPVx hP hD hK hS hA hE hX [1] rfl (by decide) 1 7 rfl rfl rfl) rfl rfl hl.1 rfl (lv_room (Nat.le_of_ble_eq_true rfl)) dL_simulate_6 ⟨Nat.le_of_ble_eq_true rfl, Nat.le_of_ble_eq_true rfl⟩) hP hD hS hA [1] rfl (fun ce q9 H locs hP hS hc1 hc2 hc3 => ?_)
      refine k_catch1 (own := RL) (E := "java/lang/IllegalArgumentException") hex hown hX (by decide) (by decide) (hts _ qL_simulate_h0) (by decide +kernel) hc1 hc2 hc3 ?_
      refine lv_astore (lv' := [(5, .ref q9), (0, .ref x0), (1, .long a1), (3, .int a2), (4, .ref o0)]) hx hb dL_simulate_14 hl (by decide) rfl (fun ls hl => ?_)
      refine lv_iconst (v := 1) hx hb dL_simulate_16 (by decide) ?_
      refine W.widen (k := 1) (n := 6) (Nat.le_of_ble_eq_true rfl) (Nat.le_of_ble_eq_true rfl) ?_
      have hs : sL_simulate a1 a2 S = S := if_neg hk
      rw [← hs] at hP hD
      exact k_ri hx hb hr hlocks hP hD hS dL_simulate_17 h1.symm rfl
theorem kdc_save (a1 : Int32) (S : KC) : kd_X7_save a1 = 0 ∨ kd_X7_save a1 = 1 := by
  unfold kd_X7_save
  try dsimp only
  repeat' split
  all_goals first | exact Or.inl rfl | exact Or.inr rfl
theorem qL_save_h0 : Cond.classLink RL 28 "java/lang/IndexOutOfBoundsException" ∈ wsL_save := (List.mem_cons_of_mem _ (List.mem_append_left _ (List.mem_append_left _ (List.mem_append_left _ (List.mem_append_left _ (List.mem_append_left _ (List.mem_append_left _ (List.mem_of_getElem? (i := 0) rfl))))))))
set_option maxHeartbeats 4000000 in
set_option maxRecDepth 100000 in
theorem c_L_save (l : Launch) (D : va_G) (g : Nat → Nat) (o0 x0 : Nat) (ua ub : Nat → Nat → Nat) (sz : Nat) (S : KC) (a1 : Int32) (hst : l.stackTraces = false) (hln : S.1 ≤ 120) (hnx : S.2.2.2.2.2.1 < 14) (hkc : S.2.2.2.2.2.2.1 ≤ 14) (hpt : ¬ 10 < S.2.2.1.1) (hp1 : S.2.2.1.1 = nI S.2.2.1.1.toNatClampNeg) (hp2 : S.2.2.1.1.toNatClampNeg ≤ 10) : kMw l D g yL_save wsL_save 40 1 6 [.ref x0, .int a1, .ref o0] (wK g o0 x0 ua ub S) sz (kd_X7_save a1) (wK g o0 x0 ua ub (sL_save a1 S)) := by
  refine k_enterW (nm := "save") (own := RL) (bytes := cL_save) (maxL := 4) (ret := (some .int)) (hh := [(0, 9, 12, 28)]) (Qf := fun A => kQi D (wK g o0 x0 ua ub (sL_save a1 S)) A (kd_X7_save a1)) (by decide) rfl rfl rfl (Nat.le_of_ble_eq_true rfl) ?_
  rintro pp ee s mm below meth cc A ls args Q H locs hQ ⟨hx, hb, hr, hml, hown, hts, hlocks, hin⟩ hex hP hK hD hA hS hE hX hl
  have hl : lv_has ls 4 [(0, .ref x0), (1, .int a1), (2, .ref o0)] := hl
  subst hQ
  refine lv_aload_n hx hb dL_save_0 rfl (lv_at hl 2 rfl) ?_
  refine lv_iconst (v := 0) hx hb dL_save_1 (by decide) ?_
  refine lv_aload_n hx hb dL_save_2 rfl (lv_at hl 0 rfl) ?_
  refine lv_iload_n hx hb dL_save_3 rfl (lv_at hl 1 rfl) ?_
  by_cases hk : kd_X7_save a1 = 0
  · rcases slot_save a1 S hk with rfl | rfl
    ·
      have hC := c_X7_save_0 l D g x0 (ua 0 0) (ua 1 0) (ua 2 0) (ua 3 0) (ua 4 0) (ua 5 0) (ua 6 0) (ua 1 2) (ua 1 4) (ua 1 1) (ua 1 3) (ua 1 5) (ua 7 0) (ua 7 2) (ua 7 4) (ua 7 1) (ua 7 3) (ua 7 5) H.size S.2.2.1 (fun j => some (ua (7 + j) 0)) S.2.2.2.2.2.2.2.2.1 S.2.2.2.2.2.2.2.2.2.2.1 rfl
      obtain ⟨F1, hF1⟩ : ∃ z, z = (f_X7_save_0 S.2.2.1 S.2.2.2.2.2.2.2.2.2.2.1) := ⟨_, rfl⟩
      rw [← hF1] at hC
      refine k_aiS (w2 := (wK g o0 x0 ua ub (S.1, S.2.1, S.2.2.1, S.2.2.2.1, S.2.2.2.2.1, S.2.2.2.2.2.1, S.2.2.2.2.2.2.1, S.2.2.2.2.2.2.2.1, F1.2.1, S.2.2.2.2.2.2.2.2.2.1, F1.2.2, S.2.2.2.2.2.2.2.2.2.2.2))) (va_runV (As := [.int 0]) (rest := [.int 0, .ref o0]) ⟨hx, hb, hml, hown, hts⟩ hC (cwV 1 hts gL_save_X7_save rfl rfl rfl (by decide +kernel) (k_lvl (by omega) (by decide))) (kPV hP hD hK hS hA hE [1, 4, 5, 6, 7, 8, 9, 24, 26, 27, 28, 29, 30, 31, 25] rfl (by decide) 1 7 rfl rfl rfl) rfl rfl hl.1 rfl (lv_room (Nat.le_of_ble_eq_true rfl)) dL_save_4 ⟨Nat.le_of_ble_eq_true rfl, Nat.le_of_ble_eq_true rfl⟩) hP hD hS hA [1, 4, 5, 6, 7, 8, 9, 24, 26, 27, 28, 29, 30, 31, 25] rfl (by decide) rfl (setAll_by (E := (wE g o0 x0 ua ub S)) (E2 := (wE g o0 x0 ua ub (S.1, S.2.1, S.2.2.1, S.2.2.2.1, S.2.2.2.2.1, S.2.2.2.2.2.1, S.2.2.2.2.2.2.1, S.2.2.2.2.2.2.2.1, F1.2.1, S.2.2.2.2.2.2.2.2.2.1, F1.2.2, S.2.2.2.2.2.2.2.2.2.2.2))) (P := (wPool g ub S.2.2.2.2.2.2.2.1)) [(o0, .inl (g 4, 1, .inr (.inl S.2.2.2.2.2.2.2.2.2.2.2))), (ua 0 0, .inr (6, [.ref (ua 0 1), .int (nI S.1)])), (ua 0 1, .inl (g 1, 120, .inl S.2.1)), ((ua 2 0), .inr (4, [.ref (ua 2 2), .ref (ua 2 4), .ref (ua 2 1), .int S.2.2.2.1.1, .int S.2.2.2.1.2.1, .int S.2.2.2.1.2.2.1, .int S.2.2.2.1.2.2.2.1, .int S.2.2.2.1.2.2.2.2.1, .int S.2.2.2.1.2.2.2.2.2.1])), ((ua 2 1), .inl (g 0, 80, .inl S.2.2.2.1.2.2.2.2.2.2.1)), ((ua 2 2), .inr (1, [.ref (ua 2 3)])), ((ua 2 3), .inl (g 0, 480, .inl S.2.2.2.1.2.2.2.2.2.2.2.1)), ((ua 2 4), .inr (0, [.ref (ua 2 5), .int S.2.2.2.1.2.2.2.2.2.2.2.2.1])), ((ua 2 5), .inl (g 0, 60, .inl S.2.2.2.1.2.2.2.2.2.2.2.2.2)), ((ua 3 0), .inr (4, [.ref (ua 3 2), .ref (ua 3 4), .ref (ua 3 1), .int S.2.2.2.2.1.1, .int S.2.2.2.2.1.2.1, .int S.2.2.2.2.1.2.2.1, .int S.2.2.2.2.1.2.2.2.1, .int S.2.2.2.2.1.2.2.2.2.1, .int S.2.2.2.2.1.2.2.2.2.2.1])), ((ua 3 1), .inl (g 0, 80, .inl S.2.2.2.2.1.2.2.2.2.2.2.1)), ((ua 3 2), .inr (1, [.ref (ua 3 3)])), ((ua 3 3), .inl (g 0, 480, .inl S.2.2.2.2.1.2.2.2.2.2.2.2.1)), ((ua 3 4), .inr (0, [.ref (ua 3 5), .int S.2.2.2.2.1.2.2.2.2.2.2.2.2.1])), ((ua 3 5), .inl (g 0, 60, .inl S.2.2.2.2.1.2.2.2.2.2.2.2.2.2)), (ua 4 0, .inr (3, [.ref (ua 4 1), .int (nI S.2.2.2.2.2.1), .int (nI S.2.2.2.2.2.2.1)])), (ua 4 1, .inl (g 3, 14, .inr (.inr (.inr (.inr (fun j => some (ub j 0))))))), ((ua 8 0), .inr (4, [.ref (ua 8 2), .ref (ua 8 4), .ref (ua 8 1), .int S.2.2.2.2.2.2.2.2.2.1.1, .int S.2.2.2.2.2.2.2.2.2.1.2.1, .int S.2.2.2.2.2.2.2.2.2.1.2.2.1, .int S.2.2.2.2.2.2.2.2.2.1.2.2.2.1, .int S.2.2.2.2.2.2.2.2.2.1.2.2.2.2.1, .int S.2.2.2.2.2.2.2.2.2.1.2.2.2.2.2.1])), ((ua 8 1), .inl (g 0, 80, .inl S.2.2.2.2.2.2.2.2.2.1.2.2.2.2.2.2.1)), ((ua 8 2), .inr (1, [.ref (ua 8 3)])), ((ua 8 3), .inl (g 0, 480, .inl S.2.2.2.2.2.2.2.2.2.1.2.2.2.2.2.2.2.1)), ((ua 8 4), .inr (0, [.ref (ua 8 5), .int S.2.2.2.2.2.2.2.2.2.1.2.2.2.2.2.2.2.2.1])), ((ua 8 5), .inl (g 0, 60, .inl S.2.2.2.2.2.2.2.2.2.1.2.2.2.2.2.2.2.2.2))] [1, 4, 5, 6, 7, 8, 9, 24, 26, 27, 28, 29, 30, 31, 25] [0, 2, 3, 10, 11, 12, 13, 14, 15, 16, 17, 18, 19, 20, 21, 22, 23, 32, 33, 34, 35, 36, 37] 38 rfl rfl rfl (by decide) (by decide) (by decide +kernel) rfl rfl rfl) (fun H locs hP hD hS => ?_)
      refine lv_i2l (v := Int32.toInt64 (F1.1)) hx hb dL_save_7 rfl ?_
      refine va_last (i := 0) (x := Int32.toInt64 (F1.1)) hx hb hK hP hD hS 0 4 rfl rfl (by unfold vp_in; decide) dL_save_8 (fun H locs hP hD hS => ?_)
      refine lv_goto (tgt := 15) hx hb dL_save_9 (by decide) ?_
      refine lv_iconst (v := 0) hx hb dL_save_15 (by decide) ?_
      refine W.widen (k := 1) (n := 6) (Nat.le_of_ble_eq_true rfl) (Nat.le_of_ble_eq_true rfl) ?_
      have hP : va_P D vwCl (wK g o0 x0 ua ub (S.1, S.2.1, S.2.2.1, S.2.2.2.1, S.2.2.2.2.1, S.2.2.2.2.2.1, S.2.2.2.2.2.2.1, S.2.2.2.2.2.2.2.1, F1.2.1, S.2.2.2.2.2.2.2.2.2.1, F1.2.2, vp_updL S.2.2.2.2.2.2.2.2.2.2.2 0 (Int32.toInt64 (F1.1)))) H := hP
      have hD : va_D A (wK g o0 x0 ua ub (S.1, S.2.1, S.2.2.1, S.2.2.2.1, S.2.2.2.2.1, S.2.2.2.2.2.1, S.2.2.2.2.2.2.1, S.2.2.2.2.2.2.2.1, F1.2.1, S.2.2.2.2.2.2.2.2.2.1, F1.2.2, vp_updL S.2.2.2.2.2.2.2.2.2.2.2 0 (Int32.toInt64 (F1.1)))) := hD
      subst hF1
      have hs : sL_save 0 S = (S.1, S.2.1, S.2.2.1, S.2.2.2.1, S.2.2.2.2.1, S.2.2.2.2.2.1, S.2.2.2.2.2.2.1, S.2.2.2.2.2.2.2.1, (f_X7_save_0 S.2.2.1 S.2.2.2.2.2.2.2.2.2.2.1).2.1, S.2.2.2.2.2.2.2.2.2.1, (f_X7_save_0 S.2.2.1 S.2.2.2.2.2.2.2.2.2.2.1).2.2, vp_updL S.2.2.2.2.2.2.2.2.2.2.2 0 (Int32.toInt64 ((f_X7_save_0 S.2.2.1 S.2.2.2.2.2.2.2.2.2.2.1).1))) := (if_pos hk).trans (if_pos rfl)
      rw [← hs] at hP hD
      exact k_ri hx hb hr hlocks hP hD hS dL_save_16 hk.symm rfl
    ·
      have hC := c_X7_save_1 l D g x0 (ua 0 0) (ua 1 0) (ua 2 0) (ua 3 0) (ua 4 0) (ua 5 0) (ua 6 0) (ua 1 2) (ua 1 4) (ua 1 1) (ua 1 3) (ua 1 5) (ua 8 0) (ua 8 2) (ua 8 4) (ua 8 1) (ua 8 3) (ua 8 5) H.size S.2.2.1 (fun j => some (ua (7 + j) 0)) S.2.2.2.2.2.2.2.2.2.1 S.2.2.2.2.2.2.2.2.2.2.1 rfl
      obtain ⟨F1, hF1⟩ : ∃ z, z = (f_X7_save_1 S.2.2.1 S.2.2.2.2.2.2.2.2.2.2.1) := ⟨_, rfl⟩
      rw [← hF1] at hC
      refine k_aiS (w2 := (wK g o0 x0 ua ub (S.1, S.2.1, S.2.2.1, S.2.2.2.1, S.2.2.2.2.1, S.2.2.2.2.2.1, S.2.2.2.2.2.2.1, S.2.2.2.2.2.2.2.1, S.2.2.2.2.2.2.2.2.1, F1.2.1, F1.2.2, S.2.2.2.2.2.2.2.2.2.2.2))) (va_runV (As := [.int 1]) (rest := [.int 0, .ref o0]) ⟨hx, hb, hml, hown, hts⟩ hC (cwV 1 hts gL_save_X7_save rfl rfl rfl (by decide +kernel) (k_lvl (by omega) (by decide))) (kPV hP hD hK hS hA hE [1, 4, 5, 6, 7, 8, 9, 24, 32, 33, 34, 35, 36, 37, 25] rfl (by decide) 1 7 rfl rfl rfl) rfl rfl hl.1 rfl (lv_room (Nat.le_of_ble_eq_true rfl)) dL_save_4 ⟨Nat.le_of_ble_eq_true rfl, Nat.le_of_ble_eq_true rfl⟩) hP hD hS hA [1, 4, 5, 6, 7, 8, 9, 24, 32, 33, 34, 35, 36, 37, 25] rfl (by decide) rfl (setAll_by (E := (wE g o0 x0 ua ub S)) (E2 := (wE g o0 x0 ua ub (S.1, S.2.1, S.2.2.1, S.2.2.2.1, S.2.2.2.2.1, S.2.2.2.2.2.1, S.2.2.2.2.2.2.1, S.2.2.2.2.2.2.2.1, S.2.2.2.2.2.2.2.2.1, F1.2.1, F1.2.2, S.2.2.2.2.2.2.2.2.2.2.2))) (P := (wPool g ub S.2.2.2.2.2.2.2.1)) [(o0, .inl (g 4, 1, .inr (.inl S.2.2.2.2.2.2.2.2.2.2.2))), (ua 0 0, .inr (6, [.ref (ua 0 1), .int (nI S.1)])), (ua 0 1, .inl (g 1, 120, .inl S.2.1)), ((ua 2 0), .inr (4, [.ref (ua 2 2), .ref (ua 2 4), .ref (ua 2 1), .int S.2.2.2.1.1, .int S.2.2.2.1.2.1, .int S.2.2.2.1.2.2.1, .int S.2.2.2.1.2.2.2.1, .int S.2.2.2.1.2.2.2.2.1, .int S.2.2.2.1.2.2.2.2.2.1])), ((ua 2 1), .inl (g 0, 80, .inl S.2.2.2.1.2.2.2.2.2.2.1)), ((ua 2 2), .inr (1, [.ref (ua 2 3)])), ((ua 2 3), .inl (g 0, 480, .inl S.2.2.2.1.2.2.2.2.2.2.2.1)), ((ua 2 4), .inr (0, [.ref (ua 2 5), .int S.2.2.2.1.2.2.2.2.2.2.2.2.1])), ((ua 2 5), .inl (g 0, 60, .inl S.2.2.2.1.2.2.2.2.2.2.2.2.2)), ((ua 3 0), .inr (4, [.ref (ua 3 2), .ref (ua 3 4), .ref (ua 3 1), .int S.2.2.2.2.1.1, .int S.2.2.2.2.1.2.1, .int S.2.2.2.2.1.2.2.1, .int S.2.2.2.2.1.2.2.2.1, .int S.2.2.2.2.1.2.2.2.2.1, .int S.2.2.2.2.1.2.2.2.2.2.1])), ((ua 3 1), .inl (g 0, 80, .inl S.2.2.2.2.1.2.2.2.2.2.2.1)), ((ua 3 2), .inr (1, [.ref (ua 3 3)])), ((ua 3 3), .inl (g 0, 480, .inl S.2.2.2.2.1.2.2.2.2.2.2.2.1)), ((ua 3 4), .inr (0, [.ref (ua 3 5), .int S.2.2.2.2.1.2.2.2.2.2.2.2.2.1])), ((ua 3 5), .inl (g 0, 60, .inl S.2.2.2.2.1.2.2.2.2.2.2.2.2.2)), (ua 4 0, .inr (3, [.ref (ua 4 1), .int (nI S.2.2.2.2.2.1), .int (nI S.2.2.2.2.2.2.1)])), (ua 4 1, .inl (g 3, 14, .inr (.inr (.inr (.inr (fun j => some (ub j 0))))))), ((ua 7 0), .inr (4, [.ref (ua 7 2), .ref (ua 7 4), .ref (ua 7 1), .int S.2.2.2.2.2.2.2.2.1.1, .int S.2.2.2.2.2.2.2.2.1.2.1, .int S.2.2.2.2.2.2.2.2.1.2.2.1, .int S.2.2.2.2.2.2.2.2.1.2.2.2.1, .int S.2.2.2.2.2.2.2.2.1.2.2.2.2.1, .int S.2.2.2.2.2.2.2.2.1.2.2.2.2.2.1])), ((ua 7 1), .inl (g 0, 80, .inl S.2.2.2.2.2.2.2.2.1.2.2.2.2.2.2.1)), ((ua 7 2), .inr (1, [.ref (ua 7 3)])), ((ua 7 3), .inl (g 0, 480, .inl S.2.2.2.2.2.2.2.2.1.2.2.2.2.2.2.2.1)), ((ua 7 4), .inr (0, [.ref (ua 7 5), .int S.2.2.2.2.2.2.2.2.1.2.2.2.2.2.2.2.2.1])), ((ua 7 5), .inl (g 0, 60, .inl S.2.2.2.2.2.2.2.2.1.2.2.2.2.2.2.2.2.2))] [1, 4, 5, 6, 7, 8, 9, 24, 32, 33, 34, 35, 36, 37, 25] [0, 2, 3, 10, 11, 12, 13, 14, 15, 16, 17, 18, 19, 20, 21, 22, 23, 26, 27, 28, 29, 30, 31] 38 rfl rfl rfl (by decide) (by decide) (by decide +kernel) rfl rfl rfl) (fun H locs hP hD hS => ?_)
      refine lv_i2l (v := Int32.toInt64 (F1.1)) hx hb dL_save_7 rfl ?_
      refine va_last (i := 0) (x := Int32.toInt64 (F1.1)) hx hb hK hP hD hS 0 4 rfl rfl (by unfold vp_in; decide) dL_save_8 (fun H locs hP hD hS => ?_)
      refine lv_goto (tgt := 15) hx hb dL_save_9 (by decide) ?_
      refine lv_iconst (v := 0) hx hb dL_save_15 (by decide) ?_
      refine W.widen (k := 1) (n := 6) (Nat.le_of_ble_eq_true rfl) (Nat.le_of_ble_eq_true rfl) ?_
      have hP : va_P D vwCl (wK g o0 x0 ua ub (S.1, S.2.1, S.2.2.1, S.2.2.2.1, S.2.2.2.2.1, S.2.2.2.2.2.1, S.2.2.2.2.2.2.1, S.2.2.2.2.2.2.2.1, S.2.2.2.2.2.2.2.2.1, F1.2.1, F1.2.2, vp_updL S.2.2.2.2.2.2.2.2.2.2.2 0 (Int32.toInt64 (F1.1)))) H := hP
      have hD : va_D A (wK g o0 x0 ua ub (S.1, S.2.1, S.2.2.1, S.2.2.2.1, S.2.2.2.2.1, S.2.2.2.2.2.1, S.2.2.2.2.2.2.1, S.2.2.2.2.2.2.2.1, S.2.2.2.2.2.2.2.2.1, F1.2.1, F1.2.2, vp_updL S.2.2.2.2.2.2.2.2.2.2.2 0 (Int32.toInt64 (F1.1)))) := hD
      subst hF1
      have hs : sL_save 1 S = (S.1, S.2.1, S.2.2.1, S.2.2.2.1, S.2.2.2.2.1, S.2.2.2.2.2.1, S.2.2.2.2.2.2.1, S.2.2.2.2.2.2.2.1, S.2.2.2.2.2.2.2.2.1, (f_X7_save_1 S.2.2.1 S.2.2.2.2.2.2.2.2.2.2.1).2.1, (f_X7_save_1 S.2.2.1 S.2.2.2.2.2.2.2.2.2.2.1).2.2, vp_updL S.2.2.2.2.2.2.2.2.2.2.2 0 (Int32.toInt64 ((f_X7_save_1 S.2.2.1 S.2.2.2.2.2.2.2.2.2.2.1).1))) := (if_pos hk).trans (if_neg (by decide))
      rw [← hs] at hP hD
      exact k_ri hx hb hr hlocks hP hD hS dL_save_16 hk.symm rfl
  ·
    have hC := c_X7_save_x l D g x0 (ua 0 0) (ua 1 0) (ua 2 0) (ua 3 0) (ua 4 0) (ua 5 0) (ua 6 0) H.size a1 hst hk
    rcases kdc_save a1 S with h1 | h1
    · exact absurd h1 hk
    · rw [h1, show ex_X7_save 1 = "java/lang/IndexOutOfBoundsException" from rfl] at hC
      refine k_xc (E := "java/lang/IndexOutOfBoundsException") (mc := 1) (ms := 6) (vx_runV (As := [.int a1]) (rest := [.int 0, .ref o0]) ⟨hx, hb, hml, hown, hts⟩ hC (cwV 1 hts gL_save_X7_save rfl rfl rfl (by decide +kernel) (k_lvl (by omega) (by decide))) (kPVx hP hD hK hS hA hE hX [1] rfl (by decide) 1 7 rfl rfl rfl) rfl rfl hl.1 rfl (lv_room (Nat.le_of_ble_eq_true rfl)) dL_save_4 ⟨Nat.le_of_ble_eq_true rfl, Nat.le_of_ble_eq_true rfl⟩) hP hD hS hA [1] rfl (fun ce q9 H locs hP hS hc1 hc2 hc3 => ?_)
      refine k_catch1 (own := RL) (E := "java/lang/IndexOutOfBoundsException") hex hown hX (by decide) (by decide) (hts _ qL_save_h0) (by decide +kernel) hc1 hc2 hc3 ?_
      refine lv_astore_n (lv' := [(3, .ref q9), (0, .ref x0), (1, .int a1), (2, .ref o0)]) hx hb dL_save_12 rfl hl (by decide) rfl (fun ls hl => ?_)
      refine lv_iconst (v := 1) hx hb dL_save_13 (by decide) ?_
      refine W.widen (k := 1) (n := 6) (Nat.le_of_ble_eq_true rfl) (Nat.le_of_ble_eq_true rfl) ?_
      have hs : sL_save a1 S = S := if_neg hk
      rw [← hs] at hP hD
      exact k_ri hx hb hr hlocks hP hD hS dL_save_14 h1.symm rfl
theorem kdc_restore (a1 : Int32) (S : KC) : kd_X7_restore S.2.2.2.2.2.2.2.2.2.2.1 a1 = 0 ∨ kd_X7_restore S.2.2.2.2.2.2.2.2.2.2.1 a1 = 1 ∨ kd_X7_restore S.2.2.2.2.2.2.2.2.2.2.1 a1 = 2 := by
  unfold kd_X7_restore
  try dsimp only
  repeat' split
  all_goals first | exact Or.inl rfl | exact Or.inr (Or.inl rfl) | exact Or.inr (Or.inr rfl)
theorem qL_restore_h0 : Cond.classLink RL 28 "java/lang/IndexOutOfBoundsException" ∈ wsL_restore := (List.mem_cons_of_mem _ (List.mem_append_left _ (List.mem_append_left _ (List.mem_append_left _ (List.mem_append_left _ (List.mem_append_left _ (List.mem_append_left _ (List.mem_append_left _ (List.mem_append_left _ (List.mem_of_getElem? (i := 0) rfl))))))))))
theorem qL_restore_h1 : Cond.classLink RL 15 "java/lang/IllegalStateException" ∈ wsL_restore := (List.mem_cons_of_mem _ (List.mem_append_left _ (List.mem_append_left _ (List.mem_append_left _ (List.mem_append_left _ (List.mem_append_left _ (List.mem_append_left _ (List.mem_append_left _ (List.mem_append_left _ (List.mem_of_getElem? (i := 1) rfl))))))))))
set_option maxHeartbeats 4000000 in
set_option maxRecDepth 100000 in
theorem c_L_restore (l : Launch) (D : va_G) (g : Nat → Nat) (o0 x0 : Nat) (ua ub : Nat → Nat → Nat) (sz : Nat) (S : KC) (a1 : Int32) (hst : l.stackTraces = false) (hln : S.1 ≤ 120) (hnx : S.2.2.2.2.2.1 < 14) (hkc : S.2.2.2.2.2.2.1 ≤ 14) (hpt : ¬ 10 < S.2.2.1.1) (hp1 : S.2.2.1.1 = nI S.2.2.1.1.toNatClampNeg) (hp2 : S.2.2.1.1.toNatClampNeg ≤ 10) : kMw l D g yL_restore wsL_restore 40 1 6 [.ref x0, .int a1, .ref o0] (wK g o0 x0 ua ub S) sz (kd_X7_restore S.2.2.2.2.2.2.2.2.2.2.1 a1) (wK g o0 x0 ua ub (sL_restore a1 S)) := by
  refine k_enterW (nm := "restore") (own := RL) (bytes := cL_restore) (maxL := 4) (ret := (some .int)) (hh := [(0, 9, 12, 28), (0, 9, 15, 15)]) (Qf := fun A => kQi D (wK g o0 x0 ua ub (sL_restore a1 S)) A (kd_X7_restore S.2.2.2.2.2.2.2.2.2.2.1 a1)) (by decide) rfl rfl rfl (Nat.le_of_ble_eq_true rfl) ?_
  rintro pp ee s mm below meth cc A ls args Q H locs hQ ⟨hx, hb, hr, hml, hown, hts, hlocks, hin⟩ hex hP hK hD hA hS hE hX hl
  have hl : lv_has ls 4 [(0, .ref x0), (1, .int a1), (2, .ref o0)] := hl
  subst hQ
  refine lv_aload_n hx hb dL_restore_0 rfl (lv_at hl 2 rfl) ?_
  refine lv_iconst (v := 0) hx hb dL_restore_1 (by decide) ?_
  refine lv_aload_n hx hb dL_restore_2 rfl (lv_at hl 0 rfl) ?_
  refine lv_iload_n hx hb dL_restore_3 rfl (lv_at hl 1 rfl) ?_
  by_cases hk : kd_X7_restore S.2.2.2.2.2.2.2.2.2.2.1 a1 = 0
  · rcases slot_restore a1 S hk with rfl | rfl
    ·
      have hfl : ¬ S.2.2.2.2.2.2.2.2.2.2.1 0 = 0 := full_restore hk
      have hC := c_X7_restore_0 l D g x0 (ua 0 0) (ua 1 0) (ua 2 0) (ua 3 0) (ua 4 0) (ua 5 0) (ua 6 0) (ua 1 2) (ua 1 4) (ua 1 1) (ua 1 3) (ua 1 5) (ua 4 1) (ua 7 0) (ua 7 2) (ua 7 4) (ua 7 1) (ua 7 3) (ua 7 5) H.size S.2.2.1 S.2.2.2.2.2.1 S.2.2.2.2.2.2.1 (fun j => some (ua (7 + j) 0)) S.2.2.2.2.2.2.2.2.1 S.2.2.2.2.2.2.2.2.2.2.1 rfl hfl
      obtain ⟨F1, hF1⟩ : ∃ z, z = (f_X7_restore_0 S.2.2.2.2.2.2.2.2.1) := ⟨_, rfl⟩
      rw [← hF1] at hC
      refine k_aiS (w2 := (wK g o0 x0 ua ub (S.1, S.2.1, F1.2, S.2.2.2.1, S.2.2.2.2.1, S.2.2.2.2.2.1, 0, S.2.2.2.2.2.2.2.1, S.2.2.2.2.2.2.2.2.1, S.2.2.2.2.2.2.2.2.2.1, S.2.2.2.2.2.2.2.2.2.2.1, S.2.2.2.2.2.2.2.2.2.2.2))) (va_runV (As := [.int 0]) (rest := [.int 0, .ref o0]) ⟨hx, hb, hml, hown, hts⟩ hC (cwV 1 hts gL_restore_X7_restore rfl rfl rfl (by decide +kernel) (k_lvl (by omega) (by decide))) (kPV hP hD hK hS hA hE [1, 4, 5, 6, 7, 8, 9, 22, 24, 26, 27, 28, 29, 30, 31, 25] rfl (by decide +kernel) 1 7 rfl rfl rfl) rfl rfl hl.1 rfl (lv_room (Nat.le_of_ble_eq_true rfl)) dL_restore_4 ⟨Nat.le_of_ble_eq_true rfl, Nat.le_of_ble_eq_true rfl⟩) hP hD hS hA [1, 4, 5, 6, 7, 8, 9, 22, 24, 26, 27, 28, 29, 30, 31, 25] rfl (by decide +kernel) rfl (setAll_by (E := (wE g o0 x0 ua ub S)) (E2 := (wE g o0 x0 ua ub (S.1, S.2.1, F1.2, S.2.2.2.1, S.2.2.2.2.1, S.2.2.2.2.2.1, 0, S.2.2.2.2.2.2.2.1, S.2.2.2.2.2.2.2.2.1, S.2.2.2.2.2.2.2.2.2.1, S.2.2.2.2.2.2.2.2.2.2.1, S.2.2.2.2.2.2.2.2.2.2.2))) (P := (wPool g ub S.2.2.2.2.2.2.2.1)) [(o0, .inl (g 4, 1, .inr (.inl S.2.2.2.2.2.2.2.2.2.2.2))), (ua 0 0, .inr (6, [.ref (ua 0 1), .int (nI S.1)])), (ua 0 1, .inl (g 1, 120, .inl S.2.1)), ((ua 2 0), .inr (4, [.ref (ua 2 2), .ref (ua 2 4), .ref (ua 2 1), .int S.2.2.2.1.1, .int S.2.2.2.1.2.1, .int S.2.2.2.1.2.2.1, .int S.2.2.2.1.2.2.2.1, .int S.2.2.2.1.2.2.2.2.1, .int S.2.2.2.1.2.2.2.2.2.1])), ((ua 2 1), .inl (g 0, 80, .inl S.2.2.2.1.2.2.2.2.2.2.1)), ((ua 2 2), .inr (1, [.ref (ua 2 3)])), ((ua 2 3), .inl (g 0, 480, .inl S.2.2.2.1.2.2.2.2.2.2.2.1)), ((ua 2 4), .inr (0, [.ref (ua 2 5), .int S.2.2.2.1.2.2.2.2.2.2.2.2.1])), ((ua 2 5), .inl (g 0, 60, .inl S.2.2.2.1.2.2.2.2.2.2.2.2.2)), ((ua 3 0), .inr (4, [.ref (ua 3 2), .ref (ua 3 4), .ref (ua 3 1), .int S.2.2.2.2.1.1, .int S.2.2.2.2.1.2.1, .int S.2.2.2.2.1.2.2.1, .int S.2.2.2.2.1.2.2.2.1, .int S.2.2.2.2.1.2.2.2.2.1, .int S.2.2.2.2.1.2.2.2.2.2.1])), ((ua 3 1), .inl (g 0, 80, .inl S.2.2.2.2.1.2.2.2.2.2.2.1)), ((ua 3 2), .inr (1, [.ref (ua 3 3)])), ((ua 3 3), .inl (g 0, 480, .inl S.2.2.2.2.1.2.2.2.2.2.2.2.1)), ((ua 3 4), .inr (0, [.ref (ua 3 5), .int S.2.2.2.2.1.2.2.2.2.2.2.2.2.1])), ((ua 3 5), .inl (g 0, 60, .inl S.2.2.2.2.1.2.2.2.2.2.2.2.2.2)), (ua 4 1, .inl (g 3, 14, .inr (.inr (.inr (.inr (fun j => some (ub j 0))))))), ((ua 8 0), .inr (4, [.ref (ua 8 2), .ref (ua 8 4), .ref (ua 8 1), .int S.2.2.2.2.2.2.2.2.2.1.1, .int S.2.2.2.2.2.2.2.2.2.1.2.1, .int S.2.2.2.2.2.2.2.2.2.1.2.2.1, .int S.2.2.2.2.2.2.2.2.2.1.2.2.2.1, .int S.2.2.2.2.2.2.2.2.2.1.2.2.2.2.1, .int S.2.2.2.2.2.2.2.2.2.1.2.2.2.2.2.1])), ((ua 8 1), .inl (g 0, 80, .inl S.2.2.2.2.2.2.2.2.2.1.2.2.2.2.2.2.1)), ((ua 8 2), .inr (1, [.ref (ua 8 3)])), ((ua 8 3), .inl (g 0, 480, .inl S.2.2.2.2.2.2.2.2.2.1.2.2.2.2.2.2.2.1)), ((ua 8 4), .inr (0, [.ref (ua 8 5), .int S.2.2.2.2.2.2.2.2.2.1.2.2.2.2.2.2.2.2.1])), ((ua 8 5), .inl (g 0, 60, .inl S.2.2.2.2.2.2.2.2.2.1.2.2.2.2.2.2.2.2.2))] [1, 4, 5, 6, 7, 8, 9, 22, 24, 26, 27, 28, 29, 30, 31, 25] [0, 2, 3, 10, 11, 12, 13, 14, 15, 16, 17, 18, 19, 20, 21, 23, 32, 33, 34, 35, 36, 37] 38 rfl rfl rfl (by decide) (by decide) (by decide +kernel) rfl rfl rfl) (fun H locs hP hD hS => ?_)
      refine lv_i2l (v := Int32.toInt64 (F1.1)) hx hb dL_restore_7 rfl ?_
      refine va_last (i := 0) (x := Int32.toInt64 (F1.1)) hx hb hK hP hD hS 0 4 rfl rfl (by unfold vp_in; decide) dL_restore_8 (fun H locs hP hD hS => ?_)
      refine lv_goto (tgt := 18) hx hb dL_restore_9 (by decide) ?_
      refine lv_iconst (v := 0) hx hb dL_restore_18 (by decide) ?_
      refine W.widen (k := 1) (n := 6) (Nat.le_of_ble_eq_true rfl) (Nat.le_of_ble_eq_true rfl) ?_
      have hP : va_P D vwCl (wK g o0 x0 ua ub (S.1, S.2.1, F1.2, S.2.2.2.1, S.2.2.2.2.1, S.2.2.2.2.2.1, 0, S.2.2.2.2.2.2.2.1, S.2.2.2.2.2.2.2.2.1, S.2.2.2.2.2.2.2.2.2.1, S.2.2.2.2.2.2.2.2.2.2.1, vp_updL S.2.2.2.2.2.2.2.2.2.2.2 0 (Int32.toInt64 (F1.1)))) H := hP
      have hD : va_D A (wK g o0 x0 ua ub (S.1, S.2.1, F1.2, S.2.2.2.1, S.2.2.2.2.1, S.2.2.2.2.2.1, 0, S.2.2.2.2.2.2.2.1, S.2.2.2.2.2.2.2.2.1, S.2.2.2.2.2.2.2.2.2.1, S.2.2.2.2.2.2.2.2.2.2.1, vp_updL S.2.2.2.2.2.2.2.2.2.2.2 0 (Int32.toInt64 (F1.1)))) := hD
      subst hF1
      have hs : sL_restore 0 S = (S.1, S.2.1, (f_X7_restore_0 S.2.2.2.2.2.2.2.2.1).2, S.2.2.2.1, S.2.2.2.2.1, S.2.2.2.2.2.1, 0, S.2.2.2.2.2.2.2.1, S.2.2.2.2.2.2.2.2.1, S.2.2.2.2.2.2.2.2.2.1, S.2.2.2.2.2.2.2.2.2.2.1, vp_updL S.2.2.2.2.2.2.2.2.2.2.2 0 (Int32.toInt64 ((f_X7_restore_0 S.2.2.2.2.2.2.2.2.1).1))) := (if_pos hk).trans (if_pos rfl)
      rw [← hs] at hP hD
      exact k_ri hx hb hr hlocks hP hD hS dL_restore_19 hk.symm rfl
    ·
      have hfl : ¬ S.2.2.2.2.2.2.2.2.2.2.1 1 = 0 := full_restore hk
      have hC := c_X7_restore_1 l D g x0 (ua 0 0) (ua 1 0) (ua 2 0) (ua 3 0) (ua 4 0) (ua 5 0) (ua 6 0) (ua 1 2) (ua 1 4) (ua 1 1) (ua 1 3) (ua 1 5) (ua 4 1) (ua 8 0) (ua 8 2) (ua 8 4) (ua 8 1) (ua 8 3) (ua 8 5) H.size S.2.2.1 S.2.2.2.2.2.1 S.2.2.2.2.2.2.1 (fun j => some (ua (7 + j) 0)) S.2.2.2.2.2.2.2.2.2.1 S.2.2.2.2.2.2.2.2.2.2.1 rfl hfl
      obtain ⟨F1, hF1⟩ : ∃ z, z = (f_X7_restore_1 S.2.2.2.2.2.2.2.2.2.1) := ⟨_, rfl⟩
      rw [← hF1] at hC
      refine k_aiS (w2 := (wK g o0 x0 ua ub (S.1, S.2.1, F1.2, S.2.2.2.1, S.2.2.2.2.1, S.2.2.2.2.2.1, 0, S.2.2.2.2.2.2.2.1, S.2.2.2.2.2.2.2.2.1, S.2.2.2.2.2.2.2.2.2.1, S.2.2.2.2.2.2.2.2.2.2.1, S.2.2.2.2.2.2.2.2.2.2.2))) (va_runV (As := [.int 1]) (rest := [.int 0, .ref o0]) ⟨hx, hb, hml, hown, hts⟩ hC (cwV 1 hts gL_restore_X7_restore rfl rfl rfl (by decide +kernel) (k_lvl (by omega) (by decide))) (kPV hP hD hK hS hA hE [1, 4, 5, 6, 7, 8, 9, 22, 24, 32, 33, 34, 35, 36, 37, 25] rfl (by decide +kernel) 1 7 rfl rfl rfl) rfl rfl hl.1 rfl (lv_room (Nat.le_of_ble_eq_true rfl)) dL_restore_4 ⟨Nat.le_of_ble_eq_true rfl, Nat.le_of_ble_eq_true rfl⟩) hP hD hS hA [1, 4, 5, 6, 7, 8, 9, 22, 24, 32, 33, 34, 35, 36, 37, 25] rfl (by decide +kernel) rfl (setAll_by (E := (wE g o0 x0 ua ub S)) (E2 := (wE g o0 x0 ua ub (S.1, S.2.1, F1.2, S.2.2.2.1, S.2.2.2.2.1, S.2.2.2.2.2.1, 0, S.2.2.2.2.2.2.2.1, S.2.2.2.2.2.2.2.2.1, S.2.2.2.2.2.2.2.2.2.1, S.2.2.2.2.2.2.2.2.2.2.1, S.2.2.2.2.2.2.2.2.2.2.2))) (P := (wPool g ub S.2.2.2.2.2.2.2.1)) [(o0, .inl (g 4, 1, .inr (.inl S.2.2.2.2.2.2.2.2.2.2.2))), (ua 0 0, .inr (6, [.ref (ua 0 1), .int (nI S.1)])), (ua 0 1, .inl (g 1, 120, .inl S.2.1)), ((ua 2 0), .inr (4, [.ref (ua 2 2), .ref (ua 2 4), .ref (ua 2 1), .int S.2.2.2.1.1, .int S.2.2.2.1.2.1, .int S.2.2.2.1.2.2.1, .int S.2.2.2.1.2.2.2.1, .int S.2.2.2.1.2.2.2.2.1, .int S.2.2.2.1.2.2.2.2.2.1])), ((ua 2 1), .inl (g 0, 80, .inl S.2.2.2.1.2.2.2.2.2.2.1)), ((ua 2 2), .inr (1, [.ref (ua 2 3)])), ((ua 2 3), .inl (g 0, 480, .inl S.2.2.2.1.2.2.2.2.2.2.2.1)), ((ua 2 4), .inr (0, [.ref (ua 2 5), .int S.2.2.2.1.2.2.2.2.2.2.2.2.1])), ((ua 2 5), .inl (g 0, 60, .inl S.2.2.2.1.2.2.2.2.2.2.2.2.2)), ((ua 3 0), .inr (4, [.ref (ua 3 2), .ref (ua 3 4), .ref (ua 3 1), .int S.2.2.2.2.1.1, .int S.2.2.2.2.1.2.1, .int S.2.2.2.2.1.2.2.1, .int S.2.2.2.2.1.2.2.2.1, .int S.2.2.2.2.1.2.2.2.2.1, .int S.2.2.2.2.1.2.2.2.2.2.1])), ((ua 3 1), .inl (g 0, 80, .inl S.2.2.2.2.1.2.2.2.2.2.2.1)), ((ua 3 2), .inr (1, [.ref (ua 3 3)])), ((ua 3 3), .inl (g 0, 480, .inl S.2.2.2.2.1.2.2.2.2.2.2.2.1)), ((ua 3 4), .inr (0, [.ref (ua 3 5), .int S.2.2.2.2.1.2.2.2.2.2.2.2.2.1])), ((ua 3 5), .inl (g 0, 60, .inl S.2.2.2.2.1.2.2.2.2.2.2.2.2.2)), (ua 4 1, .inl (g 3, 14, .inr (.inr (.inr (.inr (fun j => some (ub j 0))))))), ((ua 7 0), .inr (4, [.ref (ua 7 2), .ref (ua 7 4), .ref (ua 7 1), .int S.2.2.2.2.2.2.2.2.1.1, .int S.2.2.2.2.2.2.2.2.1.2.1, .int S.2.2.2.2.2.2.2.2.1.2.2.1, .int S.2.2.2.2.2.2.2.2.1.2.2.2.1, .int S.2.2.2.2.2.2.2.2.1.2.2.2.2.1, .int S.2.2.2.2.2.2.2.2.1.2.2.2.2.2.1])), ((ua 7 1), .inl (g 0, 80, .inl S.2.2.2.2.2.2.2.2.1.2.2.2.2.2.2.1)), ((ua 7 2), .inr (1, [.ref (ua 7 3)])), ((ua 7 3), .inl (g 0, 480, .inl S.2.2.2.2.2.2.2.2.1.2.2.2.2.2.2.2.1)), ((ua 7 4), .inr (0, [.ref (ua 7 5), .int S.2.2.2.2.2.2.2.2.1.2.2.2.2.2.2.2.2.1])), ((ua 7 5), .inl (g 0, 60, .inl S.2.2.2.2.2.2.2.2.1.2.2.2.2.2.2.2.2.2))] [1, 4, 5, 6, 7, 8, 9, 22, 24, 32, 33, 34, 35, 36, 37, 25] [0, 2, 3, 10, 11, 12, 13, 14, 15, 16, 17, 18, 19, 20, 21, 23, 26, 27, 28, 29, 30, 31] 38 rfl rfl rfl (by decide) (by decide) (by decide +kernel) rfl rfl rfl) (fun H locs hP hD hS => ?_)
      refine lv_i2l (v := Int32.toInt64 (F1.1)) hx hb dL_restore_7 rfl ?_
      refine va_last (i := 0) (x := Int32.toInt64 (F1.1)) hx hb hK hP hD hS 0 4 rfl rfl (by unfold vp_in; decide) dL_restore_8 (fun H locs hP hD hS => ?_)
      refine lv_goto (tgt := 18) hx hb dL_restore_9 (by decide) ?_
      refine lv_iconst (v := 0) hx hb dL_restore_18 (by decide) ?_
      refine W.widen (k := 1) (n := 6) (Nat.le_of_ble_eq_true rfl) (Nat.le_of_ble_eq_true rfl) ?_
      have hP : va_P D vwCl (wK g o0 x0 ua ub (S.1, S.2.1, F1.2, S.2.2.2.1, S.2.2.2.2.1, S.2.2.2.2.2.1, 0, S.2.2.2.2.2.2.2.1, S.2.2.2.2.2.2.2.2.1, S.2.2.2.2.2.2.2.2.2.1, S.2.2.2.2.2.2.2.2.2.2.1, vp_updL S.2.2.2.2.2.2.2.2.2.2.2 0 (Int32.toInt64 (F1.1)))) H := hP
      have hD : va_D A (wK g o0 x0 ua ub (S.1, S.2.1, F1.2, S.2.2.2.1, S.2.2.2.2.1, S.2.2.2.2.2.1, 0, S.2.2.2.2.2.2.2.1, S.2.2.2.2.2.2.2.2.1, S.2.2.2.2.2.2.2.2.2.1, S.2.2.2.2.2.2.2.2.2.2.1, vp_updL S.2.2.2.2.2.2.2.2.2.2.2 0 (Int32.toInt64 (F1.1)))) := hD
      subst hF1
      have hs : sL_restore 1 S = (S.1, S.2.1, (f_X7_restore_1 S.2.2.2.2.2.2.2.2.2.1).2, S.2.2.2.1, S.2.2.2.2.1, S.2.2.2.2.2.1, 0, S.2.2.2.2.2.2.2.1, S.2.2.2.2.2.2.2.2.1, S.2.2.2.2.2.2.2.2.2.1, S.2.2.2.2.2.2.2.2.2.2.1, vp_updL S.2.2.2.2.2.2.2.2.2.2.2 0 (Int32.toInt64 ((f_X7_restore_1 S.2.2.2.2.2.2.2.2.2.1).1))) := (if_pos hk).trans (if_neg (by decide))
      rw [← hs] at hP hD
      exact k_ri hx hb hr hlocks hP hD hS dL_restore_19 hk.symm rfl
  ·
    have hC := c_X7_restore_x l D g x0 (ua 0 0) (ua 1 0) (ua 2 0) (ua 3 0) (ua 4 0) (ua 5 0) (ua 6 0) H.size S.2.2.2.2.2.2.2.2.2.2.1 a1 hst hk
    rcases kdc_restore a1 S with h1 | h1 | h1
    · exact absurd h1 hk
    · rw [h1, show ex_X7_restore 1 = "java/lang/IndexOutOfBoundsException" from rfl] at hC
      refine k_xc (E := "java/lang/IndexOutOfBoundsException") (mc := 1) (ms := 6) (vx_runV (As := [.int a1]) (rest := [.int 0, .ref o0]) ⟨hx, hb, hml, hown, hts⟩ hC (cwV 1 hts gL_restore_X7_restore rfl rfl rfl (by decide +kernel) (k_lvl (by omega) (by decide))) (kPVx hP hD hK hS hA hE hX [1, 25] rfl (by decide) 1 7 rfl rfl rfl) rfl rfl hl.1 rfl (lv_room (Nat.le_of_ble_eq_true rfl)) dL_restore_4 ⟨Nat.le_of_ble_eq_true rfl, Nat.le_of_ble_eq_true rfl⟩) hP hD hS hA [1, 25] rfl (fun ce q9 H locs hP hS hc1 hc2 hc3 => ?_)
      refine k_catch1 (own := RL) (E := "java/lang/IndexOutOfBoundsException") hex hown hX (by decide) (by decide) (hts _ qL_restore_h0) (by decide +kernel) hc1 hc2 hc3 ?_
      refine lv_astore_n (lv' := [(3, .ref q9), (0, .ref x0), (1, .int a1), (2, .ref o0)]) hx hb dL_restore_12 rfl hl (by decide) rfl (fun ls hl => ?_)
      refine lv_iconst (v := 1) hx hb dL_restore_13 (by decide) ?_
      refine W.widen (k := 1) (n := 6) (Nat.le_of_ble_eq_true rfl) (Nat.le_of_ble_eq_true rfl) ?_
      have hs : sL_restore a1 S = S := if_neg hk
      rw [← hs] at hP hD
      exact k_ri hx hb hr hlocks hP hD hS dL_restore_14 h1.symm rfl
    · rw [h1, show ex_X7_restore 2 = "java/lang/IllegalStateException" from rfl] at hC
      refine k_xc (E := "java/lang/IllegalStateException") (mc := 1) (ms := 6) (vx_runV (As := [.int a1]) (rest := [.int 0, .ref o0]) ⟨hx, hb, hml, hown, hts⟩ hC (cwV 1 hts gL_restore_X7_restore rfl rfl rfl (by decide +kernel) (k_lvl (by omega) (by decide))) (kPVx hP hD hK hS hA hE hX [1, 25] rfl (by decide) 1 7 rfl rfl rfl) rfl rfl hl.1 rfl (lv_room (Nat.le_of_ble_eq_true rfl)) dL_restore_4 ⟨Nat.le_of_ble_eq_true rfl, Nat.le_of_ble_eq_true rfl⟩) hP hD hS hA [1, 25] rfl (fun ce q9 H locs hP hS hc1 hc2 hc3 => ?_)
      refine k_catch2 (own := RL) (E := "java/lang/IllegalStateException") (E1 := "java/lang/IndexOutOfBoundsException") hex hown hX (by decide) (hts _ qL_restore_h0) (by decide +kernel) (by decide +kernel) (by decide) (by decide) (by decide) (hts _ qL_restore_h1) (by decide +kernel) hc1 hc2 hc3 ?_
      refine lv_astore_n (lv' := [(3, .ref q9), (0, .ref x0), (1, .int a1), (2, .ref o0)]) hx hb dL_restore_15 rfl hl (by decide) rfl (fun ls hl => ?_)
      refine lv_iconst (v := 2) hx hb dL_restore_16 (by decide) ?_
      refine W.widen (k := 1) (n := 6) (Nat.le_of_ble_eq_true rfl) (Nat.le_of_ble_eq_true rfl) ?_
      have hs : sL_restore a1 S = S := if_neg hk
      rw [← hs] at hP hD
      exact k_ri hx hb hr hlocks hP hD hS dL_restore_17 h1.symm rfl
end
