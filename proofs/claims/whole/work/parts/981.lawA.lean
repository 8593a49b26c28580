-- THE LAW, 2: what a method of the class is for the law
noncomputable section
theorem kdc_chain (a1 : Int32) (a2 : Int32) (a3 : Int32) (S : KC) : kd_X7_chain S.2.2.1 a1 a2 a3 = 0 ∨ kd_X7_chain S.2.2.1 a1 a2 a3 = 1 ∨ kd_X7_chain S.2.2.1 a1 a2 a3 = 2 := by
  unfold kd_X7_chain
  try dsimp only
  repeat' split
  all_goals first | exact Or.inl rfl | exact Or.inr (Or.inl rfl) | exact Or.inr (Or.inr rfl)
theorem qL_chain_h0 : Cond.classLink RL 28 "java/lang/IndexOutOfBoundsException" ∈ wsL_chain := (List.mem_cons_of_mem _ (List.mem_append_left _ (List.mem_append_left _ (List.mem_append_left _ (List.mem_append_left _ (List.mem_append_left _ (List.mem_append_left _ (List.mem_append_left _ (List.mem_append_left _ (List.mem_of_getElem? (i := 0) rfl))))))))))
theorem qL_chain_h1 : Cond.classLink RL 13 "java/lang/IllegalArgumentException" ∈ wsL_chain := (List.mem_cons_of_mem _ (List.mem_append_left _ (List.mem_append_left _ (List.mem_append_left _ (List.mem_append_left _ (List.mem_append_left _ (List.mem_append_left _ (List.mem_append_left _ (List.mem_append_left _ (List.mem_of_getElem? (i := 1) rfl))))))))))
set_option maxHeartbeats 4000000 in
set_option maxRecDepth 100000 in
theorem c_L_chain (l : Launch) (D : va_G) (g : Nat → Nat) (o0 x0 : Nat) (ua ub : Nat → Nat → Nat) (sz : Nat) (S : KC) (a1 : Int32) (a2 : Int32) (a3 : Int32) (hst : l.stackTraces = false) (hln : S.1 ≤ 120) (hnx : S.2.2.2.2.2.1 < 14) (hkc : S.2.2.2.2.2.2.1 ≤ 14) (hpt : ¬ 10 < S.2.2.1.1) (hp1 : S.2.2.1.1 = nI S.2.2.1.1.toNatClampNeg) (hp2 : S.2.2.1.1.toNatClampNeg ≤ 10) : kMw l D g yL_chain wsL_chain 40 1 6 [.ref x0, .int a1, .int a2, .int a3, .ref o0] (wK g o0 x0 ua ub S) sz (kd_X7_chain S.2.2.1 a1 a2 a3) (wK g o0 x0 ua ub (sL_chain a1 a2 a3 S)) := by
  refine k_enterW (nm := "chain") (own := RL) (bytes := cL_chain) (maxL := 6) (ret := (some .int)) (hh := [(0, 12, 15, 28), (0, 12, 19, 13)]) (Qf := fun A => kQi D (wK g o0 x0 ua ub (sL_chain a1 a2 a3 S)) A (kd_X7_chain S.2.2.1 a1 a2 a3)) (by decide) rfl rfl rfl (Nat.le_of_ble_eq_true rfl) ?_
  rintro pp ee s mm below meth cc A ls args Q H locs hQ ⟨hx, hb, hr, hml, hown, hts, hlocks, hin⟩ hex hP hK hD hA hS hE hX hl
  have hl : lv_has ls 6 [(0, .ref x0), (1, .int a1), (2, .int a2), (3, .int a3), (4, .ref o0)] := hl
  subst hQ
  refine lv_aload hx hb dL_chain_0 (lv_at hl 4 rfl) ?_
  refine lv_iconst (v := 0) hx hb dL_chain_2 (by decide) ?_
  refine lv_aload_n hx hb dL_chain_3 rfl (lv_at hl 0 rfl) ?_
  refine lv_iload_n hx hb dL_chain_4 rfl (lv_at hl 1 rfl) ?_
  refine lv_iload_n hx hb dL_chain_5 rfl (lv_at hl 2 rfl) ?_
  refine lv_iload_n hx hb dL_chain_6 rfl (lv_at hl 3 rfl) ?_
  by_cases hk : kd_X7_chain S.2.2.1 a1 a2 a3 = 0
  ·
    have hC := c_X7_chain l D g x0 (ua 0 0) (ua 1 0) (ua 2 0) (ua 3 0) (ua 4 0) (ua 5 0) (ua 6 0) (ua 1 2) (ua 1 4) (ua 1 1) (ua 1 3) (ua 1 5) (ua 4 1) H.size ub S.2.2.2.2.2.1 S.2.2.2.2.2.2.1 S.2.2.1 S.2.2.2.2.2.2.2.1 a1 a2 a3 hnx hkc hk
    obtain ⟨F1, hF1⟩ : ∃ z, z = (f_X7_chain S.2.2.2.2.2.1 S.2.2.2.2.2.2.1 S.2.2.1 S.2.2.2.2.2.2.2.1 a1 a2 a3) := ⟨_, rfl⟩
    rw [← hF1] at hC
    refine k_aiS2 (E := (wE g o0 x0 ua ub S)) (Ec := [(x0, .inr (7, [.ref (ua 0 0), .ref (ua 1 0), .ref (ua 2 0), .ref (ua 3 0), .ref (ua 4 0), .ref (ua 5 0), .ref (ua 6 0)])), ((ua 1 0), .inr (4, [.ref (ua 1 2), .ref (ua 1 4), .ref (ua 1 1), .int S.2.2.1.1, .int S.2.2.1.2.1, .int S.2.2.1.2.2.1, .int S.2.2.1.2.2.2.1, .int S.2.2.1.2.2.2.2.1, .int S.2.2.1.2.2.2.2.2.1])), ((ua 1 1), .inl (g 0, 80, .inl (S.2.2.1.2.2.2.2.2.2.1))), ((ua 1 2), .inr (1, [.ref (ua 1 3)])), ((ua 1 3), .inl (g 0, 480, .inl (S.2.2.1.2.2.2.2.2.2.2.1))), ((ua 1 4), .inr (0, [.ref (ua 1 5), .int S.2.2.1.2.2.2.2.2.2.2.2.1])), ((ua 1 5), .inl (g 0, 60, .inl (S.2.2.1.2.2.2.2.2.2.2.2.2))), ((ua 4 0), .inr (3, [.ref (ua 4 1), .int (nI S.2.2.2.2.2.1), .int (nI S.2.2.2.2.2.2.1)])), ((ua 4 1), .inl (g 3, 14, .inr (.inr (.inr (.inr (fun j => some (ub j 0)))))))]) (E1 := [(x0, .inr (7, [.ref (ua 0 0), .ref (ua 1 0), .ref (ua 2 0), .ref (ua 3 0), .ref (ua 4 0), .ref (ua 5 0), .ref (ua 6 0)])), ((ua 1 0), .inr (4, [.ref (ua 1 2), .ref (ua 1 4), .ref (ua 1 1), .int (F1.2.2.2.1.1), .int (F1.2.2.2.1.2.1), .int (F1.2.2.2.1.2.2.1), .int (F1.2.2.2.1.2.2.2.1), .int (F1.2.2.2.1.2.2.2.2.1), .int (F1.2.2.2.1.2.2.2.2.2.1)])), ((ua 1 1), .inl (g 0, 80, .inl (F1.2.2.2.1.2.2.2.2.2.2.1))), ((ua 1 2), .inr (1, [.ref (ua 1 3)])), ((ua 1 3), .inl (g 0, 480, .inl (F1.2.2.2.1.2.2.2.2.2.2.2.1))), ((ua 1 4), .inr (0, [.ref (ua 1 5), .int (F1.2.2.2.1.2.2.2.2.2.2.2.2.1)])), ((ua 1 5), .inl (g 0, 60, .inl (F1.2.2.2.1.2.2.2.2.2.2.2.2.2))), ((ua 4 0), .inr (3, [.ref (ua 4 1), .int (nI (F1.2.1)), .int (nI (F1.2.2.1))])), ((ua 4 1), .inl (g 3, 14, .inr (.inr (.inr (.inr (fun j => some (ub j 0)))))))]) (P := (wPool g ub S.2.2.2.2.2.2.2.1)) (P1 := (wPool g ub (F1.2.2.2.2))) (E2 := (wE g o0 x0 ua ub (S.1, S.2.1, F1.2.2.2.1, S.2.2.2.1, S.2.2.2.2.1, F1.2.1, F1.2.2.1, (F1.2.2.2.2), S.2.2.2.2.2.2.2.2.1, S.2.2.2.2.2.2.2.2.2.1, S.2.2.2.2.2.2.2.2.2.2.1, S.2.2.2.2.2.2.2.2.2.2.2))) (va_runV (As := [.int a1, .int a2, .int a3]) (rest := [.int 0, .ref o0]) ⟨hx, hb, hml, hown, hts⟩ hC (cwV 3 hts gL_chain_X7_chain rfl rfl rfl (by decide +kernel) (k_lvl (by omega) (by decide))) (kPV2 hP hD hK hS hA hE [1, 4, 5, 6, 7, 8, 9, 22, 23] rfl (by decide) 1 7 rfl rfl rfl) rfl rfl hl.1 rfl (lv_room (Nat.le_of_ble_eq_true rfl)) dL_chain_7 ⟨Nat.le_of_ble_eq_true rfl, Nat.le_of_ble_eq_true rfl⟩) hP hD hS hA [1, 4, 5, 6, 7, 8, 9, 22, 23] rfl (by decide) rfl rfl (wPool_addr _ _ _ _) (fun H locs hP hD hS => ?_)
    have hP : va_P D vwCl (wK g o0 x0 ua ub (S.1, S.2.1, F1.2.2.2.1, S.2.2.2.1, S.2.2.2.2.1, F1.2.1, F1.2.2.1, (F1.2.2.2.2), S.2.2.2.2.2.2.2.2.1, S.2.2.2.2.2.2.2.2.2.1, S.2.2.2.2.2.2.2.2.2.2.1, S.2.2.2.2.2.2.2.2.2.2.2)) H := hP
    have hD : va_D A (wK g o0 x0 ua ub (S.1, S.2.1, F1.2.2.2.1, S.2.2.2.1, S.2.2.2.2.1, F1.2.1, F1.2.2.1, (F1.2.2.2.2), S.2.2.2.2.2.2.2.2.1, S.2.2.2.2.2.2.2.2.2.1, S.2.2.2.2.2.2.2.2.2.2.1, S.2.2.2.2.2.2.2.2.2.2.2)) := hD
    refine lv_i2l (v := Int32.toInt64 (F1.1)) hx hb dL_chain_10 rfl ?_
    refine va_last (i := 0) (x := Int32.toInt64 (F1.1)) hx hb hK hP hD hS 0 4 rfl rfl (by unfold vp_in; decide) dL_chain_11 (fun H locs hP hD hS => ?_)
    refine lv_goto (tgt := 23) hx hb dL_chain_12 (by decide) ?_
    refine lv_iconst (v := 0) hx hb dL_chain_23 (by decide) ?_
    refine W.widen (k := 1) (n := 6) (Nat.le_of_ble_eq_true rfl) (Nat.le_of_ble_eq_true rfl) ?_
    have hP : va_P D vwCl (wK g o0 x0 ua ub (S.1, S.2.1, F1.2.2.2.1, S.2.2.2.1, S.2.2.2.2.1, F1.2.1, F1.2.2.1, (F1.2.2.2.2), S.2.2.2.2.2.2.2.2.1, S.2.2.2.2.2.2.2.2.2.1, S.2.2.2.2.2.2.2.2.2.2.1, vp_updL S.2.2.2.2.2.2.2.2.2.2.2 0 (Int32.toInt64 (F1.1)))) H := hP
    have hD : va_D A (wK g o0 x0 ua ub (S.1, S.2.1, F1.2.2.2.1, S.2.2.2.1, S.2.2.2.2.1, F1.2.1, F1.2.2.1, (F1.2.2.2.2), S.2.2.2.2.2.2.2.2.1, S.2.2.2.2.2.2.2.2.2.1, S.2.2.2.2.2.2.2.2.2.2.1, vp_updL S.2.2.2.2.2.2.2.2.2.2.2 0 (Int32.toInt64 (F1.1)))) := hD
    subst hF1
    have hs : sL_chain a1 a2 a3 S = (S.1, S.2.1, (f_X7_chain S.2.2.2.2.2.1 S.2.2.2.2.2.2.1 S.2.2.1 S.2.2.2.2.2.2.2.1 a1 a2 a3).2.2.2.1, S.2.2.2.1, S.2.2.2.2.1, (f_X7_chain S.2.2.2.2.2.1 S.2.2.2.2.2.2.1 S.2.2.1 S.2.2.2.2.2.2.2.1 a1 a2 a3).2.1, (f_X7_chain S.2.2.2.2.2.1 S.2.2.2.2.2.2.1 S.2.2.1 S.2.2.2.2.2.2.2.1 a1 a2 a3).2.2.1, ((f_X7_chain S.2.2.2.2.2.1 S.2.2.2.2.2.2.1 S.2.2.1 S.2.2.2.2.2.2.2.1 a1 a2 a3).2.2.2.2), S.2.2.2.2.2.2.2.2.1, S.2.2.2.2.2.2.2.2.2.1, S.2.2.2.2.2.2.2.2.2.2.1, vp_updL S.2.2.2.2.2.2.2.2.2.2.2 0 (Int32.toInt64 ((f_X7_chain S.2.2.2.2.2.1 S.2.2.2.2.2.2.1 S.2.2.1 S.2.2.2.2.2.2.2.1 a1 a2 a3).1))) := if_pos hk
    rw [← hs] at hP hD
    exact k_ri hx hb hr hlocks hP hD hS dL_chain_24 hk.symm rfl
  ·
    have hC := c_X7_chain_x l D g x0 (ua 0 0) (ua 1 0) (ua 2 0) (ua 3 0) (ua 4 0) (ua 5 0) (ua 6 0) (ua 1 2) (ua 1 4) (ua 1 1) (ua 1 3) (ua 1 5) H.size S.2.2.1 a1 a2 a3 hst hk
    rcases kdc_chain a1 a2 a3 S with h1 | h1 | h1
    · exact absurd h1 hk
    · rw [h1, show ex_X7_chain 1 = "java/lang/IndexOutOfBoundsException" from rfl] at hC
      refine k_xc (E := "java/lang/IndexOutOfBoundsException") (mc := 1) (ms := 6) (vx_runV (As := [.int a1, .int a2, .int a3]) (rest := [.int 0, .ref o0]) ⟨hx, hb, hml, hown, hts⟩ hC (cwV 3 hts gL_chain_X7_chain rfl rfl rfl (by decide +kernel) (k_lvl (by omega) (by decide))) (kPVx hP hD hK hS hA hE hX [1, 4, 5, 6, 7, 8, 9] rfl (by decide) 1 7 rfl rfl rfl) rfl rfl hl.1 rfl (lv_room (Nat.le_of_ble_eq_true rfl)) dL_chain_7 ⟨Nat.le_of_ble_eq_true rfl, Nat.le_of_ble_eq_true rfl⟩) hP hD hS hA [1, 4, 5, 6, 7, 8, 9] rfl (fun ce q9 H locs hP hS hc1 hc2 hc3 => ?_)
      refine k_catch1 (own := RL) (E := "java/lang/IndexOutOfBoundsException") hex hown hX (by decide) (by decide) (hts _ qL_chain_h0) (by decide +kernel) hc1 hc2 hc3 ?_
      refine lv_astore (lv' := [(5, .ref q9), (0, .ref x0), (1, .int a1), (2, .int a2), (3, .int a3), (4, .ref o0)]) hx hb dL_chain_15 hl (by decide) rfl (fun ls hl => ?_)
      refine lv_iconst (v := 1) hx hb dL_chain_17 (by decide) ?_
      refine W.widen (k := 1) (n := 6) (Nat.le_of_ble_eq_true rfl) (Nat.le_of_ble_eq_true rfl) ?_
      have hs : sL_chain a1 a2 a3 S = S := if_neg hk
      rw [← hs] at hP hD
      exact k_ri hx hb hr hlocks hP hD hS dL_chain_18 h1.symm rfl
    · rw [h1, show ex_X7_chain 2 = "java/lang/IllegalArgumentException" from rfl] at hC
      refine k_xc (E := "java/lang/IllegalArgumentException") (mc := 1) (ms := 6) (vx_runV (As := [.int a1, .int a2, .int a3]) (rest := [.int 0, .ref o0]) ⟨hx, hb, hml, hown, hts⟩ hC (cwV 3 hts gL_chain_X7_chain rfl rfl rfl (by decide +kernel) (k_lvl (by omega) (by decide))) (kPVx hP hD hK hS hA hE hX [1, 4, 5, 6, 7, 8, 9] rfl (by decide) 1 7 rfl rfl rfl) rfl rfl hl.1 rfl (lv_room (Nat.le_of_ble_eq_true rfl)) dL_chain_7 ⟨Nat.le_of_ble_eq_true rfl, Nat.le_of_ble_eq_true rfl⟩) hP hD hS hA [1, 4, 5, 6, 7, 8, 9] rfl (fun ce q9 H locs hP hS hc1 hc2 hc3 => ?_)
      refine k_catch2 (own := RL) (E := "java/lang/IllegalArgumentException") (E1 := "java/lang/IndexOutOfBoundsException") hex hown hX (by decide) (hts _ qL_chain_h0) (by decide +kernel) (by decide +kernel) (by decide) (by decide) (by decide) (hts _ qL_chain_h1) (by decide +kernel) hc1 hc2 hc3 ?_
      refine lv_astore (lv' := [(5, .ref q9), (0, .ref x0), (1, .int a1), (2, .int a2), (3, .int a3), (4, .ref o0)]) hx hb dL_chain_19 hl (by decide) rfl (fun ls hl => ?_)
      refine lv_iconst (v := 2) hx hb dL_chain_21 (by decide) ?_
      refine W.widen (k := 1) (n := 6) (Nat.le_of_ble_eq_true rfl) (Nat.le_of_ble_eq_true rfl) ?_
      have hs : sL_chain a1 a2 a3 S = S := if_neg hk
      rw [← hs] at hP hD
      exact k_ri hx hb hr hlocks hP hD hS dL_chain_22 h1.symm rfl
theorem kdc_net (a1 : Int32) (a2 : Int32) (S : KC) : kd_X7_net S.2.2.1 a1 a2 = 0 ∨ kd_X7_net S.2.2.1 a1 a2 = 1 ∨ kd_X7_net S.2.2.1 a1 a2 = 2 := by
  unfold kd_X7_net
  try dsimp only
  repeat' split
  all_goals first | exact Or.inl rfl | exact Or.inr (Or.inl rfl) | exact Or.inr (Or.inr rfl)
theorem qL_net_h0 : Cond.classLink RL 28 "java/lang/IndexOutOfBoundsException" ∈ wsL_net := (List.mem_cons_of_mem _ (List.mem_append_left _ (List.mem_append_left _ (List.mem_append_left _ (List.mem_append_left _ (List.mem_append_left _ (List.mem_append_left _ (List.mem_append_left _ (List.mem_append_left _ (List.mem_of_getElem? (i := 0) rfl))))))))))
theorem qL_net_h1 : Cond.classLink RL 13 "java/lang/IllegalArgumentException" ∈ wsL_net := (List.mem_cons_of_mem _ (List.mem_append_left _ (List.mem_append_left _ (List.mem_append_left _ (List.mem_append_left _ (List.mem_append_left _ (List.mem_append_left _ (List.mem_append_left _ (List.mem_append_left _ (List.mem_of_getElem? (i := 1) rfl))))))))))
set_option maxHeartbeats 4000000 in
set_option maxRecDepth 100000 in
theorem c_L_net (l : Launch) (D : va_G) (g : Nat → Nat) (o0 x0 : Nat) (ua ub : Nat → Nat → Nat) (sz : Nat) (S : KC) (a1 : Int32) (a2 : Int32) (hst : l.stackTraces = false) (hln : S.1 ≤ 120) (hnx : S.2.2.2.2.2.1 < 14) (hkc : S.2.2.2.2.2.2.1 ≤ 14) (hpt : ¬ 10 < S.2.2.1.1) (hp1 : S.2.2.1.1 = nI S.2.2.1.1.toNatClampNeg) (hp2 : S.2.2.1.1.toNatClampNeg ≤ 10) : kMw l D g yL_net wsL_net 40 1 6 [.ref x0, .int a1, .int a2, .ref o0] (wK g o0 x0 ua ub S) sz (kd_X7_net S.2.2.1 a1 a2) (wK g o0 x0 ua ub (sL_net a1 a2 S)) := by
  refine k_enterW (nm := "net") (own := RL) (bytes := cL_net) (maxL := 5) (ret := (some .int)) (hh := [(0, 10, 13, 28), (0, 10, 17, 13)]) (Qf := fun A => kQi D (wK g o0 x0 ua ub (sL_net a1 a2 S)) A (kd_X7_net S.2.2.1 a1 a2)) (by decide) rfl rfl rfl (Nat.le_of_ble_eq_true rfl) ?_
  rintro pp ee s mm below meth cc A ls args Q H locs hQ ⟨hx, hb, hr, hml, hown, hts, hlocks, hin⟩ hex hP hK hD hA hS hE hX hl
  have hl : lv_has ls 5 [(0, .ref x0), (1, .int a1), (2, .int a2), (3, .ref o0)] := hl
  subst hQ
  refine lv_aload_n hx hb dL_net_0 rfl (lv_at hl 3 rfl) ?_
  refine lv_iconst (v := 0) hx hb dL_net_1 (by decide) ?_
  refine lv_aload_n hx hb dL_net_2 rfl (lv_at hl 0 rfl) ?_
  refine lv_iload_n hx hb dL_net_3 rfl (lv_at hl 1 rfl) ?_
  refine lv_iload_n hx hb dL_net_4 rfl (lv_at hl 2 rfl) ?_
  by_cases hk : kd_X7_net S.2.2.1 a1 a2 = 0
  ·
    have hC := c_X7_net l D g x0 (ua 0 0) (ua 1 0) (ua 2 0) (ua 3 0) (ua 4 0) (ua 5 0) (ua 6 0) (ua 1 2) (ua 1 4) (ua 1 1) (ua 1 3) (ua 1 5) (ua 4 1) H.size ub S.2.2.2.2.2.1 S.2.2.2.2.2.2.1 S.2.2.1 S.2.2.2.2.2.2.2.1 a1 a2 hnx hkc hk
    obtain ⟨F1, hF1⟩ : ∃ z, z = (f_X7_net S.2.2.2.2.2.1 S.2.2.2.2.2.2.1 S.2.2.1 S.2.2.2.2.2.2.2.1 a1 a2) := ⟨_, rfl⟩
    rw [← hF1] at hC
    refine k_aiS2 (E := (wE g o0 x0 ua ub S)) (Ec := [(x0, .inr (7, [.ref (ua 0 0), .ref (ua 1 0), .ref (ua 2 0), .ref (ua 3 0), .ref (ua 4 0), .ref (ua 5 0), .ref (ua 6 0)])), ((ua 1 0), .inr (4, [.ref (ua 1 2), .ref (ua 1 4), .ref (ua 1 1), .int S.2.2.1.1, .int S.2.2.1.2.1, .int S.2.2.1.2.2.1, .int S.2.2.1.2.2.2.1, .int S.2.2.1.2.2.2.2.1, .int S.2.2.1.2.2.2.2.2.1])), ((ua 1 1), .inl (g 0, 80, .inl (S.2.2.1.2.2.2.2.2.2.1))), ((ua 1 2), .inr (1, [.ref (ua 1 3)])), ((ua 1 3), .inl (g 0, 480, .inl (S.2.2.1.2.2.2.2.2.2.2.1))), ((ua 1 4), .inr (0, [.ref (ua 1 5), .int S.2.2.1.2.2.2.2.2.2.2.2.1])), ((ua 1 5), .inl (g 0, 60, .inl (S.2.2.1.2.2.2.2.2.2.2.2.2))), ((ua 4 0), .inr (3, [.ref (ua 4 1), .int (nI S.2.2.2.2.2.1), .int (nI S.2.2.2.2.2.2.1)])), ((ua 4 1), .inl (g 3, 14, .inr (.inr (.inr (.inr (fun j => some (ub j 0)))))))]) (E1 := [(x0, .inr (7, [.ref (ua 0 0), .ref (ua 1 0), .ref (ua 2 0), .ref (ua 3 0), .ref (ua 4 0), .ref (ua 5 0), .ref (ua 6 0)])), ((ua 1 0), .inr (4, [.ref (ua 1 2), .ref (ua 1 4), .ref (ua 1 1), .int (F1.2.2.2.1.1), .int (F1.2.2.2.1.2.1), .int (F1.2.2.2.1.2.2.1), .int (F1.2.2.2.1.2.2.2.1), .int (F1.2.2.2.1.2.2.2.2.1), .int (F1.2.2.2.1.2.2.2.2.2.1)])), ((ua 1 1), .inl (g 0, 80, .inl (F1.2.2.2.1.2.2.2.2.2.2.1))), ((ua 1 2), .inr (1, [.ref (ua 1 3)])), ((ua 1 3), .inl (g 0, 480, .inl (F1.2.2.2.1.2.2.2.2.2.2.2.1))), ((ua 1 4), .inr (0, [.ref (ua 1 5), .int (F1.2.2.2.1.2.2.2.2.2.2.2.2.1)])), ((ua 1 5), .inl (g 0, 60, .inl (F1.2.2.2.1.2.2.2.2.2.2.2.2.2))), ((ua 4 0), .inr (3, [.ref (ua 4 1), .int (nI (F1.2.1)), .int (nI (F1.2.2.1))])), ((ua 4 1), .inl (g 3, 14, .inr (.inr (.inr (.inr (fun j => some (ub j 0)))))))]) (P := (wPool g ub S.2.2.2.2.2.2.2.1)) (P1 := (wPool g ub (F1.2.2.2.2))) (E2 := (wE g o0 x0 ua ub (S.1, S.2.1, F1.2.2.2.1, S.2.2.2.1, S.2.2.2.2.1, F1.2.1, F1.2.2.1, (F1.2.2.2.2), S.2.2.2.2.2.2.2.2.1, S.2.2.2.2.2.2.2.2.2.1, S.2.2.2.2.2.2.2.2.2.2.1, S.2.2.2.2.2.2.2.2.2.2.2))) (va_runV (As := [.int a1, .int a2]) (rest := [.int 0, .ref o0]) ⟨hx, hb, hml, hown, hts⟩ hC (cwV 2 hts gL_net_X7_net rfl rfl rfl (by decide +kernel) (k_lvl (by omega) (by decide))) (kPV2 hP hD hK hS hA hE [1, 4, 5, 6, 7, 8, 9, 22, 23] rfl (by decide) 1 7 rfl rfl rfl) rfl rfl hl.1 rfl (lv_room (Nat.le_of_ble_eq_true rfl)) dL_net_5 ⟨Nat.le_of_ble_eq_true rfl, Nat.le_of_ble_eq_true rfl⟩) hP hD hS hA [1, 4, 5, 6, 7, 8, 9, 22, 23] rfl (by decide) rfl rfl (wPool_addr _ _ _ _) (fun H locs hP hD hS => ?_)
    have hP : va_P D vwCl (wK g o0 x0 ua ub (S.1, S.2.1, F1.2.2.2.1, S.2.2.2.1, S.2.2.2.2.1, F1.2.1, F1.2.2.1, (F1.2.2.2.2), S.2.2.2.2.2.2.2.2.1, S.2.2.2.2.2.2.2.2.2.1, S.2.2.2.2.2.2.2.2.2.2.1, S.2.2.2.2.2.2.2.2.2.2.2)) H := hP
    have hD : va_D A (wK g o0 x0 ua ub (S.1, S.2.1, F1.2.2.2.1, S.2.2.2.1, S.2.2.2.2.1, F1.2.1, F1.2.2.1, (F1.2.2.2.2), S.2.2.2.2.2.2.2.2.1, S.2.2.2.2.2.2.2.2.2.1, S.2.2.2.2.2.2.2.2.2.2.1, S.2.2.2.2.2.2.2.2.2.2.2)) := hD
    refine lv_i2l (v := Int32.toInt64 (F1.1)) hx hb dL_net_8 rfl ?_
    refine va_last (i := 0) (x := Int32.toInt64 (F1.1)) hx hb hK hP hD hS 0 4 rfl rfl (by unfold vp_in; decide) dL_net_9 (fun H locs hP hD hS => ?_)
    refine lv_goto (tgt := 21) hx hb dL_net_10 (by decide) ?_
    refine lv_iconst (v := 0) hx hb dL_net_21 (by decide) ?_
    refine W.widen (k := 1) (n := 6) (Nat.le_of_ble_eq_true rfl) (Nat.le_of_ble_eq_true rfl) ?_
    have hP : va_P D vwCl (wK g o0 x0 ua ub (S.1, S.2.1, F1.2.2.2.1, S.2.2.2.1, S.2.2.2.2.1, F1.2.1, F1.2.2.1, (F1.2.2.2.2), S.2.2.2.2.2.2.2.2.1, S.2.2.2.2.2.2.2.2.2.1, S.2.2.2.2.2.2.2.2.2.2.1, vp_updL S.2.2.2.2.2.2.2.2.2.2.2 0 (Int32.toInt64 (F1.1)))) H := hP
    have hD : va_D A (wK g o0 x0 ua ub (S.1, S.2.1, F1.2.2.2.1, S.2.2.2.1, S.2.2.2.2.1, F1.2.1, F1.2.2.1, (F1.2.2.2.2), S.2.2.2.2.2.2.2.2.1, S.2.2.2.2.2.2.2.2.2.1, S.2.2.2.2.2.2.2.2.2.2.1, vp_updL S.2.2.2.2.2.2.2.2.2.2.2 0 (Int32.toInt64 (F1.1)))) := hD
    subst hF1
    have hs : sL_net a1 a2 S = (S.1, S.2.1, (f_X7_net S.2.2.2.2.2.1 S.2.2.2.2.2.2.1 S.2.2.1 S.2.2.2.2.2.2.2.1 a1 a2).2.2.2.1, S.2.2.2.1, S.2.2.2.2.1, (f_X7_net S.2.2.2.2.2.1 S.2.2.2.2.2.2.1 S.2.2.1 S.2.2.2.2.2.2.2.1 a1 a2).2.1, (f_X7_net S.2.2.2.2.2.1 S.2.2.2.2.2.2.1 S.2.2.1 S.2.2.2.2.2.2.2.1 a1 a2).2.2.1, ((f_X7_net S.2.2.2.2.2.1 S.2.2.2.2.2.2.1 S.2.2.1 S.2.2.2.2.2.2.2.1 a1 a2).2.2.2.2), S.2.2.2.2.2.2.2.2.1, S.2.2.2.2.2.2.2.2.2.1, S.2.2.2.2.2.2.2.2.2.2.1, vp_updL S.2.2.2.2.2.2.2.2.2.2.2 0 (Int32.toInt64 ((f_X7_net S.2.2.2.2.2.1 S.2.2.2.2.2.2.1 S.2.2.1 S.2.2.2.2.2.2.2.1 a1 a2).1))) := if_pos hk
    rw [← hs] at hP hD
    exact k_ri hx hb hr hlocks hP hD hS dL_net_22 hk.symm rfl
  ·
    have hC := c_X7_net_x l D g x0 (ua 0 0) (ua 1 0) (ua 2 0) (ua 3 0) (ua 4 0) (ua 5 0) (ua 6 0) (ua 1 2) (ua 1 4) (ua 1 1) (ua 1 3) (ua 1 5) H.size S.2.2.1 a1 a2 hst hk
    rcases kdc_net a1 a2 S with h1 | h1 | h1
    · exact absurd h1 hk
    · rw [h1, show ex_X7_net 1 = "java/lang/IndexOutOfBoundsException" from rfl] at hC
      refine k_xc (E := "java/lang/IndexOutOfBoundsException") (mc := 1) (ms := 6) (vx_runV (As := [.int a1, .int a2]) (rest := [.int 0, .ref o0]) ⟨hx, hb, hml, hown, hts⟩ hC (cwV 2 hts gL_net_X7_net rfl rfl rfl (by decide +kernel) (k_lvl (by omega) (by decide))) (kPVx hP hD hK hS hA hE hX [1, 4, 5, 6, 7, 8, 9] rfl (by decide) 1 7 rfl rfl rfl) rfl rfl hl.1 rfl (lv_room (Nat.le_of_ble_eq_true rfl)) dL_net_5 ⟨Nat.le_of_ble_eq_true rfl, Nat.le_of_ble_eq_true rfl⟩) hP hD hS hA [1, 4, 5, 6, 7, 8, 9] rfl (fun ce q9 H locs hP hS hc1 hc2 hc3 => ?_)
      refine k_catch1 (own := RL) (E := "java/lang/IndexOutOfBoundsException") hex hown hX (by decide) (by decide) (hts _ qL_net_h0) (by decide +kernel) hc1 hc2 hc3 ?_
      refine lv_astore (lv' := [(4, .ref q9), (0, .ref x0), (1, .int a1), (2, .int a2), (3, .ref o0)]) hx hb dL_net_13 hl (by decide) rfl (fun ls hl => ?_)
      refine lv_iconst (v := 1) hx hb dL_net_15 (by decide) ?_
      refine W.widen (k := 1) (n := 6) (Nat.le_of_ble_eq_true rfl) (Nat.le_of_ble_eq_true rfl) ?_
      have hs : sL_net a1 a2 S = S := if_neg hk
      rw [← hs] at hP hD
      exact k_ri hx hb hr hlocks hP hD hS dL_net_16 h1.symm rfl
    · rw [h1, show ex_X7_net 2 = "java/lang/IllegalArgumentException" from rfl] at hC
      refine k_xc (E := "java/lang/IllegalArgumentException") (mc := 1) (ms := 6) (vx_runV (As := [.int a1, .int a2]) (rest := [.int 0, .ref o0]) ⟨hx, hb, hml, hown, hts⟩ hC (cwV 2 hts gL_net_X7_net rfl rfl rfl (by decide +kernel) (k_lvl (by omega) (by decide))) (kPVx hP hD hK hS hA hE hX [1, 4, 5, 6, 7, 8, 9] rfl (by decide) 1 7 rfl rfl rfl) rfl rfl hl.1 rfl (lv_room (Nat.le_of_ble_eq_true rfl)) dL_net_5 ⟨Nat.le_of_ble_eq_true rfl, Nat.le_of_ble_eq_true rfl⟩) hP hD hS hA [1, 4, 5, 6, 7, 8, 9] rfl (fun ce q9 H locs hP hS hc1 hc2 hc3 => ?_)
      refine k_catch2 (own := RL) (E := "java/lang/IllegalArgumentException") (E1 := "java/lang/IndexOutOfBoundsException") hex hown hX (by decide) (hts _ qL_net_h0) (by decide +kernel) (by decide +kernel) (by decide) (by decide) (by decide) (hts _ qL_net_h1) (by decide +kernel) hc1 hc2 hc3 ?_
      refine lv_astore (lv' := [(4, .ref q9), (0, .ref x0), (1, .int a1), (2, .int a2), (3, .ref o0)]) hx hb dL_net_17 hl (by decide) rfl (fun ls hl => ?_)
      refine lv_iconst (v := 2) hx hb dL_net_19 (by decide) ?_
      refine W.widen (k := 1) (n := 6) (Nat.le_of_ble_eq_true rfl) (Nat.le_of_ble_eq_true rfl) ?_
      have hs : sL_net a1 a2 S = S := if_neg hk
      rw [← hs] at hP hD
      exact k_ri hx hb hr hlocks hP hD hS dL_net_20 h1.symm rfl
theorem kdc_own (a1 : Int32) (a2 : Int32) (a3 : Int32) (a4 : Int32) (a5 : Int32) (S : KC) : kd_X7_own S.2.2.1 a1 a2 a3 a4 a5 = 0 ∨ kd_X7_own S.2.2.1 a1 a2 a3 a4 a5 = 1 ∨ kd_X7_own S.2.2.1 a1 a2 a3 a4 a5 = 2 := by
  unfold kd_X7_own
  try dsimp only
  repeat' split
  all_goals first | exact Or.inl rfl | exact Or.inr (Or.inl rfl) | exact Or.inr (Or.inr rfl)
theorem qL_own_h0 : Cond.classLink RL 28 "java/lang/IndexOutOfBoundsException" ∈ wsL_own := (List.mem_cons_of_mem _ (List.mem_append_left _ (List.mem_append_left _ (List.mem_append_left _ (List.mem_append_left _ (List.mem_append_left _ (List.mem_append_left _ (List.mem_append_left _ (List.mem_append_left _ (List.mem_of_getElem? (i := 0) rfl))))))))))
theorem qL_own_h1 : Cond.classLink RL 13 "java/lang/IllegalArgumentException" ∈ wsL_own := (List.mem_cons_of_mem _ (List.mem_append_left _ (List.mem_append_left _ (List.mem_append_left _ (List.mem_append_left _ (List.mem_append_left _ (List.mem_append_left _ (List.mem_append_left _ (List.mem_append_left _ (List.mem_of_getElem? (i := 1) rfl))))))))))
set_option maxHeartbeats 4000000 in
set_option maxRecDepth 100000 in
theorem c_L_own (l : Launch) (D : va_G) (g : Nat → Nat) (o0 x0 : Nat) (ua ub : Nat → Nat → Nat) (sz : Nat) (S : KC) (a1 : Int32) (a2 : Int32) (a3 : Int32) (a4 : Int32) (a5 : Int32) (hst : l.stackTraces = false) (hln : S.1 ≤ 120) (hnx : S.2.2.2.2.2.1 < 14) (hkc : S.2.2.2.2.2.2.1 ≤ 14) (hpt : ¬ 10 < S.2.2.1.1) (hp1 : S.2.2.1.1 = nI S.2.2.1.1.toNatClampNeg) (hp2 : S.2.2.1.1.toNatClampNeg ≤ 10) : kMw l D g yL_own wsL_own 40 1 6 [.ref x0, .int a1, .int a2, .int a3, .int a4, .int a5, .ref o0] (wK g o0 x0 ua ub S) sz (kd_X7_own S.2.2.1 a1 a2 a3 a4 a5) (wK g o0 x0 ua ub (sL_own a1 a2 a3 a4 a5 S)) := by
  refine k_enterW (nm := "own") (own := RL) (bytes := cL_own) (maxL := 8) (ret := (some .int)) (hh := [(0, 16, 19, 28), (0, 16, 23, 13)]) (Qf := fun A => kQi D (wK g o0 x0 ua ub (sL_own a1 a2 a3 a4 a5 S)) A (kd_X7_own S.2.2.1 a1 a2 a3 a4 a5)) (by decide) rfl rfl rfl (Nat.le_of_ble_eq_true rfl) ?_
  rintro pp ee s mm below meth cc A ls args Q H locs hQ ⟨hx, hb, hr, hml, hown, hts, hlocks, hin⟩ hex hP hK hD hA hS hE hX hl
  have hl : lv_has ls 8 [(0, .ref x0), (1, .int a1), (2, .int a2), (3, .int a3), (4, .int a4), (5, .int a5), (6, .ref o0)] := hl
  subst hQ
  refine lv_aload hx hb dL_own_0 (lv_at hl 6 rfl) ?_
  refine lv_iconst (v := 0) hx hb dL_own_2 (by decide) ?_
  refine lv_aload_n hx hb dL_own_3 rfl (lv_at hl 0 rfl) ?_
  refine lv_iload_n hx hb dL_own_4 rfl (lv_at hl 1 rfl) ?_
  refine lv_iload_n hx hb dL_own_5 rfl (lv_at hl 2 rfl) ?_
  refine lv_iload_n hx hb dL_own_6 rfl (lv_at hl 3 rfl) ?_
  refine lv_iload hx hb dL_own_7 (lv_at hl 4 rfl) ?_
  refine lv_iload hx hb dL_own_9 (lv_at hl 5 rfl) ?_
  by_cases hk : kd_X7_own S.2.2.1 a1 a2 a3 a4 a5 = 0
  ·
    have hC := c_X7_own l D g x0 (ua 0 0) (ua 1 0) (ua 2 0) (ua 3 0) (ua 4 0) (ua 5 0) (ua 6 0) (ua 1 2) (ua 1 4) (ua 1 1) (ua 1 3) (ua 1 5) (ua 4 1) H.size ub S.2.2.2.2.2.1 S.2.2.2.2.2.2.1 S.2.2.1 S.2.2.2.2.2.2.2.1 a1 a2 a3 a4 a5 hnx hkc hpt hk
    obtain ⟨F1, hF1⟩ : ∃ z, z = (f_X7_own S.2.2.2.2.2.1 S.2.2.2.2.2.2.1 S.2.2.1 S.2.2.2.2.2.2.2.1 a1 a2 a3 a4 a5) := ⟨_, rfl⟩
    rw [← hF1] at hC
    refine k_aiS2 (E := (wE g o0 x0 ua ub S)) (Ec := [(x0, .inr (7, [.ref (ua 0 0), .ref (ua 1 0), .ref (ua 2 0), .ref (ua 3 0), .ref (ua 4 0), .ref (ua 5 0), .ref (ua 6 0)])), ((ua 1 0), .inr (4, [.ref (ua 1 2), .ref (ua 1 4), .ref (ua 1 1), .int S.2.2.1.1, .int S.2.2.1.2.1, .int S.2.2.1.2.2.1, .int S.2.2.1.2.2.2.1, .int S.2.2.1.2.2.2.2.1, .int S.2.2.1.2.2.2.2.2.1])), ((ua 1 1), .inl (g 0, 80, .inl (S.2.2.1.2.2.2.2.2.2.1))), ((ua 1 2), .inr (1, [.ref (ua 1 3)])), ((ua 1 3), .inl (g 0, 480, .inl (S.2.2.1.2.2.2.2.2.2.2.1))), ((ua 1 4), .inr (0, [.ref (ua 1 5), .int S.2.2.1.2.2.2.2.2.2.2.2.1])), ((ua 1 5), .inl (g 0, 60, .inl (S.2.2.1.2.2.2.2.2.2.2.2.2))), ((ua 4 0), .inr (3, [.ref (ua 4 1), .int (nI S.2.2.2.2.2.1), .int (nI S.2.2.2.2.2.2.1)])), ((ua 4 1), .inl (g 3, 14, .inr (.inr (.inr (.inr (fun j => some (ub j 0)))))))]) (E1 := [(x0, .inr (7, [.ref (ua 0 0), .ref (ua 1 0), .ref (ua 2 0), .ref (ua 3 0), .ref (ua 4 0), .ref (ua 5 0), .ref (ua 6 0)])), ((ua 1 0), .inr (4, [.ref (ua 1 2), .ref (ua 1 4), .ref (ua 1 1), .int (F1.2.2.2.1.1), .int (F1.2.2.2.1.2.1), .int (F1.2.2.2.1.2.2.1), .int (F1.2.2.2.1.2.2.2.1), .int (F1.2.2.2.1.2.2.2.2.1), .int (F1.2.2.2.1.2.2.2.2.2.1)])), ((ua 1 1), .inl (g 0, 80, .inl (F1.2.2.2.1.2.2.2.2.2.2.1))), ((ua 1 2), .inr (1, [.ref (ua 1 3)])), ((ua 1 3), .inl (g 0, 480, .inl (F1.2.2.2.1.2.2.2.2.2.2.2.1))), ((ua 1 4), .inr (0, [.ref (ua 1 5), .int (F1.2.2.2.1.2.2.2.2.2.2.2.2.1)])), ((ua 1 5), .inl (g 0, 60, .inl (F1.2.2.2.1.2.2.2.2.2.2.2.2.2))), ((ua 4 0), .inr (3, [.ref (ua 4 1), .int (nI (F1.2.1)), .int (nI (F1.2.2.1))])), ((ua 4 1), .inl (g 3, 14, .inr (.inr (.inr (.inr (fun j => some (ub j 0)))))))]) (P := (wPool g ub S.2.2.2.2.2.2.2.1)) (P1 := (wPool g ub (F1.2.2.2.2))) (E2 := (wE g o0 x0 ua ub (S.1, S.2.1, F1.2.2.2.1, S.2.2.2.1, S.2.2.2.2.1, F1.2.1, F1.2.2.1, (F1.2.2.2.2), S.2.2.2.2.2.2.2.2.1, S.2.2.2.2.2.2.2.2.2.1, S.2.2.2.2.2.2.2.2.2.2.1, S.2.2.2.2.2.2.2.2.2.2.2))) (va_runV (As := [.int a1, .int a2, .int a3, .int a4, .int a5]) (rest := [.int 0, .ref o0]) ⟨hx, hb, hml, hown, hts⟩ hC (cwV 5 hts gL_own_X7_own rfl rfl rfl (by decide +kernel) (k_lvl (by omega) (by decide))) (kPV2 hP hD hK hS hA hE [1, 4, 5, 6, 7, 8, 9, 22, 23] rfl (by decide) 1 7 rfl rfl rfl) rfl rfl hl.1 rfl (lv_room (Nat.le_of_ble_eq_true rfl)) dL_own_11 ⟨Nat.le_of_ble_eq_true rfl, Nat.le_of_ble_eq_true rfl⟩) hP hD hS hA [1, 4, 5, 6, 7, 8, 9, 22, 23] rfl (by decide) rfl rfl (wPool_addr _ _ _ _) (fun H locs hP hD hS => ?_)
    have hP : va_P D vwCl (wK g o0 x0 ua ub (S.1, S.2.1, F1.2.2.2.1, S.2.2.2.1, S.2.2.2.2.1, F1.2.1, F1.2.2.1, (F1.2.2.2.2), S.2.2.2.2.2.2.2.2.1, S.2.2.2.2.2.2.2.2.2.1, S.2.2.2.2.2.2.2.2.2.2.1, S.2.2.2.2.2.2.2.2.2.2.2)) H := hP
    have hD : va_D A (wK g o0 x0 ua ub (S.1, S.2.1, F1.2.2.2.1, S.2.2.2.1, S.2.2.2.2.1, F1.2.1, F1.2.2.1, (F1.2.2.2.2), S.2.2.2.2.2.2.2.2.1, S.2.2.2.2.2.2.2.2.2.1, S.2.2.2.2.2.2.2.2.2.2.1, S.2.2.2.2.2.2.2.2.2.2.2)) := hD
    refine lv_i2l (v := Int32.toInt64 (F1.1)) hx hb dL_own_14 rfl ?_
    refine va_last (i := 0) (x := Int32.toInt64 (F1.1)) hx hb hK hP hD hS 0 4 rfl rfl (by unfold vp_in; decide) dL_own_15 (fun H locs hP hD hS => ?_)
    refine lv_goto (tgt := 27) hx hb dL_own_16 (by decide) ?_
    refine lv_iconst (v := 0) hx hb dL_own_27 (by decide) ?_
    refine W.widen (k := 1) (n := 6) (Nat.le_of_ble_eq_true rfl) (Nat.le_of_ble_eq_true rfl) ?_
    have hP : va_P D vwCl (wK g o0 x0 ua ub (S.1, S.2.1, F1.2.2.2.1, S.2.2.2.1, S.2.2.2.2.1, F1.2.1, F1.2.2.1, (F1.2.2.2.2), S.2.2.2.2.2.2.2.2.1, S.2.2.2.2.2.2.2.2.2.1, S.2.2.2.2.2.2.2.2.2.2.1, vp_updL S.2.2.2.2.2.2.2.2.2.2.2 0 (Int32.toInt64 (F1.1)))) H := hP
    have hD : va_D A (wK g o0 x0 ua ub (S.1, S.2.1, F1.2.2.2.1, S.2.2.2.1, S.2.2.2.2.1, F1.2.1, F1.2.2.1, (F1.2.2.2.2), S.2.2.2.2.2.2.2.2.1, S.2.2.2.2.2.2.2.2.2.1, S.2.2.2.2.2.2.2.2.2.2.1, vp_updL S.2.2.2.2.2.2.2.2.2.2.2 0 (Int32.toInt64 (F1.1)))) := hD
    subst hF1
    have hs : sL_own a1 a2 a3 a4 a5 S = (S.1, S.2.1, (f_X7_own S.2.2.2.2.2.1 S.2.2.2.2.2.2.1 S.2.2.1 S.2.2.2.2.2.2.2.1 a1 a2 a3 a4 a5).2.2.2.1, S.2.2.2.1, S.2.2.2.2.1, (f_X7_own S.2.2.2.2.2.1 S.2.2.2.2.2.2.1 S.2.2.1 S.2.2.2.2.2.2.2.1 a1 a2 a3 a4 a5).2.1, (f_X7_own S.2.2.2.2.2.1 S.2.2.2.2.2.2.1 S.2.2.1 S.2.2.2.2.2.2.2.1 a1 a2 a3 a4 a5).2.2.1, ((f_X7_own S.2.2.2.2.2.1 S.2.2.2.2.2.2.1 S.2.2.1 S.2.2.2.2.2.2.2.1 a1 a2 a3 a4 a5).2.2.2.2), S.2.2.2.2.2.2.2.2.1, S.2.2.2.2.2.2.2.2.2.1, S.2.2.2.2.2.2.2.2.2.2.1, vp_updL S.2.2.2.2.2.2.2.2.2.2.2 0 (Int32.toInt64 ((f_X7_own S.2.2.2.2.2.1 S.2.2.2.2.2.2.1 S.2.2.1 S.2.2.2.2.2.2.2.1 a1 a2 a3 a4 a5).1))) := if_pos hk
    rw [← hs] at hP hD
    exact k_ri hx hb hr hlocks hP hD hS dL_own_28 hk.symm rfl
  ·
    have hC := c_X7_own_x l D g x0 (ua 0 0) (ua 1 0) (ua 2 0) (ua 3 0) (ua 4 0) (ua 5 0) (ua 6 0) (ua 1 2) (ua 1 4) (ua 1 1) (ua 1 3) (ua 1 5) H.size S.2.2.1 a1 a2 a3 a4 a5 hst hk
    rcases kdc_own a1 a2 a3 a4 a5 S with h1 | h1 | h1
    · exact absurd h1 hk
    · rw [h1, show ex_X7_own 1 = "java/lang/IndexOutOfBoundsException" from rfl] at hC
      refine k_xc (E := "java/lang/IndexOutOfBoundsException") (mc := 1) (ms := 6) (vx_runV (As := [.int a1, .int a2, .int a3, .int a4, .int a5]) (rest := [.int 0, .ref o0]) ⟨hx, hb, hml, hown, hts⟩ hC (cwV 5 hts gL_own_X7_own rfl rfl rfl (by decide +kernel) (k_lvl (by omega) (by decide))) (kPVx hP hD hK hS hA hE hX [1, 4, 5, 6, 7, 8, 9] rfl (by decide) 1 7 rfl rfl rfl) rfl rfl hl.1 rfl (lv_room (Nat.le_of_ble_eq_true rfl)) dL_own_11 ⟨Nat.le_of_ble_eq_true rfl, Nat.le_of_ble_eq_true rfl⟩) hP hD hS hA [1, 4, 5, 6, 7, 8, 9] rfl (fun ce q9 H locs hP hS hc1 hc2 hc3 => ?_)
      refine k_catch1 (own := RL) (E := "java/lang/IndexOutOfBoundsException") hex hown hX (by decide) (by decide) (hts _ qL_own_h0) (by decide +kernel) hc1 hc2 hc3 ?_
      refine lv_astore (lv' := [(7, .ref q9), (0, .ref x0), (1, .int a1), (2, .int a2), (3, .int a3), (4, .int a4), (5, .int a5), (6, .ref o0)]) hx hb dL_own_19 hl (by decide) rfl (fun ls hl => ?_)
      refine lv_iconst (v := 1) hx hb dL_own_21 (by decide) ?_
      refine W.widen (k := 1) (n := 6) (Nat.le_of_ble_eq_true rfl) (Nat.le_of_ble_eq_true rfl) ?_
      have hs : sL_own a1 a2 a3 a4 a5 S = S := if_neg hk
      rw [← hs] at hP hD
      exact k_ri hx hb hr hlocks hP hD hS dL_own_22 h1.symm rfl
    · rw [h1, show ex_X7_own 2 = "java/lang/IllegalArgumentException" from rfl] at hC
      refine k_xc (E := "java/lang/IllegalArgumentException") (mc := 1) (ms := 6) (vx_runV (As := [.int a1, .int a2, .int a3, .int a4, .int a5]) (rest := [.int 0, .ref o0]) ⟨hx, hb, hml, hown, hts⟩ hC (cwV 5 hts gL_own_X7_own rfl rfl rfl (by decide +kernel) (k_lvl (by omega) (by decide))) (kPVx hP hD hK hS hA hE hX [1, 4, 5, 6, 7, 8, 9] rfl (by decide) 1 7 rfl rfl rfl) rfl rfl hl.1 rfl (lv_room (Nat.le_of_ble_eq_true rfl)) dL_own_11 ⟨Nat.le_of_ble_eq_true rfl, Nat.le_of_ble_eq_true rfl⟩) hP hD hS hA [1, 4, 5, 6, 7, 8, 9] rfl (fun ce q9 H locs hP hS hc1 hc2 hc3 => ?_)
      refine k_catch2 (own := RL) (E := "java/lang/IllegalArgumentException") (E1 := "java/lang/IndexOutOfBoundsException") hex hown hX (by decide) (hts _ qL_own_h0) (by decide +kernel) (by decide +kernel) (by decide) (by decide) (by decide) (hts _ qL_own_h1) (by decide +kernel) hc1 hc2 hc3 ?_
      refine lv_astore (lv' := [(7, .ref q9), (0, .ref x0), (1, .int a1), (2, .int a2), (3, .int a3), (4, .int a4), (5, .int a5), (6, .ref o0)]) hx hb dL_own_23 hl (by decide) rfl (fun ls hl => ?_)
      refine lv_iconst (v := 2) hx hb dL_own_25 (by decide) ?_
      refine W.widen (k := 1) (n := 6) (Nat.le_of_ble_eq_true rfl) (Nat.le_of_ble_eq_true rfl) ?_
      have hs : sL_own a1 a2 a3 a4 a5 S = S := if_neg hk
      rw [← hs] at hP hD
      exact k_ri hx hb hr hlocks hP hD hS dL_own_26 h1.symm rfl
theorem kdc_link (a1 : Int32) (a2 : Int32) (a3 : Int32) (a4 : Int32) (a5 : Int32) (a6 : Int32) (S : KC) : kd_X7_link S.2.2.1 a1 a2 a3 a4 a5 a6 = 0 ∨ kd_X7_link S.2.2.1 a1 a2 a3 a4 a5 a6 = 1 ∨ kd_X7_link S.2.2.1 a1 a2 a3 a4 a5 a6 = 2 := by
  unfold kd_X7_link
  try dsimp only
  repeat' split
  all_goals first | exact Or.inl rfl | exact Or.inr (Or.inl rfl) | exact Or.inr (Or.inr rfl)
theorem qL_link_h0 : Cond.classLink RL 28 "java/lang/IndexOutOfBoundsException" ∈ wsL_link := (List.mem_cons_of_mem _ (List.mem_append_left _ (List.mem_append_left _ (List.mem_append_left _ (List.mem_append_left _ (List.mem_append_left _ (List.mem_append_left _ (List.mem_append_left _ (List.mem_append_left _ (List.mem_of_getElem? (i := 0) rfl))))))))))
theorem qL_link_h1 : Cond.classLink RL 13 "java/lang/IllegalArgumentException" ∈ wsL_link := (List.mem_cons_of_mem _ (List.mem_append_left _ (List.mem_append_left _ (List.mem_append_left _ (List.mem_append_left _ (List.mem_append_left _ (List.mem_append_left _ (List.mem_append_left _ (List.mem_append_left _ (List.mem_of_getElem? (i := 1) rfl))))))))))
set_option maxHeartbeats 4000000 in
set_option maxRecDepth 100000 in
theorem c_L_link (l : Launch) (D : va_G) (g : Nat → Nat) (o0 x0 : Nat) (ua ub : Nat → Nat → Nat) (sz : Nat) (S : KC) (a1 : Int32) (a2 : Int32) (a3 : Int32) (a4 : Int32) (a5 : Int32) (a6 : Int32) (hst : l.stackTraces = false) (hln : S.1 ≤ 120) (hnx : S.2.2.2.2.2.1 < 14) (hkc : S.2.2.2.2.2.2.1 ≤ 14) (hpt : ¬ 10 < S.2.2.1.1) (hp1 : S.2.2.1.1 = nI S.2.2.1.1.toNatClampNeg) (hp2 : S.2.2.1.1.toNatClampNeg ≤ 10) : kMw l D g yL_link wsL_link 40 1 6 [.ref x0, .int a1, .int a2, .int a3, .int a4, .int a5, .int a6, .ref o0] (wK g o0 x0 ua ub S) sz (kd_X7_link S.2.2.1 a1 a2 a3 a4 a5 a6) (wK g o0 x0 ua ub (sL_link a1 a2 a3 a4 a5 a6 S)) := by
  refine k_enterW (nm := "link") (own := RL) (bytes := cL_link) (maxL := 9) (ret := (some .int)) (hh := [(0, 18, 21, 28), (0, 18, 25, 13)]) (Qf := fun A => kQi D (wK g o0 x0 ua ub (sL_link a1 a2 a3 a4 a5 a6 S)) A (kd_X7_link S.2.2.1 a1 a2 a3 a4 a5 a6)) (by decide) rfl rfl rfl (Nat.le_of_ble_eq_true rfl) ?_
  rintro pp ee s mm below meth cc A ls args Q H locs hQ ⟨hx, hb, hr, hml, hown, hts, hlocks, hin⟩ hex hP hK hD hA hS hE hX hl
  have hl : lv_has ls 9 [(0, .ref x0), (1, .int a1), (2, .int a2), (3, .int a3), (4, .int a4), (5, .int a5), (6, .int a6), (7, .ref o0)] := hl
  subst hQ
  refine lv_aload hx hb dL_link_0 (lv_at hl 7 rfl) ?_
  refine lv_iconst (v := 0) hx hb dL_link_2 (by decide) ?_
  refine lv_aload_n hx hb dL_link_3 rfl (lv_at hl 0 rfl) ?_
  refine lv_iload_n hx hb dL_link_4 rfl (lv_at hl 1 rfl) ?_
  refine lv_iload_n hx hb dL_link_5 rfl (lv_at hl 2 rfl) ?_
  refine lv_iload_n hx hb dL_link_6 rfl (lv_at hl 3 rfl) ?_
  refine lv_iload hx hb dL_link_7 (lv_at hl 4 rfl) ?_
  refine lv_iload hx hb dL_link_9 (lv_at hl 5 rfl) ?_
  refine lv_iload hx hb dL_link_11 (lv_at hl 6 rfl) ?_
  by_cases hk : kd_X7_link S.2.2.1 a1 a2 a3 a4 a5 a6 = 0
  ·
    have hC := c_X7_link l D g x0 (ua 0 0) (ua 1 0) (ua 2 0) (ua 3 0) (ua 4 0) (ua 5 0) (ua 6 0) (ua 1 2) (ua 1 4) (ua 1 1) (ua 1 3) (ua 1 5) (ua 4 1) H.size ub S.2.2.2.2.2.1 S.2.2.2.2.2.2.1 S.2.2.1 S.2.2.2.2.2.2.2.1 a1 a2 a3 a4 a5 a6 hnx hkc hpt hk
    obtain ⟨F1, hF1⟩ : ∃ z, z = (f_X7_link S.2.2.2.2.2.1 S.2.2.2.2.2.2.1 S.2.2.1 S.2.2.2.2.2.2.2.1 a1 a2 a3 a4 a5 a6) := ⟨_, rfl⟩
    rw [← hF1] at hC
    refine k_aiS2 (E := (wE g o0 x0 ua ub S)) (Ec := [(x0, .inr (7, [.ref (ua 0 0), .ref (ua 1 0), .ref (ua 2 0), .ref (ua 3 0), .ref (ua 4 0), .ref (ua 5 0), .ref (ua 6 0)])), ((ua 1 0), .inr (4, [.ref (ua 1 2), .ref (ua 1 4), .ref (ua 1 1), .int S.2.2.1.1, .int S.2.2.1.2.1, .int S.2.2.1.2.2.1, .int S.2.2.1.2.2.2.1, .int S.2.2.1.2.2.2.2.1, .int S.2.2.1.2.2.2.2.2.1])), ((ua 1 1), .inl (g 0, 80, .inl (S.2.2.1.2.2.2.2.2.2.1))), ((ua 1 2), .inr (1, [.ref (ua 1 3)])), ((ua 1 3), .inl (g 0, 480, .inl (S.2.2.1.2.2.2.2.2.2.2.1))), ((ua 1 4), .inr (0, [.ref (ua 1 5), .int S.2.2.1.2.2.2.2.2.2.2.2.1])), ((ua 1 5), .inl (g 0, 60, .inl (S.2.2.1.2.2.2.2.2.2.2.2.2))), ((ua 4 0), .inr (3, [.ref (ua 4 1), .int (nI S.2.2.2.2.2.1), .int (nI S.2.2.2.2.2.2.1)])), ((ua 4 1), .inl (g 3, 14, .inr (.inr (.inr (.inr (fun j => some (ub j 0)))))))]) (E1 := [(x0, .inr (7, [.ref (ua 0 0), .ref (ua 1 0), .ref (ua 2 0), .ref (ua 3 0), .ref (ua 4 0), .ref (ua 5 0), .ref (ua 6 0)])), ((ua 1 0), .inr (4, [.ref (ua 1 2), .ref (ua 1 4), .ref (ua 1 1), .int (F1.2.2.2.1.1), .int (F1.2.2.2.1.2.1), .int (F1.2.2.2.1.2.2.1), .int (F1.2.2.2.1.2.2.2.1), .int (F1.2.2.2.1.2.2.2.2.1), .int (F1.2.2.2.1.2.2.2.2.2.1)])), ((ua 1 1), .inl (g 0, 80, .inl (F1.2.2.2.1.2.2.2.2.2.2.1))), ((ua 1 2), .inr (1, [.ref (ua 1 3)])), ((ua 1 3), .inl (g 0, 480, .inl (F1.2.2.2.1.2.2.2.2.2.2.2.1))), ((ua 1 4), .inr (0, [.ref (ua 1 5), .int (F1.2.2.2.1.2.2.2.2.2.2.2.2.1)])), ((ua 1 5), .inl (g 0, 60, .inl (F1.2.2.2.1.2.2.2.2.2.2.2.2.2))), ((ua 4 0), .inr (3, [.ref (ua 4 1), .int (nI (F1.2.1)), .int (nI (F1.2.2.1))])), ((ua 4 1), .inl (g 3, 14, .inr (.inr (.inr (.inr (fun j => some (ub j 0)))))))]) (P := (wPool g ub S.2.2.2.2.2.2.2.1)) (P1 := (wPool g ub (F1.2.2.2.2))) (E2 := (wE g o0 x0 ua ub (S.1, S.2.1, F1.2.2.2.1, S.2.2.2.1, S.2.2.2.2.1, F1.2.1, F1.2.2.1, (F1.2.2.2.2), S.2.2.2.2.2.2.2.2.1, S.2.2.2.2.2.2.2.2.2.1, S.2.2.2.2.2.2.2.2.2.2.1, S.2.2.2.2.2.2.2.2.2.2.2))) (va_runV (As := [.int a1, .int a2, .int a3, .int a4, .int a5, .int a6]) (rest := [.int 0, .ref o0]) ⟨hx, hb, hml, hown, hts⟩ hC (cwV 6 hts gL_link_X7_link rfl rfl rfl (by decide +kernel) (k_lvl (by omega) (by decide))) (kPV2 hP hD hK hS hA hE [1, 4, 5, 6, 7, 8, 9, 22, 23] rfl (by decide) 1 7 rfl rfl rfl) rfl rfl hl.1 rfl (lv_room (Nat.le_of_ble_eq_true rfl)) dL_link_13 ⟨Nat.le_of_ble_eq_true rfl, Nat.le_of_ble_eq_true rfl⟩) hP hD hS hA [1, 4, 5, 6, 7, 8, 9, 22, 23] rfl (by decide) rfl rfl (wPool_addr _ _ _ _) (fun H locs hP hD hS => ?_)
    have hP : va_P D vwCl (wK g o0 x0 ua ub (S.1, S.2.1, F1.2.2.2.1, S.2.2.2.1, S.2.2.2.2.1, F1.2.1, F1.2.2.1, (F1.2.2.2.2), S.2.2.2.2.2.2.2.2.1, S.2.2.2.2.2.2.2.2.2.1, S.2.2.2.2.2.2.2.2.2.2.1, S.2.2.2.2.2.2.2.2.2.2.2)) H := hP
    have hD : va_D A (wK g o0 x0 ua ub (S.1, S.2.1, F1.2.2.2.1, S.2.2.2.1, S.2.2.2.2.1, F1.2.1, F1.2.2.1, (F1.2.2.2.2), S.2.2.2.2.2.2.2.2.1, S.2.2.2.2.2.2.2.2.2.1, S.2.2.2.2.2.2.2.2.2.2.1, S.2.2.2.2.2.2.2.2.2.2.2)) := hD
    refine lv_i2l (v := Int32.toInt64 (F1.1)) hx hb dL_link_16 rfl ?_
    refine va_last (i := 0) (x := Int32.toInt64 (F1.1)) hx hb hK hP hD hS 0 4 rfl rfl (by unfold vp_in; decide) dL_link_17 (fun H locs hP hD hS => ?_)
    refine lv_goto (tgt := 29) hx hb dL_link_18 (by decide) ?_
    refine lv_iconst (v := 0) hx hb dL_link_29 (by decide) ?_
    refine W.widen (k := 1) (n := 6) (Nat.le_of_ble_eq_true rfl) (Nat.le_of_ble_eq_true rfl) ?_
    have hP : va_P D vwCl (wK g o0 x0 ua ub (S.1, S.2.1, F1.2.2.2.1, S.2.2.2.1, S.2.2.2.2.1, F1.2.1, F1.2.2.1, (F1.2.2.2.2), S.2.2.2.2.2.2.2.2.1, S.2.2.2.2.2.2.2.2.2.1, S.2.2.2.2.2.2.2.2.2.2.1, vp_updL S.2.2.2.2.2.2.2.2.2.2.2 0 (Int32.toInt64 (F1.1)))) H := hP
    have hD : va_D A (wK g o0 x0 ua ub (S.1, S.2.1, F1.2.2.2.1, S.2.2.2.1, S.2.2.2.2.1, F1.2.1, F1.2.2.1, (F1.2.2.2.2), S.2.2.2.2.2.2.2.2.1, S.2.2.2.2.2.2.2.2.2.1, S.2.2.2.2.2.2.2.2.2.2.1, vp_updL S.2.2.2.2.2.2.2.2.2.2.2 0 (Int32.toInt64 (F1.1)))) := hD
    subst hF1
    have hs : sL_link a1 a2 a3 a4 a5 a6 S = (S.1, S.2.1, (f_X7_link S.2.2.2.2.2.1 S.2.2.2.2.2.2.1 S.2.2.1 S.2.2.2.2.2.2.2.1 a1 a2 a3 a4 a5 a6).2.2.2.1, S.2.2.2.1, S.2.2.2.2.1, (f_X7_link S.2.2.2.2.2.1 S.2.2.2.2.2.2.1 S.2.2.1 S.2.2.2.2.2.2.2.1 a1 a2 a3 a4 a5 a6).2.1, (f_X7_link S.2.2.2.2.2.1 S.2.2.2.2.2.2.1 S.2.2.1 S.2.2.2.2.2.2.2.1 a1 a2 a3 a4 a5 a6).2.2.1, ((f_X7_link S.2.2.2.2.2.1 S.2.2.2.2.2.2.1 S.2.2.1 S.2.2.2.2.2.2.2.1 a1 a2 a3 a4 a5 a6).2.2.2.2), S.2.2.2.2.2.2.2.2.1, S.2.2.2.2.2.2.2.2.2.1, S.2.2.2.2.2.2.2.2.2.2.1, vp_updL S.2.2.2.2.2.2.2.2.2.2.2 0 (Int32.toInt64 ((f_X7_link S.2.2.2.2.2.1 S.2.2.2.2.2.2.1 S.2.2.1 S.2.2.2.2.2.2.2.1 a1 a2 a3 a4 a5 a6).1))) := if_pos hk
    rw [← hs] at hP hD
    exact k_ri hx hb hr hlocks hP hD hS dL_link_30 hk.symm rfl
  ·
    have hC := c_X7_link_x l D g x0 (ua 0 0) (ua 1 0) (ua 2 0) (ua 3 0) (ua 4 0) (ua 5 0) (ua 6 0) (ua 1 2) (ua 1 4) (ua 1 1) (ua 1 3) (ua 1 5) H.size S.2.2.1 a1 a2 a3 a4 a5 a6 hst hk
    rcases kdc_link a1 a2 a3 a4 a5 a6 S with h1 | h1 | h1
    · exact absurd h1 hk
    · rw [h1, show ex_X7_link 1 = "java/lang/IndexOutOfBoundsException" from rfl] at hC
      refine k_xc (E := "java/lang/IndexOutOfBoundsException") (mc := 1) (ms := 6) (vx_runV (As := [.int a1, .int a2, .int a3, .int a4, .int a5, .int a6]) (rest := [.int 0, .ref o0]) ⟨hx, hb, hml, hown, hts⟩ hC (cwV 6 hts gL_link_X7_link rfl rfl rfl (by decide +kernel) (k_lvl (by omega) (by decide))) (kPVx hP hD hK hS hA hE hX [1, 4, 5, 6, 7, 8, 9] rfl (by decide) 1 7 rfl rfl rfl) rfl rfl hl.1 rfl (lv_room (Nat.le_of_ble_eq_true rfl)) dL_link_13 ⟨Nat.le_of_ble_eq_true rfl, Nat.le_of_ble_eq_true rfl⟩) hP hD hS hA [1, 4, 5, 6, 7, 8, 9] rfl (fun ce q9 H locs hP hS hc1 hc2 hc3 => ?_)
      refine k_catch1 (own := RL) (E := "java/lang/IndexOutOfBoundsException") hex hown hX (by decide) (by decide) (hts _ qL_link_h0) (by decide +kernel) hc1 hc2 hc3 ?_
      refine lv_astore (lv' := [(8, .ref q9), (0, .ref x0), (1, .int a1), (2, .int a2), (3, .int a3), (4, .int a4), (5, .int a5), (6, .int a6), (7, .ref o0)]) hx hb dL_link_21 hl (by decide) rfl (fun ls hl => ?_)
      refine lv_iconst (v := 1) hx hb dL_link_23 (by decide) ?_
      refine W.widen (k := 1) (n := 6) (Nat.le_of_ble_eq_true rfl) (Nat.le_of_ble_eq_true rfl) ?_
      have hs : sL_link a1 a2 a3 a4 a5 a6 S = S := if_neg hk
      rw [← hs] at hP hD
      exact k_ri hx hb hr hlocks hP hD hS dL_link_24 h1.symm rfl
    · rw [h1, show ex_X7_link 2 = "java/lang/IllegalArgumentException" from rfl] at hC
      refine k_xc (E := "java/lang/IllegalArgumentException") (mc := 1) (ms := 6) (vx_runV (As := [.int a1, .int a2, .int a3, .int a4, .int a5, .int a6]) (rest := [.int 0, .ref o0]) ⟨hx, hb, hml, hown, hts⟩ hC (cwV 6 hts gL_link_X7_link rfl rfl rfl (by decide +kernel) (k_lvl (by omega) (by decide))) (kPVx hP hD hK hS hA hE hX [1, 4, 5, 6, 7, 8, 9] rfl (by decide) 1 7 rfl rfl rfl) rfl rfl hl.1 rfl (lv_room (Nat.le_of_ble_eq_true rfl)) dL_link_13 ⟨Nat.le_of_ble_eq_true rfl, Nat.le_of_ble_eq_true rfl⟩) hP hD hS hA [1, 4, 5, 6, 7, 8, 9] rfl (fun ce q9 H locs hP hS hc1 hc2 hc3 => ?_)
      refine k_catch2 (own := RL) (E := "java/lang/IllegalArgumentException") (E1 := "java/lang/IndexOutOfBoundsException") hex hown hX (by decide) (hts _ qL_link_h0) (by decide +kernel) (by decide +kernel) (by decide) (by decide) (by decide) (hts _ qL_link_h1) (by decide +kernel) hc1 hc2 hc3 ?_
      refine lv_astore (lv' := [(8, .ref q9), (0, .ref x0), (1, .int a1), (2, .int a2), (3, .int a3), (4, .int a4), (5, .int a5), (6, .int a6), (7, .ref o0)]) hx hb dL_link_25 hl (by decide) rfl (fun ls hl => ?_)
      refine lv_iconst (v := 2) hx hb dL_link_27 (by decide) ?_
      refine W.widen (k := 1) (n := 6) (Nat.le_of_ble_eq_true rfl) (Nat.le_of_ble_eq_true rfl) ?_
      have hs : sL_link a1 a2 a3 a4 a5 a6 S = S := if_neg hk
      rw [← hs] at hP hD
      exact k_ri hx hb hr hlocks hP hD hS dL_link_28 h1.symm rfl
theorem kdc_drop (a1 : Int32) (a2 : Int32) (S : KC) : kd_X7_drop S.2.2.1 a1 a2 = 0 ∨ kd_X7_drop S.2.2.1 a1 a2 = 1 := by
  unfold kd_X7_drop
  try dsimp only
  repeat' split
  all_goals first | exact Or.inl rfl | exact Or.inr rfl
theorem qL_drop_h0 : Cond.classLink RL 28 "java/lang/IndexOutOfBoundsException" ∈ wsL_drop := (List.mem_cons_of_mem _ (List.mem_append_left _ (List.mem_append_left _ (List.mem_append_left _ (List.mem_append_left _ (List.mem_append_left _ (List.mem_append_left _ (List.mem_append_left _ (List.mem_of_getElem? (i := 0) rfl)))))))))
set_option maxHeartbeats 4000000 in
set_option maxRecDepth 100000 in
theorem c_L_drop (l : Launch) (D : va_G) (g : Nat → Nat) (o0 x0 : Nat) (ua ub : Nat → Nat → Nat) (sz : Nat) (S : KC) (a1 : Int32) (a2 : Int32) (hst : l.stackTraces = false) (hln : S.1 ≤ 120) (hnx : S.2.2.2.2.2.1 < 14) (hkc : S.2.2.2.2.2.2.1 ≤ 14) (hpt : ¬ 10 < S.2.2.1.1) (hp1 : S.2.2.1.1 = nI S.2.2.1.1.toNatClampNeg) (hp2 : S.2.2.1.1.toNatClampNeg ≤ 10) : kMw l D g yL_drop wsL_drop 40 1 6 [.ref x0, .int a1, .int a2, .ref o0] (wK g o0 x0 ua ub S) sz (kd_X7_drop S.2.2.1 a1 a2) (wK g o0 x0 ua ub (sL_drop a1 a2 S)) := by
  refine k_enterW (nm := "drop") (own := RL) (bytes := cL_drop) (maxL := 5) (ret := (some .int)) (hh := [(0, 10, 13, 28)]) (Qf := fun A => kQi D (wK g o0 x0 ua ub (sL_drop a1 a2 S)) A (kd_X7_drop S.2.2.1 a1 a2)) (by decide) rfl rfl rfl (Nat.le_of_ble_eq_true rfl) ?_
  rintro pp ee s mm below meth cc A ls args Q H locs hQ ⟨hx, hb, hr, hml, hown, hts, hlocks, hin⟩ hex hP hK hD hA hS hE hX hl
  have hl : lv_has ls 5 [(0, .ref x0), (1, .int a1), (2, .int a2), (3, .ref o0)] := hl
  subst hQ
  refine lv_aload_n hx hb dL_drop_0 rfl (lv_at hl 3 rfl) ?_
  refine lv_iconst (v := 0) hx hb dL_drop_1 (by decide) ?_
  refine lv_aload_n hx hb dL_drop_2 rfl (lv_at hl 0 rfl) ?_
  refine lv_iload_n hx hb dL_drop_3 rfl (lv_at hl 1 rfl) ?_
  refine lv_iload_n hx hb dL_drop_4 rfl (lv_at hl 2 rfl) ?_
  by_cases hk : kd_X7_drop S.2.2.1 a1 a2 = 0
  ·
    have hC := c_X7_drop l D g x0 (ua 0 0) (ua 1 0) (ua 2 0) (ua 3 0) (ua 4 0) (ua 5 0) (ua 6 0) (ua 1 2) (ua 1 4) (ua 1 1) (ua 1 3) (ua 1 5) (ua 4 1) H.size ub S.2.2.2.2.2.1 S.2.2.2.2.2.2.1 S.2.2.1 S.2.2.2.2.2.2.2.1 a1 a2 hnx hkc hk
    obtain ⟨F1, hF1⟩ : ∃ z, z = (f_X7_drop S.2.2.2.2.2.1 S.2.2.2.2.2.2.1 S.2.2.1 S.2.2.2.2.2.2.2.1 a1 a2) := ⟨_, rfl⟩
    rw [← hF1] at hC
    refine k_aiS2 (E := (wE g o0 x0 ua ub S)) (Ec := [(x0, .inr (7, [.ref (ua 0 0), .ref (ua 1 0), .ref (ua 2 0), .ref (ua 3 0), .ref (ua 4 0), .ref (ua 5 0), .ref (ua 6 0)])), ((ua 1 0), .inr (4, [.ref (ua 1 2), .ref (ua 1 4), .ref (ua 1 1), .int S.2.2.1.1, .int S.2.2.1.2.1, .int S.2.2.1.2.2.1, .int S.2.2.1.2.2.2.1, .int S.2.2.1.2.2.2.2.1, .int S.2.2.1.2.2.2.2.2.1])), ((ua 1 1), .inl (g 0, 80, .inl (S.2.2.1.2.2.2.2.2.2.1))), ((ua 1 2), .inr (1, [.ref (ua 1 3)])), ((ua 1 3), .inl (g 0, 480, .inl (S.2.2.1.2.2.2.2.2.2.2.1))), ((ua 1 4), .inr (0, [.ref (ua 1 5), .int S.2.2.1.2.2.2.2.2.2.2.2.1])), ((ua 1 5), .inl (g 0, 60, .inl (S.2.2.1.2.2.2.2.2.2.2.2.2))), ((ua 4 0), .inr (3, [.ref (ua 4 1), .int (nI S.2.2.2.2.2.1), .int (nI S.2.2.2.2.2.2.1)])), ((ua 4 1), .inl (g 3, 14, .inr (.inr (.inr (.inr (fun j => some (ub j 0)))))))]) (E1 := [(x0, .inr (7, [.ref (ua 0 0), .ref (ua 1 0), .ref (ua 2 0), .ref (ua 3 0), .ref (ua 4 0), .ref (ua 5 0), .ref (ua 6 0)])), ((ua 1 0), .inr (4, [.ref (ua 1 2), .ref (ua 1 4), .ref (ua 1 1), .int (F1.2.2.2.1.1), .int (F1.2.2.2.1.2.1), .int (F1.2.2.2.1.2.2.1), .int (F1.2.2.2.1.2.2.2.1), .int (F1.2.2.2.1.2.2.2.2.1), .int (F1.2.2.2.1.2.2.2.2.2.1)])), ((ua 1 1), .inl (g 0, 80, .inl (F1.2.2.2.1.2.2.2.2.2.2.1))), ((ua 1 2), .inr (1, [.ref (ua 1 3)])), ((ua 1 3), .inl (g 0, 480, .inl (F1.2.2.2.1.2.2.2.2.2.2.2.1))), ((ua 1 4), .inr (0, [.ref (ua 1 5), .int (F1.2.2.2.1.2.2.2.2.2.2.2.2.1)])), ((ua 1 5), .inl (g 0, 60, .inl (F1.2.2.2.1.2.2.2.2.2.2.2.2.2))), ((ua 4 0), .inr (3, [.ref (ua 4 1), .int (nI (F1.2.1)), .int (nI (F1.2.2.1))])), ((ua 4 1), .inl (g 3, 14, .inr (.inr (.inr (.inr (fun j => some (ub j 0)))))))]) (P := (wPool g ub S.2.2.2.2.2.2.2.1)) (P1 := (wPool g ub (F1.2.2.2.2))) (E2 := (wE g o0 x0 ua ub (S.1, S.2.1, F1.2.2.2.1, S.2.2.2.1, S.2.2.2.2.1, F1.2.1, F1.2.2.1, (F1.2.2.2.2), S.2.2.2.2.2.2.2.2.1, S.2.2.2.2.2.2.2.2.2.1, S.2.2.2.2.2.2.2.2.2.2.1, S.2.2.2.2.2.2.2.2.2.2.2))) (va_runV (As := [.int a1, .int a2]) (rest := [.int 0, .ref o0]) ⟨hx, hb, hml, hown, hts⟩ hC (cwV 2 hts gL_drop_X7_drop rfl rfl rfl (by decide +kernel) (k_lvl (by omega) (by decide))) (kPV2 hP hD hK hS hA hE [1, 4, 5, 6, 7, 8, 9, 22, 23] rfl (by decide) 1 7 rfl rfl rfl) rfl rfl hl.1 rfl (lv_room (Nat.le_of_ble_eq_true rfl)) dL_drop_5 ⟨Nat.le_of_ble_eq_true rfl, Nat.le_of_ble_eq_true rfl⟩) hP hD hS hA [1, 4, 5, 6, 7, 8, 9, 22, 23] rfl (by decide) rfl rfl (wPool_addr _ _ _ _) (fun H locs hP hD hS => ?_)
    have hP : va_P D vwCl (wK g o0 x0 ua ub (S.1, S.2.1, F1.2.2.2.1, S.2.2.2.1, S.2.2.2.2.1, F1.2.1, F1.2.2.1, (F1.2.2.2.2), S.2.2.2.2.2.2.2.2.1, S.2.2.2.2.2.2.2.2.2.1, S.2.2.2.2.2.2.2.2.2.2.1, S.2.2.2.2.2.2.2.2.2.2.2)) H := hP
    have hD : va_D A (wK g o0 x0 ua ub (S.1, S.2.1, F1.2.2.2.1, S.2.2.2.1, S.2.2.2.2.1, F1.2.1, F1.2.2.1, (F1.2.2.2.2), S.2.2.2.2.2.2.2.2.1, S.2.2.2.2.2.2.2.2.2.1, S.2.2.2.2.2.2.2.2.2.2.1, S.2.2.2.2.2.2.2.2.2.2.2)) := hD
    refine lv_i2l (v := Int32.toInt64 (F1.1)) hx hb dL_drop_8 rfl ?_
    refine va_last (i := 0) (x := Int32.toInt64 (F1.1)) hx hb hK hP hD hS 0 4 rfl rfl (by unfold vp_in; decide) dL_drop_9 (fun H locs hP hD hS => ?_)
    refine lv_goto (tgt := 17) hx hb dL_drop_10 (by decide) ?_
    refine lv_iconst (v := 0) hx hb dL_drop_17 (by decide) ?_
    refine W.widen (k := 1) (n := 6) (Nat.le_of_ble_eq_true rfl) (Nat.le_of_ble_eq_true rfl) ?_
    have hP : va_P D vwCl (wK g o0 x0 ua ub (S.1, S.2.1, F1.2.2.2.1, S.2.2.2.1, S.2.2.2.2.1, F1.2.1, F1.2.2.1, (F1.2.2.2.2), S.2.2.2.2.2.2.2.2.1, S.2.2.2.2.2.2.2.2.2.1, S.2.2.2.2.2.2.2.2.2.2.1, vp_updL S.2.2.2.2.2.2.2.2.2.2.2 0 (Int32.toInt64 (F1.1)))) H := hP
    have hD : va_D A (wK g o0 x0 ua ub (S.1, S.2.1, F1.2.2.2.1, S.2.2.2.1, S.2.2.2.2.1, F1.2.1, F1.2.2.1, (F1.2.2.2.2), S.2.2.2.2.2.2.2.2.1, S.2.2.2.2.2.2.2.2.2.1, S.2.2.2.2.2.2.2.2.2.2.1, vp_updL S.2.2.2.2.2.2.2.2.2.2.2 0 (Int32.toInt64 (F1.1)))) := hD
    subst hF1
    have hs : sL_drop a1 a2 S = (S.1, S.2.1, (f_X7_drop S.2.2.2.2.2.1 S.2.2.2.2.2.2.1 S.2.2.1 S.2.2.2.2.2.2.2.1 a1 a2).2.2.2.1, S.2.2.2.1, S.2.2.2.2.1, (f_X7_drop S.2.2.2.2.2.1 S.2.2.2.2.2.2.1 S.2.2.1 S.2.2.2.2.2.2.2.1 a1 a2).2.1, (f_X7_drop S.2.2.2.2.2.1 S.2.2.2.2.2.2.1 S.2.2.1 S.2.2.2.2.2.2.2.1 a1 a2).2.2.1, ((f_X7_drop S.2.2.2.2.2.1 S.2.2.2.2.2.2.1 S.2.2.1 S.2.2.2.2.2.2.2.1 a1 a2).2.2.2.2), S.2.2.2.2.2.2.2.2.1, S.2.2.2.2.2.2.2.2.2.1, S.2.2.2.2.2.2.2.2.2.2.1, vp_updL S.2.2.2.2.2.2.2.2.2.2.2 0 (Int32.toInt64 ((f_X7_drop S.2.2.2.2.2.1 S.2.2.2.2.2.2.1 S.2.2.1 S.2.2.2.2.2.2.2.1 a1 a2).1))) := if_pos hk
    rw [← hs] at hP hD
    exact k_ri hx hb hr hlocks hP hD hS dL_drop_18 hk.symm rfl
  ·
    have hC := c_X7_drop_x l D g x0 (ua 0 0) (ua 1 0) (ua 2 0) (ua 3 0) (ua 4 0) (ua 5 0) (ua 6 0) (ua 1 2) (ua 1 4) (ua 1 1) (ua 1 3) (ua 1 5) H.size S.2.2.1 a1 a2 hst hk
    rcases kdc_drop a1 a2 S with h1 | h1
    · exact absurd h1 hk
    · rw [h1, show ex_X7_drop 1 = "java/lang/IndexOutOfBoundsException" from rfl] at hC
      refine k_xc (E := "java/lang/IndexOutOfBoundsException") (mc := 1) (ms := 6) (vx_runV (As := [.int a1, .int a2]) (rest := [.int 0, .ref o0]) ⟨hx, hb, hml, hown, hts⟩ hC (cwV 2 hts gL_drop_X7_drop rfl rfl rfl (by decide +kernel) (k_lvl (by omega) (by decide))) (kPVx hP hD hK hS hA hE hX [1, 4, 5, 6, 7, 8, 9] rfl (by decide) 1 7 rfl rfl rfl) rfl rfl hl.1 rfl (lv_room (Nat.le_of_ble_eq_true rfl)) dL_drop_5 ⟨Nat.le_of_ble_eq_true rfl, Nat.le_of_ble_eq_true rfl⟩) hP hD hS hA [1, 4, 5, 6, 7, 8, 9] rfl (fun ce q9 H locs hP hS hc1 hc2 hc3 => ?_)
      refine k_catch1 (own := RL) (E := "java/lang/IndexOutOfBoundsException") hex hown hX (by decide) (by decide) (hts _ qL_drop_h0) (by decide +kernel) hc1 hc2 hc3 ?_
      refine lv_astore (lv' := [(4, .ref q9), (0, .ref x0), (1, .int a1), (2, .int a2), (3, .ref o0)]) hx hb dL_drop_13 hl (by decide) rfl (fun ls hl => ?_)
      refine lv_iconst (v := 1) hx hb dL_drop_15 (by decide) ?_
      refine W.widen (k := 1) (n := 6) (Nat.le_of_ble_eq_true rfl) (Nat.le_of_ble_eq_true rfl) ?_
      have hs : sL_drop a1 a2 S = S := if_neg hk
      rw [← hs] at hP hD
      exact k_ri hx hb hr hlocks hP hD hS dL_drop_16 h1.symm rfl
theorem kdc_call (a1 : Int32) (a2 : Int32) (S : KC) : kd_X7_call S.2.2.1 a1 a2 = 0 ∨ kd_X7_call S.2.2.1 a1 a2 = 1 ∨ kd_X7_call S.2.2.1 a1 a2 = 2 := by
  unfold kd_X7_call
  try dsimp only
  repeat' split
  all_goals first | exact Or.inl rfl | exact Or.inr (Or.inl rfl) | exact Or.inr (Or.inr rfl)
theorem qL_call_h0 : Cond.classLink RL 28 "java/lang/IndexOutOfBoundsException" ∈ wsL_call := (List.mem_cons_of_mem _ (List.mem_append_left _ (List.mem_append_left _ (List.mem_append_left _ (List.mem_append_left _ (List.mem_append_left _ (List.mem_append_left _ (List.mem_append_left _ (List.mem_append_left _ (List.mem_of_getElem? (i := 0) rfl))))))))))
theorem qL_call_h1 : Cond.classLink RL 13 "java/lang/IllegalArgumentException" ∈ wsL_call := (List.mem_cons_of_mem _ (List.mem_append_left _ (List.mem_append_left _ (List.mem_append_left _ (List.mem_append_left _ (List.mem_append_left _ (List.mem_append_left _ (List.mem_append_left _ (List.mem_append_left _ (List.mem_of_getElem? (i := 1) rfl))))))))))
set_option maxHeartbeats 4000000 in
set_option maxRecDepth 100000 in
theorem c_L_call (l : Launch) (D : va_G) (g : Nat → Nat) (o0 x0 : Nat) (ua ub : Nat → Nat → Nat) (sz : Nat) (S : KC) (a1 : Int32) (a2 : Int32) (hst : l.stackTraces = false) (hln : S.1 ≤ 120) (hnx : S.2.2.2.2.2.1 < 14) (hkc : S.2.2.2.2.2.2.1 ≤ 14) (hpt : ¬ 10 < S.2.2.1.1) (hp1 : S.2.2.1.1 = nI S.2.2.1.1.toNatClampNeg) (hp2 : S.2.2.1.1.toNatClampNeg ≤ 10) : kMw l D g yL_call wsL_call 40 1 6 [.ref x0, .int a1, .int a2, .ref o0] (wK g o0 x0 ua ub S) sz (kd_X7_call S.2.2.1 a1 a2) (wK g o0 x0 ua ub (sL_call a1 a2 S)) := by
  refine k_enterW (nm := "call") (own := RL) (bytes := cL_call) (maxL := 5) (ret := (some .int)) (hh := [(0, 10, 13, 28), (0, 10, 17, 13)]) (Qf := fun A => kQi D (wK g o0 x0 ua ub (sL_call a1 a2 S)) A (kd_X7_call S.2.2.1 a1 a2)) (by decide) rfl rfl rfl (Nat.le_of_ble_eq_true rfl) ?_
  rintro pp ee s mm below meth cc A ls args Q H locs hQ ⟨hx, hb, hr, hml, hown, hts, hlocks, hin⟩ hex hP hK hD hA hS hE hX hl
  have hl : lv_has ls 5 [(0, .ref x0), (1, .int a1), (2, .int a2), (3, .ref o0)] := hl
  subst hQ
  refine lv_aload_n hx hb dL_call_0 rfl (lv_at hl 3 rfl) ?_
  refine lv_iconst (v := 0) hx hb dL_call_1 (by decide) ?_
  refine lv_aload_n hx hb dL_call_2 rfl (lv_at hl 0 rfl) ?_
  refine lv_iload_n hx hb dL_call_3 rfl (lv_at hl 1 rfl) ?_
  refine lv_iload_n hx hb dL_call_4 rfl (lv_at hl 2 rfl) ?_
  by_cases hk : kd_X7_call S.2.2.1 a1 a2 = 0
  ·
    have hC := c_X7_call l D g x0 (ua 0 0) (ua 1 0) (ua 2 0) (ua 3 0) (ua 4 0) (ua 5 0) (ua 6 0) (ua 1 2) (ua 1 4) (ua 1 1) (ua 1 3) (ua 1 5) (ua 4 1) H.size ub S.2.2.2.2.2.1 S.2.2.2.2.2.2.1 S.2.2.1 S.2.2.2.2.2.2.2.1 a1 a2 hnx hkc hk
    obtain ⟨F1, hF1⟩ : ∃ z, z = (f_X7_call S.2.2.2.2.2.1 S.2.2.2.2.2.2.1 S.2.2.1 S.2.2.2.2.2.2.2.1 a1 a2) := ⟨_, rfl⟩
    rw [← hF1] at hC
    refine k_aiS2 (E := (wE g o0 x0 ua ub S)) (Ec := [(x0, .inr (7, [.ref (ua 0 0), .ref (ua 1 0), .ref (ua 2 0), .ref (ua 3 0), .ref (ua 4 0), .ref (ua 5 0), .ref (ua 6 0)])), ((ua 1 0), .inr (4, [.ref (ua 1 2), .ref (ua 1 4), .ref (ua 1 1), .int S.2.2.1.1, .int S.2.2.1.2.1, .int S.2.2.1.2.2.1, .int S.2.2.1.2.2.2.1, .int S.2.2.1.2.2.2.2.1, .int S.2.2.1.2.2.2.2.2.1])), ((ua 1 1), .inl (g 0, 80, .inl (S.2.2.1.2.2.2.2.2.2.1))), ((ua 1 2), .inr (1, [.ref (ua 1 3)])), ((ua 1 3), .inl (g 0, 480, .inl (S.2.2.1.2.2.2.2.2.2.2.1))), ((ua 1 4), .inr (0, [.ref (ua 1 5), .int S.2.2.1.2.2.2.2.2.2.2.2.1])), ((ua 1 5), .inl (g 0, 60, .inl (S.2.2.1.2.2.2.2.2.2.2.2.2))), ((ua 4 0), .inr (3, [.ref (ua 4 1), .int (nI S.2.2.2.2.2.1), .int (nI S.2.2.2.2.2.2.1)])), ((ua 4 1), .inl (g 3, 14, .inr (.inr (.inr (.inr (fun j => some (ub j 0)))))))]) (E1 := [(x0, .inr (7, [.ref (ua 0 0), .ref (ua 1 0), .ref (ua 2 0), .ref (ua 3 0), .ref (ua 4 0), .ref (ua 5 0), .ref (ua 6 0)])), ((ua 1 0), .inr (4, [.ref (ua 1 2), .ref (ua 1 4), .ref (ua 1 1), .int (F1.2.2.2.1.1), .int (F1.2.2.2.1.2.1), .int (F1.2.2.2.1.2.2.1), .int (F1.2.2.2.1.2.2.2.1), .int (F1.2.2.2.1.2.2.2.2.1), .int (F1.2.2.2.1.2.2.2.2.2.1)])), ((ua 1 1), .inl (g 0, 80, .inl (F1.2.2.2.1.2.2.2.2.2.2.1))), ((ua 1 2), .inr (1, [.ref (ua 1 3)])), ((ua 1 3), .inl (g 0, 480, .inl (F1.2.2.2.1.2.2.2.2.2.2.2.1))), ((ua 1 4), .inr (0, [.ref (ua 1 5), .int (F1.2.2.2.1.2.2.2.2.2.2.2.2.1)])), ((ua 1 5), .inl (g 0, 60, .inl (F1.2.2.2.1.2.2.2.2.2.2.2.2.2))), ((ua 4 0), .inr (3, [.ref (ua 4 1), .int (nI (F1.2.1)), .int (nI (F1.2.2.1))])), ((ua 4 1), .inl (g 3, 14, .inr (.inr (.inr (.inr (fun j => some (ub j 0)))))))]) (P := (wPool g ub S.2.2.2.2.2.2.2.1)) (P1 := (wPool g ub (F1.2.2.2.2))) (E2 := (wE g o0 x0 ua ub (S.1, S.2.1, F1.2.2.2.1, S.2.2.2.1, S.2.2.2.2.1, F1.2.1, F1.2.2.1, (F1.2.2.2.2), S.2.2.2.2.2.2.2.2.1, S.2.2.2.2.2.2.2.2.2.1, S.2.2.2.2.2.2.2.2.2.2.1, S.2.2.2.2.2.2.2.2.2.2.2))) (va_runV (As := [.int a1, .int a2]) (rest := [.int 0, .ref o0]) ⟨hx, hb, hml, hown, hts⟩ hC (cwV 2 hts gL_call_X7_call rfl rfl rfl (by decide +kernel) (k_lvl (by omega) (by decide))) (kPV2 hP hD hK hS hA hE [1, 4, 5, 6, 7, 8, 9, 22, 23] rfl (by decide) 1 7 rfl rfl rfl) rfl rfl hl.1 rfl (lv_room (Nat.le_of_ble_eq_true rfl)) dL_call_5 ⟨Nat.le_of_ble_eq_true rfl, Nat.le_of_ble_eq_true rfl⟩) hP hD hS hA [1, 4, 5, 6, 7, 8, 9, 22, 23] rfl (by decide) rfl rfl (wPool_addr _ _ _ _) (fun H locs hP hD hS => ?_)
    have hP : va_P D vwCl (wK g o0 x0 ua ub (S.1, S.2.1, F1.2.2.2.1, S.2.2.2.1, S.2.2.2.2.1, F1.2.1, F1.2.2.1, (F1.2.2.2.2), S.2.2.2.2.2.2.2.2.1, S.2.2.2.2.2.2.2.2.2.1, S.2.2.2.2.2.2.2.2.2.2.1, S.2.2.2.2.2.2.2.2.2.2.2)) H := hP
    have hD : va_D A (wK g o0 x0 ua ub (S.1, S.2.1, F1.2.2.2.1, S.2.2.2.1, S.2.2.2.2.1, F1.2.1, F1.2.2.1, (F1.2.2.2.2), S.2.2.2.2.2.2.2.2.1, S.2.2.2.2.2.2.2.2.2.1, S.2.2.2.2.2.2.2.2.2.2.1, S.2.2.2.2.2.2.2.2.2.2.2)) := hD
    refine lv_i2l (v := Int32.toInt64 (F1.1)) hx hb dL_call_8 rfl ?_
    refine va_last (i := 0) (x := Int32.toInt64 (F1.1)) hx hb hK hP hD hS 0 4 rfl rfl (by unfold vp_in; decide) dL_call_9 (fun H locs hP hD hS => ?_)
    refine lv_goto (tgt := 21) hx hb dL_call_10 (by decide) ?_
    refine lv_iconst (v := 0) hx hb dL_call_21 (by decide) ?_
    refine W.widen (k := 1) (n := 6) (Nat.le_of_ble_eq_true rfl) (Nat.le_of_ble_eq_true rfl) ?_
    have hP : va_P D vwCl (wK g o0 x0 ua ub (S.1, S.2.1, F1.2.2.2.1, S.2.2.2.1, S.2.2.2.2.1, F1.2.1, F1.2.2.1, (F1.2.2.2.2), S.2.2.2.2.2.2.2.2.1, S.2.2.2.2.2.2.2.2.2.1, S.2.2.2.2.2.2.2.2.2.2.1, vp_updL S.2.2.2.2.2.2.2.2.2.2.2 0 (Int32.toInt64 (F1.1)))) H := hP
    have hD : va_D A (wK g o0 x0 ua ub (S.1, S.2.1, F1.2.2.2.1, S.2.2.2.1, S.2.2.2.2.1, F1.2.1, F1.2.2.1, (F1.2.2.2.2), S.2.2.2.2.2.2.2.2.1, S.2.2.2.2.2.2.2.2.2.1, S.2.2.2.2.2.2.2.2.2.2.1, vp_updL S.2.2.2.2.2.2.2.2.2.2.2 0 (Int32.toInt64 (F1.1)))) := hD
    subst hF1
    have hs : sL_call a1 a2 S = (S.1, S.2.1, (f_X7_call S.2.2.2.2.2.1 S.2.2.2.2.2.2.1 S.2.2.1 S.2.2.2.2.2.2.2.1 a1 a2).2.2.2.1, S.2.2.2.1, S.2.2.2.2.1, (f_X7_call S.2.2.2.2.2.1 S.2.2.2.2.2.2.1 S.2.2.1 S.2.2.2.2.2.2.2.1 a1 a2).2.1, (f_X7_call S.2.2.2.2.2.1 S.2.2.2.2.2.2.1 S.2.2.1 S.2.2.2.2.2.2.2.1 a1 a2).2.2.1, ((f_X7_call S.2.2.2.2.2.1 S.2.2.2.2.2.2.1 S.2.2.1 S.2.2.2.2.2.2.2.1 a1 a2).2.2.2.2), S.2.2.2.2.2.2.2.2.1, S.2.2.2.2.2.2.2.2.2.1, S.2.2.2.2.2.2.2.2.2.2.1, vp_updL S.2.2.2.2.2.2.2.2.2.2.2 0 (Int32.toInt64 ((f_X7_call S.2.2.2.2.2.1 S.2.2.2.2.2.2.1 S.2.2.1 S.2.2.2.2.2.2.2.1 a1 a2).1))) := if_pos hk
    rw [← hs] at hP hD
    exact k_ri hx hb hr hlocks hP hD hS dL_call_22 hk.symm rfl
  ·
    have hC := c_X7_call_x l D g x0 (ua 0 0) (ua 1 0) (ua 2 0) (ua 3 0) (ua 4 0) (ua 5 0) (ua 6 0) (ua 1 2) (ua 1 4) (ua 1 1) (ua 1 3) (ua 1 5) H.size S.2.2.1 a1 a2 hst hk
    rcases kdc_call a1 a2 S with h1 | h1 | h1
    · exact absurd h1 hk
    · rw [h1, show ex_X7_call 1 = "java/lang/IndexOutOfBoundsException" from rfl] at hC
      refine k_xc (E := "java/lang/IndexOutOfBoundsException") (mc := 1) (ms := 6) (vx_runV (As := [.int a1, .int a2]) (rest := [.int 0, .ref o0]) ⟨hx, hb, hml, hown, hts⟩ hC (cwV 2 hts gL_call_X7_call rfl rfl rfl (by decide +kernel) (k_lvl (by omega) (by decide))) (kPVx hP hD hK hS hA hE hX [1, 4, 5, 6, 7, 8, 9] rfl (by decide) 1 7 rfl rfl rfl) rfl rfl hl.1 rfl (lv_room (Nat.le_of_ble_eq_true rfl)) dL_call_5 ⟨Nat.le_of_ble_eq_true rfl, Nat.le_of_ble_eq_true rfl⟩) hP hD hS hA [1, 4, 5, 6, 7, 8, 9] rfl (fun ce q9 H locs hP hS hc1 hc2 hc3 => ?_)
      refine k_catch1 (own := RL) (E := "java/lang/IndexOutOfBoundsException") hex hown hX (by decide) (by decide) (hts _ qL_call_h0) (by decide +kernel) hc1 hc2 hc3 ?_
      refine lv_astore (lv' := [(4, .ref q9), (0, .ref x0), (1, .int a1), (2, .int a2), (3, .ref o0)]) hx hb dL_call_13 hl (by decide) rfl (fun ls hl => ?_)
      refine lv_iconst (v := 1) hx hb dL_call_15 (by decide) ?_
      refine W.widen (k := 1) (n := 6) (Nat.le_of_ble_eq_true rfl) (Nat.le_of_ble_eq_true rfl) ?_
      have hs : sL_call a1 a2 S = S := if_neg hk
      rw [← hs] at hP hD
      exact k_ri hx hb hr hlocks hP hD hS dL_call_16 h1.symm rfl
    · rw [h1, show ex_X7_call 2 = "java/lang/IllegalArgumentException" from rfl] at hC
      refine k_xc (E := "java/lang/IllegalArgumentException") (mc := 1) (ms := 6) (vx_runV (As := [.int a1, .int a2]) (rest := [.int 0, .ref o0]) ⟨hx, hb, hml, hown, hts⟩ hC (cwV 2 hts gL_call_X7_call rfl rfl rfl (by decide +kernel) (k_lvl (by omega) (by decide))) (kPVx hP hD hK hS hA hE hX [1, 4, 5, 6, 7, 8, 9] rfl (by decide) 1 7 rfl rfl rfl) rfl rfl hl.1 rfl (lv_room (Nat.le_of_ble_eq_true rfl)) dL_call_5 ⟨Nat.le_of_ble_eq_true rfl, Nat.le_of_ble_eq_true rfl⟩) hP hD hS hA [1, 4, 5, 6, 7, 8, 9] rfl (fun ce q9 H locs hP hS hc1 hc2 hc3 => ?_)
      refine k_catch2 (own := RL) (E := "java/lang/IllegalArgumentException") (E1 := "java/lang/IndexOutOfBoundsException") hex hown hX (by decide) (hts _ qL_call_h0) (by decide +kernel) (by decide +kernel) (by decide) (by decide) (by decide) (hts _ qL_call_h1) (by decide +kernel) hc1 hc2 hc3 ?_
      refine lv_astore (lv' := [(4, .ref q9), (0, .ref x0), (1, .int a1), (2, .int a2), (3, .ref o0)]) hx hb dL_call_17 hl (by decide) rfl (fun ls hl => ?_)
      refine lv_iconst (v := 2) hx hb dL_call_19 (by decide) ?_
      refine W.widen (k := 1) (n := 6) (Nat.le_of_ble_eq_true rfl) (Nat.le_of_ble_eq_true rfl) ?_
      have hs : sL_call a1 a2 S = S := if_neg hk
      rw [← hs] at hP hD
      exact k_ri hx hb hr hlocks hP hD hS dL_call_20 h1.symm rfl
theorem kdc_undo  (S : KC) : kd_X7_undo S.2.2.2.2.2.2.1 = 0 ∨ kd_X7_undo S.2.2.2.2.2.2.1 = 1 := by
  unfold kd_X7_undo
  try dsimp only
  repeat' split
  all_goals first | exact Or.inl rfl | exact Or.inr rfl
theorem qL_undo_h0 : Cond.classLink RL 15 "java/lang/IllegalStateException" ∈ wsL_undo := (List.mem_cons_of_mem _ (List.mem_append_left _ (List.mem_append_left _ (List.mem_append_left _ (List.mem_append_left _ (List.mem_append_left _ (List.mem_append_left _ (List.mem_append_left _ (List.mem_of_getElem? (i := 0) rfl)))))))))
set_option maxHeartbeats 4000000 in
set_option maxRecDepth 100000 in
theorem c_L_undo (l : Launch) (D : va_G) (g : Nat → Nat) (o0 x0 : Nat) (ua ub : Nat → Nat → Nat) (sz : Nat) (S : KC)  (hst : l.stackTraces = false) (hln : S.1 ≤ 120) (hnx : S.2.2.2.2.2.1 < 14) (hkc : S.2.2.2.2.2.2.1 ≤ 14) (hpt : ¬ 10 < S.2.2.1.1) (hp1 : S.2.2.1.1 = nI S.2.2.1.1.toNatClampNeg) (hp2 : S.2.2.1.1.toNatClampNeg ≤ 10) : kMw l D g yL_undo wsL_undo 40 1 6 [.ref x0, .ref o0] (wK g o0 x0 ua ub S) sz (kd_X7_undo S.2.2.2.2.2.2.1) (wK g o0 x0 ua ub (sL_undo  S)) := by
  refine k_enterW (nm := "undo") (own := RL) (bytes := cL_undo) (maxL := 3) (ret := (some .int)) (hh := [(0, 8, 11, 15)]) (Qf := fun A => kQi D (wK g o0 x0 ua ub (sL_undo  S)) A (kd_X7_undo S.2.2.2.2.2.2.1)) (by decide) rfl rfl rfl (Nat.le_of_ble_eq_true rfl) ?_
  rintro pp ee s mm below meth cc A ls args Q H locs hQ ⟨hx, hb, hr, hml, hown, hts, hlocks, hin⟩ hex hP hK hD hA hS hE hX hl
  have hl : lv_has ls 3 [(0, .ref x0), (1, .ref o0)] := hl
  subst hQ
  refine lv_aload_n hx hb dL_undo_0 rfl (lv_at hl 1 rfl) ?_
  refine lv_iconst (v := 0) hx hb dL_undo_1 (by decide) ?_
  refine lv_aload_n hx hb dL_undo_2 rfl (lv_at hl 0 rfl) ?_
  by_cases hk : kd_X7_undo S.2.2.2.2.2.2.1 = 0
  ·
    have hC := c_X7_undo l D g x0 (ua 0 0) (ua 1 0) (ua 2 0) (ua 3 0) (ua 4 0) (ua 5 0) (ua 6 0) (ua 1 2) (ua 1 4) (ua 1 1) (ua 1 3) (ua 1 5) (ua 4 1) H.size ub S.2.2.2.2.2.1 S.2.2.2.2.2.2.1 S.2.2.1 S.2.2.2.2.2.2.2.1 hkc hnx hk
    obtain ⟨F1, hF1⟩ : ∃ z, z = (f_X7_undo S.2.2.2.2.2.1 S.2.2.2.2.2.2.1 S.2.2.2.2.2.2.2.1) := ⟨_, rfl⟩
    rw [← hF1] at hC
    refine k_aiS2 (E := (wE g o0 x0 ua ub S)) (Ec := [(x0, .inr (7, [.ref (ua 0 0), .ref (ua 1 0), .ref (ua 2 0), .ref (ua 3 0), .ref (ua 4 0), .ref (ua 5 0), .ref (ua 6 0)])), ((ua 1 0), .inr (4, [.ref (ua 1 2), .ref (ua 1 4), .ref (ua 1 1), .int S.2.2.1.1, .int S.2.2.1.2.1, .int S.2.2.1.2.2.1, .int S.2.2.1.2.2.2.1, .int S.2.2.1.2.2.2.2.1, .int S.2.2.1.2.2.2.2.2.1])), ((ua 1 1), .inl (g 0, 80, .inl (S.2.2.1.2.2.2.2.2.2.1))), ((ua 1 2), .inr (1, [.ref (ua 1 3)])), ((ua 1 3), .inl (g 0, 480, .inl (S.2.2.1.2.2.2.2.2.2.2.1))), ((ua 1 4), .inr (0, [.ref (ua 1 5), .int S.2.2.1.2.2.2.2.2.2.2.2.1])), ((ua 1 5), .inl (g 0, 60, .inl (S.2.2.1.2.2.2.2.2.2.2.2.2))), ((ua 4 0), .inr (3, [.ref (ua 4 1), .int (nI S.2.2.2.2.2.1), .int (nI S.2.2.2.2.2.2.1)])), ((ua 4 1), .inl (g 3, 14, .inr (.inr (.inr (.inr (fun j => some (ub j 0)))))))]) (E1 := [(x0, .inr (7, [.ref (ua 0 0), .ref (ua 1 0), .ref (ua 2 0), .ref (ua 3 0), .ref (ua 4 0), .ref (ua 5 0), .ref (ua 6 0)])), ((ua 1 0), .inr (4, [.ref (ua 1 2), .ref (ua 1 4), .ref (ua 1 1), .int (F1.2.2.2.1), .int (F1.2.2.2.2.1), .int (F1.2.2.2.2.2.1), .int (F1.2.2.2.2.2.2.1), .int (F1.2.2.2.2.2.2.2.1), .int (F1.2.2.2.2.2.2.2.2.1)])), ((ua 1 1), .inl (g 0, 80, .inl (F1.2.2.2.2.2.2.2.2.2.1))), ((ua 1 2), .inr (1, [.ref (ua 1 3)])), ((ua 1 3), .inl (g 0, 480, .inl (F1.2.2.2.2.2.2.2.2.2.2.1))), ((ua 1 4), .inr (0, [.ref (ua 1 5), .int (F1.2.2.2.2.2.2.2.2.2.2.2.1)])), ((ua 1 5), .inl (g 0, 60, .inl (F1.2.2.2.2.2.2.2.2.2.2.2.2))), ((ua 4 0), .inr (3, [.ref (ua 4 1), .int (nI (F1.2.1)), .int (nI (F1.2.2.1))])), ((ua 4 1), .inl (g 3, 14, .inr (.inr (.inr (.inr (fun j => some (ub j 0)))))))]) (P := (wPool g ub S.2.2.2.2.2.2.2.1)) (P1 := (wPool g ub S.2.2.2.2.2.2.2.1)) (E2 := (wE g o0 x0 ua ub (S.1, S.2.1, F1.2.2.2, S.2.2.2.1, S.2.2.2.2.1, F1.2.1, F1.2.2.1, S.2.2.2.2.2.2.2.1, S.2.2.2.2.2.2.2.2.1, S.2.2.2.2.2.2.2.2.2.1, S.2.2.2.2.2.2.2.2.2.2.1, S.2.2.2.2.2.2.2.2.2.2.2))) (va_runV (As := []) (rest := [.int 0, .ref o0]) ⟨hx, hb, hml, hown, hts⟩ hC (cwV 0 hts gL_undo_X7_undo rfl rfl rfl (by decide +kernel) (k_lvl (by omega) (by decide))) (kPV2 hP hD hK hS hA hE [1, 4, 5, 6, 7, 8, 9, 22, 23] rfl (by decide) 1 7 rfl rfl rfl) rfl rfl hl.1 rfl (lv_room (Nat.le_of_ble_eq_true rfl)) dL_undo_3 ⟨Nat.le_of_ble_eq_true rfl, Nat.le_of_ble_eq_true rfl⟩) hP hD hS hA [1, 4, 5, 6, 7, 8, 9, 22, 23] rfl (by decide) rfl rfl (wPool_addr _ _ _ _) (fun H locs hP hD hS => ?_)
    have hP : va_P D vwCl (wK g o0 x0 ua ub (S.1, S.2.1, F1.2.2.2, S.2.2.2.1, S.2.2.2.2.1, F1.2.1, F1.2.2.1, S.2.2.2.2.2.2.2.1, S.2.2.2.2.2.2.2.2.1, S.2.2.2.2.2.2.2.2.2.1, S.2.2.2.2.2.2.2.2.2.2.1, S.2.2.2.2.2.2.2.2.2.2.2)) H := hP
    have hD : va_D A (wK g o0 x0 ua ub (S.1, S.2.1, F1.2.2.2, S.2.2.2.1, S.2.2.2.2.1, F1.2.1, F1.2.2.1, S.2.2.2.2.2.2.2.1, S.2.2.2.2.2.2.2.2.1, S.2.2.2.2.2.2.2.2.2.1, S.2.2.2.2.2.2.2.2.2.2.1, S.2.2.2.2.2.2.2.2.2.2.2)) := hD
    refine lv_i2l (v := Int32.toInt64 (nI (F1.1))) hx hb dL_undo_6 rfl ?_
    refine va_last (i := 0) (x := Int32.toInt64 (nI (F1.1))) hx hb hK hP hD hS 0 4 rfl rfl (by unfold vp_in; decide) dL_undo_7 (fun H locs hP hD hS => ?_)
    refine lv_goto (tgt := 14) hx hb dL_undo_8 (by decide) ?_
    refine lv_iconst (v := 0) hx hb dL_undo_14 (by decide) ?_
    refine W.widen (k := 1) (n := 6) (Nat.le_of_ble_eq_true rfl) (Nat.le_of_ble_eq_true rfl) ?_
    have hP : va_P D vwCl (wK g o0 x0 ua ub (S.1, S.2.1, F1.2.2.2, S.2.2.2.1, S.2.2.2.2.1, F1.2.1, F1.2.2.1, S.2.2.2.2.2.2.2.1, S.2.2.2.2.2.2.2.2.1, S.2.2.2.2.2.2.2.2.2.1, S.2.2.2.2.2.2.2.2.2.2.1, vp_updL S.2.2.2.2.2.2.2.2.2.2.2 0 (Int32.toInt64 (nI (F1.1))))) H := hP
    have hD : va_D A (wK g o0 x0 ua ub (S.1, S.2.1, F1.2.2.2, S.2.2.2.1, S.2.2.2.2.1, F1.2.1, F1.2.2.1, S.2.2.2.2.2.2.2.1, S.2.2.2.2.2.2.2.2.1, S.2.2.2.2.2.2.2.2.2.1, S.2.2.2.2.2.2.2.2.2.2.1, vp_updL S.2.2.2.2.2.2.2.2.2.2.2 0 (Int32.toInt64 (nI (F1.1))))) := hD
    subst hF1
    have hs : sL_undo  S = (S.1, S.2.1, (f_X7_undo S.2.2.2.2.2.1 S.2.2.2.2.2.2.1 S.2.2.2.2.2.2.2.1).2.2.2, S.2.2.2.1, S.2.2.2.2.1, (f_X7_undo S.2.2.2.2.2.1 S.2.2.2.2.2.2.1 S.2.2.2.2.2.2.2.1).2.1, (f_X7_undo S.2.2.2.2.2.1 S.2.2.2.2.2.2.1 S.2.2.2.2.2.2.2.1).2.2.1, S.2.2.2.2.2.2.2.1, S.2.2.2.2.2.2.2.2.1, S.2.2.2.2.2.2.2.2.2.1, S.2.2.2.2.2.2.2.2.2.2.1, vp_updL S.2.2.2.2.2.2.2.2.2.2.2 0 (Int32.toInt64 (nI ((f_X7_undo S.2.2.2.2.2.1 S.2.2.2.2.2.2.1 S.2.2.2.2.2.2.2.1).1)))) := if_pos hk
    rw [← hs] at hP hD
    exact k_ri hx hb hr hlocks hP hD hS dL_undo_15 hk.symm rfl
  ·
    have hC := c_X7_undo_x l D g x0 (ua 0 0) (ua 1 0) (ua 2 0) (ua 3 0) (ua 4 0) (ua 5 0) (ua 6 0) (ua 4 1) H.size S.2.2.2.2.2.1 S.2.2.2.2.2.2.1 hkc hst hk
    rcases kdc_undo  S with h1 | h1
    · exact absurd h1 hk
    · rw [h1, show ex_X7_undo 1 = "java/lang/IllegalStateException" from rfl] at hC
      refine k_xc (E := "java/lang/IllegalStateException") (mc := 1) (ms := 6) (vx_runV (As := []) (rest := [.int 0, .ref o0]) ⟨hx, hb, hml, hown, hts⟩ hC (cwV 0 hts gL_undo_X7_undo rfl rfl rfl (by decide +kernel) (k_lvl (by omega) (by decide))) (kPVx hP hD hK hS hA hE hX [1, 22] rfl (by decide) 1 7 rfl rfl rfl) rfl rfl hl.1 rfl (lv_room (Nat.le_of_ble_eq_true rfl)) dL_undo_3 ⟨Nat.le_of_ble_eq_true rfl, Nat.le_of_ble_eq_true rfl⟩) hP hD hS hA [1, 22] rfl (fun ce q9 H locs hP hS hc1 hc2 hc3 => ?_)
      refine k_catch1 (own := RL) (E := "java/lang/IllegalStateException") hex hown hX (by decide) (by decide) (hts _ qL_undo_h0) (by decide +kernel) hc1 hc2 hc3 ?_
      refine lv_astore_n (lv' := [(2, .ref q9), (0, .ref x0), (1, .ref o0)]) hx hb dL_undo_11 rfl hl (by decide) rfl (fun ls hl => ?_)
      refine lv_iconst (v := 1) hx hb dL_undo_12 (by decide) ?_
      refine W.widen (k := 1) (n := 6) (Nat.le_of_ble_eq_true rfl) (Nat.le_of_ble_eq_true rfl) ?_
      have hs : sL_undo  S = S := if_neg hk
      rw [← hs] at hP hD
      exact k_ri hx hb hr hlocks hP hD hS dL_undo_13 h1.symm rfl
end
