-- THE LAW, 7: its cases
noncomputable section
set_option maxHeartbeats 4000000 in
set_option maxRecDepth 100000 in
theorem law_13 {p : Program} {l : Launch} {e : Env} {s : State} {m : MethodId} {below : List Frame} {meth : Method} {c : Code} {D : va_G} {g : Nat → Nat} {o0 x0 m0 : Nat} {ua ub : Nat → Nat → Nat} {uu : Nat → Nat} {b L : Nat} {xs : Nat → Int32} (C : LwC p l s m c D g b L xs) {i : Nat} (hi : i + 7 ≤ L) {Q : State → Prop} (K : LwK p l e s m below meth c D g o0 x0 m0 ua ub uu b i Q) {S : KC} {R : KR} {H : Heap} {locs : List Loc} {ls : Array Slot} (hI : INV (3000 * i) S R) (hP : va_P D vwCl ((w8 g m0 uu R) ++ (wK g o0 x0 ua ub S)) H) (hD : va_D (lwA s) ((w8 g m0 uu R) ++ (wK g o0 x0 ua ub S))) (hS : va_S (lwA s) s.heap H locs) (hl : lv_has ls 7 [(0, .ref b), (1, .ref x0), (2, .ref m0), (3, .ref o0), (4, .int (nI i))]) : W p l e room_1 s m #[Value.ref b] below meth c H locs (200 + i) (40000 + 6 * i) Q (F0 m 996 ls []) := by
  obtain ⟨hx, hb, hml, hown, hts, hX0, hbl, hst, hK, hE, hX, hL⟩ := C
  have hA : ∀ q : Nat, s.heap.size ≤ q → lwA s q := fun _ h => h
  have hbA : ¬ lwA s b := Nat.not_le.mpr hbl
  obtain ⟨p1, p2, p3, p4, p5, p6, p7, p8, p9⟩ := INV.pre hI
  refine lv_aload_n hx hb dL_law_996 rfl (lv_at hl 1 rfl) ?_
  refine lv_aload_n hx hb dL_law_997 rfl (lv_at hl 0 rfl) ?_
  refine lv_iload hx hb dL_law_998 (lv_at hl 4 rfl) ?_
  refine lv_iconst (v := 1) hx hb dL_law_1000 (by decide) ?_
  refine law_ld (k := 1) rfl (by omega) hL hx hb hX0 hbl hbA hS dL_law_1001 dL_law_1002 ?_
  refine lv_aload_n hx hb dL_law_1003 rfl (lv_at hl 0 rfl) ?_
  refine lv_iload hx hb dL_law_1004 (lv_at hl 4 rfl) ?_
  refine lv_iconst (v := 2) hx hb dL_law_1006 (by decide) ?_
  refine law_ld (k := 2) rfl (by omega) hL hx hb hX0 hbl hbA hS dL_law_1007 dL_law_1008 ?_
  refine lv_aload_n hx hb dL_law_1009 rfl (lv_at hl 3 rfl) ?_
  obtain ⟨hI2, hk2, ha2⟩ := inv_drop (N := 3000 * i) (xs (i + 1)) (xs (i + 2)) hI (by omega)
  refine k_aiR (wa := (w8 g m0 uu R)) (w1 := (wK g o0 x0 ua ub (sL_drop (xs (i + 1)) (xs (i + 2)) S))) (vx_runSW (As := [.ref x0, .int (xs (i + 1)), .int (xs (i + 2)), .ref o0]) (rest := []) ⟨hx, hb, hml, hown, hts⟩ (c_L_drop l D g o0 x0 ua ub H.size S (xs (i + 1)) (xs (i + 2)) hst p1 p2 p3 p4 p5 p6) (vx_cwSW 4 hts gL_law_L_drop rfl rfl rfl (by decide +kernel) ⟨Nat.le_of_ble_eq_true rfl, Nat.le_of_ble_eq_true rfl⟩) (kPSsX (wa := (w8 g m0 uu R)) hP hD hK hS hA hE hX) rfl rfl hl.1 rfl (lv_room (Nat.le_of_ble_eq_true rfl)) dL_law_1010 ⟨by show 200 + i + 1 ≤ 601024; omega, by show 40000 + 6 * i + 6 ≤ 7293034; omega⟩) hP hD hS hA (fun H locs hP hD hS => ?_)
  refine lv_topi (fun k9 ek9 => ?_)
  refine lv_istore (lv' := [(5, .int k9), (0, .ref b), (1, .ref x0), (2, .ref m0), (3, .ref o0), (4, .int (nI i))]) hx hb dL_law_1013 hl (by decide) rfl (fun ls hl => ?_)
  generalize (sL_drop (xs (i + 1)) (xs (i + 2)) S) = S2 at hP hD hI2 ha2
  have hl0 := hl
  refine lv_aload_n hx hb dL_law_1015 rfl (lv_at hl 3 rfl) ?_
  refine lv_aload_n hx hb dL_law_1016 rfl (lv_at hl 1 rfl) ?_
  refine lv_iload hx hb dL_law_1017 (lv_at hl 5 rfl) ?_
  refine lv_iconst (v := 1) hx hb dL_law_1019 (by decide) ?_
  refine law_ld (k := 1) rfl (by omega) hL hx hb hX0 hbl hbA hS dL_law_1020 dL_law_1021 ?_
  refine lv_aload_n hx hb dL_law_1022 rfl (lv_at hl 1 rfl) ?_
  refine lv_iload hx hb dL_law_1023 (lv_at hl 5 rfl) ?_
  refine lv_iconst (v := 2) hx hb dL_law_1025 (by decide) ?_
  refine law_ld (k := 2) rfl (by omega) hL hx hb hX0 hbl hbA hS dL_law_1026 dL_law_1027 ?_
  have hP := k_swP hP
  have hD := k_swD hD
  refine k_aiR (wa := (wK g o0 x0 ua ub S2)) (w1 := (w8 g m0 uu (sR_drop (xs (i + 1)) (xs (i + 2)) R))) (va_runV (As := [.int (xs (i + 1)), .int (xs (i + 2))]) (rest := []) ⟨hx, hb, hml, hown, hts⟩ (c_8_drop l D g m0 uu H.size R (xs (i + 1)) (xs (i + 2)) p7 p8 p9) (cwV 2 hts gL_law_X8_drop rfl rfl rfl (by decide +kernel) ⟨Nat.le_of_ble_eq_true rfl, Nat.le_of_ble_eq_true rfl⟩) (kPVs (wa := (wK g o0 x0 ua ub S2)) hP hD hK hS hA hE 0 8 rfl rfl rfl) rfl rfl hl.1 rfl (lv_room (Nat.le_of_ble_eq_true rfl)) dL_law_1028 ⟨by show 200 + i + 1 ≤ 601024; omega, by show 40000 + 6 * i + 6 ≤ 7293034; omega⟩) hP hD hS hA (fun H locs hP hD hS => ?_)
  generalize (sR_drop (xs (i + 1)) (xs (i + 2)) R) = R2 at hP hD hI2 hk2
  refine lv_topi (fun b9 eb9 => ?_)
  refine lv_istore (lv' := [(6, .int b9), (5, .int k9), (0, .ref b), (1, .ref x0), (2, .ref m0), (3, .ref o0), (4, .int (nI i))]) hx hb dL_law_1031 hl (by decide) rfl (fun ls hl => ?_)
  refine lv_aload_n hx hb dL_law_1033 rfl (lv_at hl 4 rfl) ?_
  obtain ⟨_, _, _, _, _, _, q7, q8, q9⟩ := INV.pre hI2
  refine k_aiR (wa := (wK g o0 x0 ua ub S2)) (w1 := (w8 g m0 uu R2)) (va_runV (As := []) (rest := []) ⟨hx, hb, hml, hown, hts⟩ (c_8_thrown l D g m0 uu H.size R2 q7 q8 q9) (cwV 0 hts gL_law_X8_thrown rfl rfl rfl (by decide +kernel) ⟨Nat.le_of_ble_eq_true rfl, Nat.le_of_ble_eq_true rfl⟩) (kPVs (wa := (wK g o0 x0 ua ub S2)) hP hD hK hS hA hE 0 8 rfl rfl rfl) rfl rfl hl.1 rfl (lv_room (Nat.le_of_ble_eq_true rfl)) dL_law_1034 ⟨by show 200 + i + 1 ≤ 601024; omega, by show 40000 + 6 * i + 6 ≤ 7293034; omega⟩) hP hD hS hA (fun H locs hP hD hS => ?_)
  refine lv_iload hx hb dL_law_1037 (lv_at hl 1 rfl) ?_
  refine lv_icmp_eq (tgt := 1044) hx hb dL_law_1039 (by decide) (fun c1 => ?_) (fun c1 => absurd (ek9.trans hk2).symm c1)
  refine lv_iload hx hb dL_law_1044 (lv_at hl 1 rfl) ?_
  have hG : ∀ (H : Heap) (locs : List Loc), va_P D vwCl ((wK g o0 x0 ua ub S2) ++ (w8 g m0 uu R2)) H → va_D (lwA s) ((wK g o0 x0 ua ub S2) ++ (w8 g m0 uu R2)) → va_S (lwA s) s.heap H locs → W p l e room_1 s m #[Value.ref b] below meth c H locs (200 + i + 1) (40000 + 6 * i + 6) Q (F0 m 1061 ls []) := by
    intro H locs hP hD hS
    refine lv_goto (tgt := 1929) hx hb dL_law_1061 (by decide) ?_
    exact K S2 R2 _ _ _ hI2 (k_swP hP) (k_swD hD) hS (lv_sub hl [2, 3, 4, 5, 6] rfl)
  refine lv_if_ne (tgt := 1061) hx hb dL_law_1046 (by decide) (fun c2 => hG _ _ hP hD hS) (fun c2 => ?_)
  refine lv_aload_n hx hb dL_law_1049 rfl (lv_at hl 5 rfl) ?_
  refine lv_iconst (v := 0) hx hb dL_law_1050 (by decide) ?_
  refine va_lald (i := 0) hx hb hK hP 0 4 rfl rfl (by unfold vp_in; decide) dL_law_1051 ?_
  refine k_topl (y := S2.2.2.2.2.2.2.2.2.2.2.2 0) rfl ?_
  refine lv_iload hx hb dL_law_1052 (lv_at hl 0 rfl) ?_
  refine lv_i2l (v := Int32.toInt64 b9) hx hb dL_law_1054 rfl ?_
  refine W.lcmp hx hb dL_law_1055 ?_
  refine lv_if_eq (tgt := 1061) hx hb dL_law_1056 (by decide) (fun c3 => hG _ _ hP hD hS) (fun c3 => absurd ((lg_cmp_eq _ _).mpr ((ha2 (ek9.symm.trans c2)).trans (congrArg Int32.toInt64 eb9.symm))) c3)
set_option maxHeartbeats 4000000 in
set_option maxRecDepth 100000 in
theorem law_14 {p : Program} {l : Launch} {e : Env} {s : State} {m : MethodId} {below : List Frame} {meth : Method} {c : Code} {D : va_G} {g : Nat → Nat} {o0 x0 m0 : Nat} {ua ub : Nat → Nat → Nat} {uu : Nat → Nat} {b L : Nat} {xs : Nat → Int32} (C : LwC p l s m c D g b L xs) {i : Nat} (hi : i + 7 ≤ L) {Q : State → Prop} (K : LwK p l e s m below meth c D g o0 x0 m0 ua ub uu b i Q) {S : KC} {R : KR} {H : Heap} {locs : List Loc} {ls : Array Slot} (hI : INV (3000 * i) S R) (hP : va_P D vwCl ((w8 g m0 uu R) ++ (wK g o0 x0 ua ub S)) H) (hD : va_D (lwA s) ((w8 g m0 uu R) ++ (wK g o0 x0 ua ub S))) (hS : va_S (lwA s) s.heap H locs) (hl : lv_has ls 7 [(0, .ref b), (1, .ref x0), (2, .ref m0), (3, .ref o0), (4, .int (nI i))]) : W p l e room_1 s m #[Value.ref b] below meth c H locs (200 + i) (40000 + 6 * i) Q (F0 m 1064 ls []) := by
  obtain ⟨hx, hb, hml, hown, hts, hX0, hbl, hst, hK, hE, hX, hL⟩ := C
  have hA : ∀ q : Nat, s.heap.size ≤ q → lwA s q := fun _ h => h
  have hbA : ¬ lwA s b := Nat.not_le.mpr hbl
  obtain ⟨p1, p2, p3, p4, p5, p6, p7, p8, p9⟩ := INV.pre hI
  refine lv_aload_n hx hb dL_law_1064 rfl (lv_at hl 1 rfl) ?_
  refine lv_aload_n hx hb dL_law_1065 rfl (lv_at hl 0 rfl) ?_
  refine lv_iload hx hb dL_law_1066 (lv_at hl 4 rfl) ?_
  refine lv_iconst (v := 1) hx hb dL_law_1068 (by decide) ?_
  refine law_ld (k := 1) rfl (by omega) hL hx hb hX0 hbl hbA hS dL_law_1069 dL_law_1070 ?_
  refine lv_aload_n hx hb dL_law_1071 rfl (lv_at hl 0 rfl) ?_
  refine lv_iload hx hb dL_law_1072 (lv_at hl 4 rfl) ?_
  refine lv_iconst (v := 2) hx hb dL_law_1074 (by decide) ?_
  refine law_ld (k := 2) rfl (by omega) hL hx hb hX0 hbl hbA hS dL_law_1075 dL_law_1076 ?_
  refine lv_aload_n hx hb dL_law_1077 rfl (lv_at hl 3 rfl) ?_
  obtain ⟨hI2, hk2, ha2⟩ := inv_call (N := 3000 * i) (xs (i + 1)) (xs (i + 2)) hI (by omega)
  refine k_aiR (wa := (w8 g m0 uu R)) (w1 := (wK g o0 x0 ua ub (sL_call (xs (i + 1)) (xs (i + 2)) S))) (vx_runSW (As := [.ref x0, .int (xs (i + 1)), .int (xs (i + 2)), .ref o0]) (rest := []) ⟨hx, hb, hml, hown, hts⟩ (c_L_call l D g o0 x0 ua ub H.size S (xs (i + 1)) (xs (i + 2)) hst p1 p2 p3 p4 p5 p6) (vx_cwSW 4 hts gL_law_L_call rfl rfl rfl (by decide +kernel) ⟨Nat.le_of_ble_eq_true rfl, Nat.le_of_ble_eq_true rfl⟩) (kPSsX (wa := (w8 g m0 uu R)) hP hD hK hS hA hE hX) rfl rfl hl.1 rfl (lv_room (Nat.le_of_ble_eq_true rfl)) dL_law_1078 ⟨by show 200 + i + 1 ≤ 601024; omega, by show 40000 + 6 * i + 6 ≤ 7293034; omega⟩) hP hD hS hA (fun H locs hP hD hS => ?_)
  refine lv_topi (fun k9 ek9 => ?_)
  refine lv_istore (lv' := [(5, .int k9), (0, .ref b), (1, .ref x0), (2, .ref m0), (3, .ref o0), (4, .int (nI i))]) hx hb dL_law_1081 hl (by decide) rfl (fun ls hl => ?_)
  generalize (sL_call (xs (i + 1)) (xs (i + 2)) S) = S2 at hP hD hI2 ha2
  have hl0 := hl
  refine lv_aload_n hx hb dL_law_1083 rfl (lv_at hl 3 rfl) ?_
  refine lv_aload_n hx hb dL_law_1084 rfl (lv_at hl 1 rfl) ?_
  refine lv_iload hx hb dL_law_1085 (lv_at hl 5 rfl) ?_
  refine lv_iconst (v := 1) hx hb dL_law_1087 (by decide) ?_
  refine law_ld (k := 1) rfl (by omega) hL hx hb hX0 hbl hbA hS dL_law_1088 dL_law_1089 ?_
  refine lv_aload_n hx hb dL_law_1090 rfl (lv_at hl 1 rfl) ?_
  refine lv_iload hx hb dL_law_1091 (lv_at hl 5 rfl) ?_
  refine lv_iconst (v := 2) hx hb dL_law_1093 (by decide) ?_
  refine law_ld (k := 2) rfl (by omega) hL hx hb hX0 hbl hbA hS dL_law_1094 dL_law_1095 ?_
  have hP := k_swP hP
  have hD := k_swD hD
  refine k_aiR (wa := (wK g o0 x0 ua ub S2)) (w1 := (w8 g m0 uu (sR_call (xs (i + 1)) (xs (i + 2)) R))) (va_runV (As := [.int (xs (i + 1)), .int (xs (i + 2))]) (rest := []) ⟨hx, hb, hml, hown, hts⟩ (c_8_call l D g m0 uu H.size R (xs (i + 1)) (xs (i + 2)) p7 p8 p9) (cwV 2 hts gL_law_X8_call rfl rfl rfl (by decide +kernel) ⟨Nat.le_of_ble_eq_true rfl, Nat.le_of_ble_eq_true rfl⟩) (kPVs (wa := (wK g o0 x0 ua ub S2)) hP hD hK hS hA hE 0 8 rfl rfl rfl) rfl rfl hl.1 rfl (lv_room (Nat.le_of_ble_eq_true rfl)) dL_law_1096 ⟨by show 200 + i + 1 ≤ 601024; omega, by show 40000 + 6 * i + 6 ≤ 7293034; omega⟩) hP hD hS hA (fun H locs hP hD hS => ?_)
  generalize (sR_call (xs (i + 1)) (xs (i + 2)) R) = R2 at hP hD hI2 hk2
  refine lv_topi (fun b9 eb9 => ?_)
  refine lv_istore (lv' := [(6, .int b9), (5, .int k9), (0, .ref b), (1, .ref x0), (2, .ref m0), (3, .ref o0), (4, .int (nI i))]) hx hb dL_law_1099 hl (by decide) rfl (fun ls hl => ?_)
  refine lv_aload_n hx hb dL_law_1101 rfl (lv_at hl 4 rfl) ?_
  obtain ⟨_, _, _, _, _, _, q7, q8, q9⟩ := INV.pre hI2
  refine k_aiR (wa := (wK g o0 x0 ua ub S2)) (w1 := (w8 g m0 uu R2)) (va_runV (As := []) (rest := []) ⟨hx, hb, hml, hown, hts⟩ (c_8_thrown l D g m0 uu H.size R2 q7 q8 q9) (cwV 0 hts gL_law_X8_thrown rfl rfl rfl (by decide +kernel) ⟨Nat.le_of_ble_eq_true rfl, Nat.le_of_ble_eq_true rfl⟩) (kPVs (wa := (wK g o0 x0 ua ub S2)) hP hD hK hS hA hE 0 8 rfl rfl rfl) rfl rfl hl.1 rfl (lv_room (Nat.le_of_ble_eq_true rfl)) dL_law_1102 ⟨by show 200 + i + 1 ≤ 601024; omega, by show 40000 + 6 * i + 6 ≤ 7293034; omega⟩) hP hD hS hA (fun H locs hP hD hS => ?_)
  refine lv_iload hx hb dL_law_1105 (lv_at hl 1 rfl) ?_
  refine lv_icmp_eq (tgt := 1112) hx hb dL_law_1107 (by decide) (fun c1 => ?_) (fun c1 => absurd (ek9.trans hk2).symm c1)
  refine lv_iload hx hb dL_law_1112 (lv_at hl 1 rfl) ?_
  have hG : ∀ (H : Heap) (locs : List Loc), va_P D vwCl ((wK g o0 x0 ua ub S2) ++ (w8 g m0 uu R2)) H → va_D (lwA s) ((wK g o0 x0 ua ub S2) ++ (w8 g m0 uu R2)) → va_S (lwA s) s.heap H locs → W p l e room_1 s m #[Value.ref b] below meth c H locs (200 + i + 1) (40000 + 6 * i + 6) Q (F0 m 1129 ls []) := by
    intro H locs hP hD hS
    refine lv_goto (tgt := 1929) hx hb dL_law_1129 (by decide) ?_
    exact K S2 R2 _ _ _ hI2 (k_swP hP) (k_swD hD) hS (lv_sub hl [2, 3, 4, 5, 6] rfl)
  refine lv_if_ne (tgt := 1129) hx hb dL_law_1114 (by decide) (fun c2 => hG _ _ hP hD hS) (fun c2 => ?_)
  refine lv_aload_n hx hb dL_law_1117 rfl (lv_at hl 5 rfl) ?_
  refine lv_iconst (v := 0) hx hb dL_law_1118 (by decide) ?_
  refine va_lald (i := 0) hx hb hK hP 0 4 rfl rfl (by unfold vp_in; decide) dL_law_1119 ?_
  refine k_topl (y := S2.2.2.2.2.2.2.2.2.2.2.2 0) rfl ?_
  refine lv_iload hx hb dL_law_1120 (lv_at hl 0 rfl) ?_
  refine lv_i2l (v := Int32.toInt64 b9) hx hb dL_law_1122 rfl ?_
  refine W.lcmp hx hb dL_law_1123 ?_
  refine lv_if_eq (tgt := 1129) hx hb dL_law_1124 (by decide) (fun c3 => hG _ _ hP hD hS) (fun c3 => absurd ((lg_cmp_eq _ _).mpr ((ha2 (ek9.symm.trans c2)).trans (congrArg Int32.toInt64 eb9.symm))) c3)
set_option maxHeartbeats 4000000 in
set_option maxRecDepth 100000 in
theorem law_15 {p : Program} {l : Launch} {e : Env} {s : State} {m : MethodId} {below : List Frame} {meth : Method} {c : Code} {D : va_G} {g : Nat → Nat} {o0 x0 m0 : Nat} {ua ub : Nat → Nat → Nat} {uu : Nat → Nat} {b L : Nat} {xs : Nat → Int32} (C : LwC p l s m c D g b L xs) {i : Nat} (hi : i + 7 ≤ L) {Q : State → Prop} (K : LwK p l e s m below meth c D g o0 x0 m0 ua ub uu b i Q) {S : KC} {R : KR} {H : Heap} {locs : List Loc} {ls : Array Slot} (hI : INV (3000 * i) S R) (hP : va_P D vwCl ((w8 g m0 uu R) ++ (wK g o0 x0 ua ub S)) H) (hD : va_D (lwA s) ((w8 g m0 uu R) ++ (wK g o0 x0 ua ub S))) (hS : va_S (lwA s) s.heap H locs) (hl : lv_has ls 7 [(0, .ref b), (1, .ref x0), (2, .ref m0), (3, .ref o0), (4, .int (nI i))]) : W p l e room_1 s m #[Value.ref b] below meth c H locs (200 + i) (40000 + 6 * i) Q (F0 m 1132 ls []) := by
  obtain ⟨hx, hb, hml, hown, hts, hX0, hbl, hst, hK, hE, hX, hL⟩ := C
  have hA : ∀ q : Nat, s.heap.size ≤ q → lwA s q := fun _ h => h
  have hbA : ¬ lwA s b := Nat.not_le.mpr hbl
  obtain ⟨p1, p2, p3, p4, p5, p6, p7, p8, p9⟩ := INV.pre hI
  refine lv_aload_n hx hb dL_law_1132 rfl (lv_at hl 1 rfl) ?_
  refine lv_aload_n hx hb dL_law_1133 rfl (lv_at hl 3 rfl) ?_
  obtain ⟨hI2, hk2, ha2⟩ := inv_undo (N := 3000 * i) hI (by omega)
  refine k_aiR (wa := (w8 g m0 uu R)) (w1 := (wK g o0 x0 ua ub (sL_undo S))) (vx_runSW (As := [.ref x0, .ref o0]) (rest := []) ⟨hx, hb, hml, hown, hts⟩ (c_L_undo l D g o0 x0 ua ub H.size S  hst p1 p2 p3 p4 p5 p6) (vx_cwSW 2 hts gL_law_L_undo rfl rfl rfl (by decide +kernel) ⟨Nat.le_of_ble_eq_true rfl, Nat.le_of_ble_eq_true rfl⟩) (kPSsX (wa := (w8 g m0 uu R)) hP hD hK hS hA hE hX) rfl rfl hl.1 rfl (lv_room (Nat.le_of_ble_eq_true rfl)) dL_law_1134 ⟨by show 200 + i + 1 ≤ 601024; omega, by show 40000 + 6 * i + 6 ≤ 7293034; omega⟩) hP hD hS hA (fun H locs hP hD hS => ?_)
  refine lv_topi (fun k9 ek9 => ?_)
  refine lv_istore (lv' := [(5, .int k9), (0, .ref b), (1, .ref x0), (2, .ref m0), (3, .ref o0), (4, .int (nI i))]) hx hb dL_law_1137 hl (by decide) rfl (fun ls hl => ?_)
  generalize (sL_undo S) = S2 at hP hD hI2 ha2
  have hl0 := hl
  refine lv_aload_n hx hb dL_law_1139 rfl (lv_at hl 3 rfl) ?_
  have hP := k_swP hP
  have hD := k_swD hD
  refine k_aiR (wa := (wK g o0 x0 ua ub S2)) (w1 := (w8 g m0 uu (sR_undo R))) (va_runV (As := []) (rest := []) ⟨hx, hb, hml, hown, hts⟩ (c_8_undo l D g m0 uu H.size R  p7 p8 p9) (cwV 0 hts gL_law_X8_undo rfl rfl rfl (by decide +kernel) ⟨Nat.le_of_ble_eq_true rfl, Nat.le_of_ble_eq_true rfl⟩) (kPVs (wa := (wK g o0 x0 ua ub S2)) hP hD hK hS hA hE 0 8 rfl rfl rfl) rfl rfl hl.1 rfl (lv_room (Nat.le_of_ble_eq_true rfl)) dL_law_1140 ⟨by show 200 + i + 1 ≤ 601024; omega, by show 40000 + 6 * i + 6 ≤ 7293034; omega⟩) hP hD hS hA (fun H locs hP hD hS => ?_)
  generalize (sR_undo R) = R2 at hP hD hI2 hk2
  refine lv_topi (fun b9 eb9 => ?_)
  refine lv_istore (lv' := [(6, .int b9), (5, .int k9), (0, .ref b), (1, .ref x0), (2, .ref m0), (3, .ref o0), (4, .int (nI i))]) hx hb dL_law_1143 hl (by decide) rfl (fun ls hl => ?_)
  refine lv_aload_n hx hb dL_law_1145 rfl (lv_at hl 4 rfl) ?_
  obtain ⟨_, _, _, _, _, _, q7, q8, q9⟩ := INV.pre hI2
  refine k_aiR (wa := (wK g o0 x0 ua ub S2)) (w1 := (w8 g m0 uu R2)) (va_runV (As := []) (rest := []) ⟨hx, hb, hml, hown, hts⟩ (c_8_thrown l D g m0 uu H.size R2 q7 q8 q9) (cwV 0 hts gL_law_X8_thrown rfl rfl rfl (by decide +kernel) ⟨Nat.le_of_ble_eq_true rfl, Nat.le_of_ble_eq_true rfl⟩) (kPVs (wa := (wK g o0 x0 ua ub S2)) hP hD hK hS hA hE 0 8 rfl rfl rfl) rfl rfl hl.1 rfl (lv_room (Nat.le_of_ble_eq_true rfl)) dL_law_1146 ⟨by show 200 + i + 1 ≤ 601024; omega, by show 40000 + 6 * i + 6 ≤ 7293034; omega⟩) hP hD hS hA (fun H locs hP hD hS => ?_)
  refine lv_iload hx hb dL_law_1149 (lv_at hl 1 rfl) ?_
  refine lv_icmp_eq (tgt := 1156) hx hb dL_law_1151 (by decide) (fun c1 => ?_) (fun c1 => absurd (ek9.trans hk2).symm c1)
  refine lv_iload hx hb dL_law_1156 (lv_at hl 1 rfl) ?_
  have hG : ∀ (H : Heap) (locs : List Loc), va_P D vwCl ((wK g o0 x0 ua ub S2) ++ (w8 g m0 uu R2)) H → va_D (lwA s) ((wK g o0 x0 ua ub S2) ++ (w8 g m0 uu R2)) → va_S (lwA s) s.heap H locs → W p l e room_1 s m #[Value.ref b] below meth c H locs (200 + i + 1) (40000 + 6 * i + 6) Q (F0 m 1173 ls []) := by
    intro H locs hP hD hS
    refine lv_goto (tgt := 1929) hx hb dL_law_1173 (by decide) ?_
    exact K S2 R2 _ _ _ hI2 (k_swP hP) (k_swD hD) hS (lv_sub hl [2, 3, 4, 5, 6] rfl)
  refine lv_if_ne (tgt := 1173) hx hb dL_law_1158 (by decide) (fun c2 => hG _ _ hP hD hS) (fun c2 => ?_)
  refine lv_aload_n hx hb dL_law_1161 rfl (lv_at hl 5 rfl) ?_
  refine lv_iconst (v := 0) hx hb dL_law_1162 (by decide) ?_
  refine va_lald (i := 0) hx hb hK hP 0 4 rfl rfl (by unfold vp_in; decide) dL_law_1163 ?_
  refine k_topl (y := S2.2.2.2.2.2.2.2.2.2.2.2 0) rfl ?_
  refine lv_iload hx hb dL_law_1164 (lv_at hl 0 rfl) ?_
  refine lv_i2l (v := Int32.toInt64 b9) hx hb dL_law_1166 rfl ?_
  refine W.lcmp hx hb dL_law_1167 ?_
  refine lv_if_eq (tgt := 1173) hx hb dL_law_1168 (by decide) (fun c3 => hG _ _ hP hD hS) (fun c3 => absurd ((lg_cmp_eq _ _).mpr ((ha2 (ek9.symm.trans c2)).trans (congrArg Int32.toInt64 eb9.symm))) c3)
set_option maxHeartbeats 4000000 in
set_option maxRecDepth 100000 in
theorem law_16 {p : Program} {l : Launch} {e : Env} {s : State} {m : MethodId} {below : List Frame} {meth : Method} {c : Code} {D : va_G} {g : Nat → Nat} {o0 x0 m0 : Nat} {ua ub : Nat → Nat → Nat} {uu : Nat → Nat} {b L : Nat} {xs : Nat → Int32} (C : LwC p l s m c D g b L xs) {i : Nat} (hi : i + 7 ≤ L) {Q : State → Prop} (K : LwK p l e s m below meth c D g o0 x0 m0 ua ub uu b i Q) {S : KC} {R : KR} {H : Heap} {locs : List Loc} {ls : Array Slot} (hI : INV (3000 * i) S R) (hP : va_P D vwCl ((w8 g m0 uu R) ++ (wK g o0 x0 ua ub S)) H) (hD : va_D (lwA s) ((w8 g m0 uu R) ++ (wK g o0 x0 ua ub S))) (hS : va_S (lwA s) s.heap H locs) (hl : lv_has ls 7 [(0, .ref b), (1, .ref x0), (2, .ref m0), (3, .ref o0), (4, .int (nI i))]) : W p l e room_1 s m #[Value.ref b] below meth c H locs (200 + i) (40000 + 6 * i) Q (F0 m 1176 ls []) := by
  obtain ⟨hx, hb, hml, hown, hts, hX0, hbl, hst, hK, hE, hX, hL⟩ := C
  have hA : ∀ q : Nat, s.heap.size ≤ q → lwA s q := fun _ h => h
  have hbA : ¬ lwA s b := Nat.not_le.mpr hbl
  obtain ⟨p1, p2, p3, p4, p5, p6, p7, p8, p9⟩ := INV.pre hI
  refine lv_aload_n hx hb dL_law_1176 rfl (lv_at hl 1 rfl) ?_
  refine lv_aload_n hx hb dL_law_1177 rfl (lv_at hl 0 rfl) ?_
  refine lv_iload hx hb dL_law_1178 (lv_at hl 4 rfl) ?_
  refine lv_iconst (v := 1) hx hb dL_law_1180 (by decide) ?_
  refine law_ld (k := 1) rfl (by omega) hL hx hb hX0 hbl hbA hS dL_law_1181 dL_law_1182 ?_
  refine lv_aload_n hx hb dL_law_1183 rfl (lv_at hl 0 rfl) ?_
  refine lv_iload hx hb dL_law_1184 (lv_at hl 4 rfl) ?_
  refine lv_iconst (v := 2) hx hb dL_law_1186 (by decide) ?_
  refine law_ld (k := 2) rfl (by omega) hL hx hb hX0 hbl hbA hS dL_law_1187 dL_law_1188 ?_
  refine lv_aload_n hx hb dL_law_1189 rfl (lv_at hl 0 rfl) ?_
  refine lv_iload hx hb dL_law_1190 (lv_at hl 4 rfl) ?_
  refine lv_iconst (v := 3) hx hb dL_law_1192 (by decide) ?_
  refine law_ld (k := 3) rfl (by omega) hL hx hb hX0 hbl hbA hS dL_law_1193 dL_law_1194 ?_
  refine lv_aload_n hx hb dL_law_1195 rfl (lv_at hl 3 rfl) ?_
  obtain ⟨hI2, hk2, ha2⟩ := inv_would (N := 3000 * i) (xs (i + 1)) (xs (i + 2)) (xs (i + 3)) hI (by omega)
  refine k_aiR (wa := (w8 g m0 uu R)) (w1 := (wK g o0 x0 ua ub (sL_would (xs (i + 1)) (xs (i + 2)) (xs (i + 3)) S))) (vx_runSW (As := [.ref x0, .int (xs (i + 1)), .int (xs (i + 2)), .int (xs (i + 3)), .ref o0]) (rest := []) ⟨hx, hb, hml, hown, hts⟩ (c_L_would l D g o0 x0 ua ub H.size S (xs (i + 1)) (xs (i + 2)) (xs (i + 3)) hst p1 p2 p3 p4 p5 p6) (vx_cwSW 5 hts gL_law_L_would rfl rfl rfl (by decide +kernel) ⟨Nat.le_of_ble_eq_true rfl, Nat.le_of_ble_eq_true rfl⟩) (kPSsX (wa := (w8 g m0 uu R)) hP hD hK hS hA hE hX) rfl rfl hl.1 rfl (lv_room (Nat.le_of_ble_eq_true rfl)) dL_law_1196 ⟨by show 200 + i + 1 ≤ 601024; omega, by show 40000 + 6 * i + 6 ≤ 7293034; omega⟩) hP hD hS hA (fun H locs hP hD hS => ?_)
  refine lv_topi (fun k9 ek9 => ?_)
  refine lv_istore (lv' := [(5, .int k9), (0, .ref b), (1, .ref x0), (2, .ref m0), (3, .ref o0), (4, .int (nI i))]) hx hb dL_law_1199 hl (by decide) rfl (fun ls hl => ?_)
  generalize (sL_would (xs (i + 1)) (xs (i + 2)) (xs (i + 3)) S) = S2 at hP hD hI2 ha2
  have hl0 := hl
  refine lv_aload_n hx hb dL_law_1201 rfl (lv_at hl 3 rfl) ?_
  refine lv_aload_n hx hb dL_law_1202 rfl (lv_at hl 1 rfl) ?_
  refine lv_iload hx hb dL_law_1203 (lv_at hl 5 rfl) ?_
  refine lv_iconst (v := 1) hx hb dL_law_1205 (by decide) ?_
  refine law_ld (k := 1) rfl (by omega) hL hx hb hX0 hbl hbA hS dL_law_1206 dL_law_1207 ?_
  refine lv_aload_n hx hb dL_law_1208 rfl (lv_at hl 1 rfl) ?_
  refine lv_iload hx hb dL_law_1209 (lv_at hl 5 rfl) ?_
  refine lv_iconst (v := 2) hx hb dL_law_1211 (by decide) ?_
  refine law_ld (k := 2) rfl (by omega) hL hx hb hX0 hbl hbA hS dL_law_1212 dL_law_1213 ?_
  refine lv_aload_n hx hb dL_law_1214 rfl (lv_at hl 1 rfl) ?_
  refine lv_iload hx hb dL_law_1215 (lv_at hl 5 rfl) ?_
  refine lv_iconst (v := 3) hx hb dL_law_1217 (by decide) ?_
  refine law_ld (k := 3) rfl (by omega) hL hx hb hX0 hbl hbA hS dL_law_1218 dL_law_1219 ?_
  have hP := k_swP hP
  have hD := k_swD hD
  refine k_aiR (wa := (wK g o0 x0 ua ub S2)) (w1 := (w8 g m0 uu (sR_would (xs (i + 1)) (xs (i + 2)) (xs (i + 3)) R))) (va_runV (As := [.int (xs (i + 1)), .int (xs (i + 2)), .int (xs (i + 3))]) (rest := []) ⟨hx, hb, hml, hown, hts⟩ (c_8_would l D g m0 uu H.size R (xs (i + 1)) (xs (i + 2)) (xs (i + 3)) p7 p8 p9) (cwV 3 hts gL_law_X8_would rfl rfl rfl (by decide +kernel) ⟨Nat.le_of_ble_eq_true rfl, Nat.le_of_ble_eq_true rfl⟩) (kPVs (wa := (wK g o0 x0 ua ub S2)) hP hD hK hS hA hE 0 8 rfl rfl rfl) rfl rfl hl.1 rfl (lv_room (Nat.le_of_ble_eq_true rfl)) dL_law_1220 ⟨by show 200 + i + 1 ≤ 601024; omega, by show 40000 + 6 * i + 6 ≤ 7293034; omega⟩) hP hD hS hA (fun H locs hP hD hS => ?_)
  generalize (sR_would (xs (i + 1)) (xs (i + 2)) (xs (i + 3)) R) = R2 at hP hD hI2 hk2
  refine lv_topi (fun b9 eb9 => ?_)
  refine lv_istore (lv' := [(6, .int b9), (5, .int k9), (0, .ref b), (1, .ref x0), (2, .ref m0), (3, .ref o0), (4, .int (nI i))]) hx hb dL_law_1223 hl (by decide) rfl (fun ls hl => ?_)
  refine lv_aload_n hx hb dL_law_1225 rfl (lv_at hl 4 rfl) ?_
  obtain ⟨_, _, _, _, _, _, q7, q8, q9⟩ := INV.pre hI2
  refine k_aiR (wa := (wK g o0 x0 ua ub S2)) (w1 := (w8 g m0 uu R2)) (va_runV (As := []) (rest := []) ⟨hx, hb, hml, hown, hts⟩ (c_8_thrown l D g m0 uu H.size R2 q7 q8 q9) (cwV 0 hts gL_law_X8_thrown rfl rfl rfl (by decide +kernel) ⟨Nat.le_of_ble_eq_true rfl, Nat.le_of_ble_eq_true rfl⟩) (kPVs (wa := (wK g o0 x0 ua ub S2)) hP hD hK hS hA hE 0 8 rfl rfl rfl) rfl rfl hl.1 rfl (lv_room (Nat.le_of_ble_eq_true rfl)) dL_law_1226 ⟨by show 200 + i + 1 ≤ 601024; omega, by show 40000 + 6 * i + 6 ≤ 7293034; omega⟩) hP hD hS hA (fun H locs hP hD hS => ?_)
  refine lv_iload hx hb dL_law_1229 (lv_at hl 1 rfl) ?_
  refine lv_icmp_eq (tgt := 1236) hx hb dL_law_1231 (by decide) (fun c1 => ?_) (fun c1 => absurd (ek9.trans hk2).symm c1)
  refine lv_iload hx hb dL_law_1236 (lv_at hl 1 rfl) ?_
  have hG : ∀ (H : Heap) (locs : List Loc), va_P D vwCl ((wK g o0 x0 ua ub S2) ++ (w8 g m0 uu R2)) H → va_D (lwA s) ((wK g o0 x0 ua ub S2) ++ (w8 g m0 uu R2)) → va_S (lwA s) s.heap H locs → W p l e room_1 s m #[Value.ref b] below meth c H locs (200 + i + 1) (40000 + 6 * i + 6) Q (F0 m 1253 ls []) := by
    intro H locs hP hD hS
    refine lv_goto (tgt := 1929) hx hb dL_law_1253 (by decide) ?_
    exact K S2 R2 _ _ _ hI2 (k_swP hP) (k_swD hD) hS (lv_sub hl [2, 3, 4, 5, 6] rfl)
  refine lv_if_ne (tgt := 1253) hx hb dL_law_1238 (by decide) (fun c2 => hG _ _ hP hD hS) (fun c2 => ?_)
  refine lv_aload_n hx hb dL_law_1241 rfl (lv_at hl 5 rfl) ?_
  refine lv_iconst (v := 0) hx hb dL_law_1242 (by decide) ?_
  refine va_lald (i := 0) hx hb hK hP 0 4 rfl rfl (by unfold vp_in; decide) dL_law_1243 ?_
  refine k_topl (y := S2.2.2.2.2.2.2.2.2.2.2.2 0) rfl ?_
  refine lv_iload hx hb dL_law_1244 (lv_at hl 0 rfl) ?_
  refine lv_i2l (v := Int32.toInt64 b9) hx hb dL_law_1246 rfl ?_
  refine W.lcmp hx hb dL_law_1247 ?_
  refine lv_if_eq (tgt := 1253) hx hb dL_law_1248 (by decide) (fun c3 => hG _ _ hP hD hS) (fun c3 => absurd ((lg_cmp_eq _ _).mpr ((ha2 (ek9.symm.trans c2)).trans (congrArg Int32.toInt64 eb9.symm))) c3)
set_option maxHeartbeats 4000000 in
set_option maxRecDepth 100000 in
theorem law_17 {p : Program} {l : Launch} {e : Env} {s : State} {m : MethodId} {below : List Frame} {meth : Method} {c : Code} {D : va_G} {g : Nat → Nat} {o0 x0 m0 : Nat} {ua ub : Nat → Nat → Nat} {uu : Nat → Nat} {b L : Nat} {xs : Nat → Int32} (C : LwC p l s m c D g b L xs) {i : Nat} (hi : i + 7 ≤ L) {Q : State → Prop} (K : LwK p l e s m below meth c D g o0 x0 m0 ua ub uu b i Q) {S : KC} {R : KR} {H : Heap} {locs : List Loc} {ls : Array Slot} (hI : INV (3000 * i) S R) (hP : va_P D vwCl ((w8 g m0 uu R) ++ (wK g o0 x0 ua ub S)) H) (hD : va_D (lwA s) ((w8 g m0 uu R) ++ (wK g o0 x0 ua ub S))) (hS : va_S (lwA s) s.heap H locs) (hl : lv_has ls 7 [(0, .ref b), (1, .ref x0), (2, .ref m0), (3, .ref o0), (4, .int (nI i))]) : W p l e room_1 s m #[Value.ref b] below meth c H locs (200 + i) (40000 + 6 * i) Q (F0 m 1256 ls []) := by
  obtain ⟨hx, hb, hml, hown, hts, hX0, hbl, hst, hK, hE, hX, hL⟩ := C
  have hA : ∀ q : Nat, s.heap.size ≤ q → lwA s q := fun _ h => h
  have hbA : ¬ lwA s b := Nat.not_le.mpr hbl
  obtain ⟨p1, p2, p3, p4, p5, p6, p7, p8, p9⟩ := INV.pre hI
  refine lv_aload_n hx hb dL_law_1256 rfl (lv_at hl 1 rfl) ?_
  refine lv_aload_n hx hb dL_law_1257 rfl (lv_at hl 0 rfl) ?_
  refine lv_iload hx hb dL_law_1258 (lv_at hl 4 rfl) ?_
  refine lv_iconst (v := 1) hx hb dL_law_1260 (by decide) ?_
  refine law_ld (k := 1) rfl (by omega) hL hx hb hX0 hbl hbA hS dL_law_1261 dL_law_1262 ?_
  refine lv_aload_n hx hb dL_law_1263 rfl (lv_at hl 0 rfl) ?_
  refine lv_iload hx hb dL_law_1264 (lv_at hl 4 rfl) ?_
  refine lv_iconst (v := 2) hx hb dL_law_1266 (by decide) ?_
  refine law_ld (k := 2) rfl (by omega) hL hx hb hX0 hbl hbA hS dL_law_1267 dL_law_1268 ?_
  refine lv_aload_n hx hb dL_law_1269 rfl (lv_at hl 0 rfl) ?_
  refine lv_iload hx hb dL_law_1270 (lv_at hl 4 rfl) ?_
  refine lv_iconst (v := 3) hx hb dL_law_1272 (by decide) ?_
  refine law_ld (k := 3) rfl (by omega) hL hx hb hX0 hbl hbA hS dL_law_1273 dL_law_1274 ?_
  refine lv_aload_n hx hb dL_law_1275 rfl (lv_at hl 0 rfl) ?_
  refine lv_iload hx hb dL_law_1276 (lv_at hl 4 rfl) ?_
  refine lv_iconst (v := 4) hx hb dL_law_1278 (by decide) ?_
  refine law_ld (k := 4) rfl (by omega) hL hx hb hX0 hbl hbA hS dL_law_1279 dL_law_1280 ?_
  refine lv_aload_n hx hb dL_law_1281 rfl (lv_at hl 3 rfl) ?_
  obtain ⟨hI2, hk2, ha2⟩ := inv_stands (N := 3000 * i) (xs (i + 1)) (xs (i + 2)) (xs (i + 3)) (xs (i + 4)) hI (by omega)
  refine k_aiR (wa := (w8 g m0 uu R)) (w1 := (wK g o0 x0 ua ub (sL_stands (xs (i + 1)) (xs (i + 2)) (xs (i + 3)) (xs (i + 4)) S))) (vx_runSW (As := [.ref x0, .int (xs (i + 1)), .int (xs (i + 2)), .int (xs (i + 3)), .int (xs (i + 4)), .ref o0]) (rest := []) ⟨hx, hb, hml, hown, hts⟩ (c_L_stands l D g o0 x0 ua ub H.size S (xs (i + 1)) (xs (i + 2)) (xs (i + 3)) (xs (i + 4)) hst p1 p2 p3 p4 p5 p6) (vx_cwSW 6 hts gL_law_L_stands rfl rfl rfl (by decide +kernel) ⟨Nat.le_of_ble_eq_true rfl, Nat.le_of_ble_eq_true rfl⟩) (kPSsX (wa := (w8 g m0 uu R)) hP hD hK hS hA hE hX) rfl rfl hl.1 rfl (lv_room (Nat.le_of_ble_eq_true rfl)) dL_law_1282 ⟨by show 200 + i + 1 ≤ 601024; omega, by show 40000 + 6 * i + 6 ≤ 7293034; omega⟩) hP hD hS hA (fun H locs hP hD hS => ?_)
  refine lv_topi (fun k9 ek9 => ?_)
  refine lv_istore (lv' := [(5, .int k9), (0, .ref b), (1, .ref x0), (2, .ref m0), (3, .ref o0), (4, .int (nI i))]) hx hb dL_law_1285 hl (by decide) rfl (fun ls hl => ?_)
  generalize (sL_stands (xs (i + 1)) (xs (i + 2)) (xs (i + 3)) (xs (i + 4)) S) = S2 at hP hD hI2 ha2
  have hl0 := hl
  refine lv_aload_n hx hb dL_law_1287 rfl (lv_at hl 3 rfl) ?_
  refine lv_aload_n hx hb dL_law_1288 rfl (lv_at hl 1 rfl) ?_
  refine lv_iload hx hb dL_law_1289 (lv_at hl 5 rfl) ?_
  refine lv_iconst (v := 1) hx hb dL_law_1291 (by decide) ?_
  refine law_ld (k := 1) rfl (by omega) hL hx hb hX0 hbl hbA hS dL_law_1292 dL_law_1293 ?_
  refine lv_aload_n hx hb dL_law_1294 rfl (lv_at hl 1 rfl) ?_
  refine lv_iload hx hb dL_law_1295 (lv_at hl 5 rfl) ?_
  refine lv_iconst (v := 2) hx hb dL_law_1297 (by decide) ?_
  refine law_ld (k := 2) rfl (by omega) hL hx hb hX0 hbl hbA hS dL_law_1298 dL_law_1299 ?_
  refine lv_aload_n hx hb dL_law_1300 rfl (lv_at hl 1 rfl) ?_
  refine lv_iload hx hb dL_law_1301 (lv_at hl 5 rfl) ?_
  refine lv_iconst (v := 3) hx hb dL_law_1303 (by decide) ?_
  refine law_ld (k := 3) rfl (by omega) hL hx hb hX0 hbl hbA hS dL_law_1304 dL_law_1305 ?_
  refine lv_aload_n hx hb dL_law_1306 rfl (lv_at hl 1 rfl) ?_
  refine lv_iload hx hb dL_law_1307 (lv_at hl 5 rfl) ?_
  refine lv_iconst (v := 4) hx hb dL_law_1309 (by decide) ?_
  refine law_ld (k := 4) rfl (by omega) hL hx hb hX0 hbl hbA hS dL_law_1310 dL_law_1311 ?_
  have hP := k_swP hP
  have hD := k_swD hD
  refine k_aiR (wa := (wK g o0 x0 ua ub S2)) (w1 := (w8 g m0 uu (sR_stands (xs (i + 1)) (xs (i + 2)) (xs (i + 3)) (xs (i + 4)) R))) (va_runV (As := [.int (xs (i + 1)), .int (xs (i + 2)), .int (xs (i + 3)), .int (xs (i + 4))]) (rest := []) ⟨hx, hb, hml, hown, hts⟩ (c_8_stands l D g m0 uu H.size R (xs (i + 1)) (xs (i + 2)) (xs (i + 3)) (xs (i + 4)) p7 p8 p9) (cwV 4 hts gL_law_X8_stands rfl rfl rfl (by decide +kernel) ⟨Nat.le_of_ble_eq_true rfl, Nat.le_of_ble_eq_true rfl⟩) (kPVs (wa := (wK g o0 x0 ua ub S2)) hP hD hK hS hA hE 0 8 rfl rfl rfl) rfl rfl hl.1 rfl (lv_room (Nat.le_of_ble_eq_true rfl)) dL_law_1312 ⟨by show 200 + i + 1 ≤ 601024; omega, by show 40000 + 6 * i + 6 ≤ 7293034; omega⟩) hP hD hS hA (fun H locs hP hD hS => ?_)
  generalize (sR_stands (xs (i + 1)) (xs (i + 2)) (xs (i + 3)) (xs (i + 4)) R) = R2 at hP hD hI2 hk2
  refine lv_topi (fun b9 eb9 => ?_)
  refine lv_istore (lv' := [(6, .int b9), (5, .int k9), (0, .ref b), (1, .ref x0), (2, .ref m0), (3, .ref o0), (4, .int (nI i))]) hx hb dL_law_1315 hl (by decide) rfl (fun ls hl => ?_)
  refine lv_aload_n hx hb dL_law_1317 rfl (lv_at hl 4 rfl) ?_
  obtain ⟨_, _, _, _, _, _, q7, q8, q9⟩ := INV.pre hI2
  refine k_aiR (wa := (wK g o0 x0 ua ub S2)) (w1 := (w8 g m0 uu R2)) (va_runV (As := []) (rest := []) ⟨hx, hb, hml, hown, hts⟩ (c_8_thrown l D g m0 uu H.size R2 q7 q8 q9) (cwV 0 hts gL_law_X8_thrown rfl rfl rfl (by decide +kernel) ⟨Nat.le_of_ble_eq_true rfl, Nat.le_of_ble_eq_true rfl⟩) (kPVs (wa := (wK g o0 x0 ua ub S2)) hP hD hK hS hA hE 0 8 rfl rfl rfl) rfl rfl hl.1 rfl (lv_room (Nat.le_of_ble_eq_true rfl)) dL_law_1318 ⟨by show 200 + i + 1 ≤ 601024; omega, by show 40000 + 6 * i + 6 ≤ 7293034; omega⟩) hP hD hS hA (fun H locs hP hD hS => ?_)
  refine lv_iload hx hb dL_law_1321 (lv_at hl 1 rfl) ?_
  refine lv_icmp_eq (tgt := 1328) hx hb dL_law_1323 (by decide) (fun c1 => ?_) (fun c1 => absurd (ek9.trans hk2).symm c1)
  refine lv_iload hx hb dL_law_1328 (lv_at hl 1 rfl) ?_
  have hG : ∀ (H : Heap) (locs : List Loc), va_P D vwCl ((wK g o0 x0 ua ub S2) ++ (w8 g m0 uu R2)) H → va_D (lwA s) ((wK g o0 x0 ua ub S2) ++ (w8 g m0 uu R2)) → va_S (lwA s) s.heap H locs → W p l e room_1 s m #[Value.ref b] below meth c H locs (200 + i + 1) (40000 + 6 * i + 6) Q (F0 m 1345 ls []) := by
    intro H locs hP hD hS
    refine lv_goto (tgt := 1929) hx hb dL_law_1345 (by decide) ?_
    exact K S2 R2 _ _ _ hI2 (k_swP hP) (k_swD hD) hS (lv_sub hl [2, 3, 4, 5, 6] rfl)
  refine lv_if_ne (tgt := 1345) hx hb dL_law_1330 (by decide) (fun c2 => hG _ _ hP hD hS) (fun c2 => ?_)
  refine lv_aload_n hx hb dL_law_1333 rfl (lv_at hl 5 rfl) ?_
  refine lv_iconst (v := 0) hx hb dL_law_1334 (by decide) ?_
  refine va_lald (i := 0) hx hb hK hP 0 4 rfl rfl (by unfold vp_in; decide) dL_law_1335 ?_
  refine k_topl (y := S2.2.2.2.2.2.2.2.2.2.2.2 0) rfl ?_
  refine lv_iload hx hb dL_law_1336 (lv_at hl 0 rfl) ?_
  refine lv_i2l (v := Int32.toInt64 b9) hx hb dL_law_1338 rfl ?_
  refine W.lcmp hx hb dL_law_1339 ?_
  refine lv_if_eq (tgt := 1345) hx hb dL_law_1340 (by decide) (fun c3 => hG _ _ hP hD hS) (fun c3 => absurd ((lg_cmp_eq _ _).mpr ((ha2 (ek9.symm.trans c2)).trans (congrArg Int32.toInt64 eb9.symm))) c3)
set_option maxHeartbeats 4000000 in
set_option maxRecDepth 100000 in
theorem law_18 {p : Program} {l : Launch} {e : Env} {s : State} {m : MethodId} {below : List Frame} {meth : Method} {c : Code} {D : va_G} {g : Nat → Nat} {o0 x0 m0 : Nat} {ua ub : Nat → Nat → Nat} {uu : Nat → Nat} {b L : Nat} {xs : Nat → Int32} (C : LwC p l s m c D g b L xs) {i : Nat} (hi : i + 7 ≤ L) {Q : State → Prop} (K : LwK p l e s m below meth c D g o0 x0 m0 ua ub uu b i Q) {S : KC} {R : KR} {H : Heap} {locs : List Loc} {ls : Array Slot} (hI : INV (3000 * i) S R) (hP : va_P D vwCl ((w8 g m0 uu R) ++ (wK g o0 x0 ua ub S)) H) (hD : va_D (lwA s) ((w8 g m0 uu R) ++ (wK g o0 x0 ua ub S))) (hS : va_S (lwA s) s.heap H locs) (hl : lv_has ls 7 [(0, .ref b), (1, .ref x0), (2, .ref m0), (3, .ref o0), (4, .int (nI i))]) : W p l e room_1 s m #[Value.ref b] below meth c H locs (200 + i) (40000 + 6 * i) Q (F0 m 1348 ls []) := by
  obtain ⟨hx, hb, hml, hown, hts, hX0, hbl, hst, hK, hE, hX, hL⟩ := C
  have hA : ∀ q : Nat, s.heap.size ≤ q → lwA s q := fun _ h => h
  have hbA : ¬ lwA s b := Nat.not_le.mpr hbl
  obtain ⟨p1, p2, p3, p4, p5, p6, p7, p8, p9⟩ := INV.pre hI
  refine lv_aload_n hx hb dL_law_1348 rfl (lv_at hl 1 rfl) ?_
  obtain ⟨hI2, hr2⟩ := inv_holes (N := 3000 * i) hI (by omega)
  refine k_aiR (wa := (w8 g m0 uu R)) (w1 := (wK g o0 x0 ua ub (sL_holes S))) (va_runV (As := []) (rest := []) ⟨hx, hb, hml, hown, hts⟩ (c_7_holes l D g o0 x0 ua ub H.size S hst p1 p2 p3 p4 p5 p6) (cwV 0 hts gL_law_X7_holes rfl rfl rfl (by decide +kernel) ⟨Nat.le_of_ble_eq_true rfl, Nat.le_of_ble_eq_true rfl⟩) (kPVs (wa := (w8 g m0 uu R)) hP hD hK hS hA hE 1 7 rfl rfl rfl) rfl rfl hl.1 rfl (lv_room (Nat.le_of_ble_eq_true rfl)) dL_law_1349 ⟨by show 200 + i ≤ 601024; omega, by show 40000 + 6 * i ≤ 7293034; omega⟩) hP hD hS hA (fun H locs hP hD hS => ?_)
  generalize (sL_holes S) = S2 at hP hD hI2 
  refine lv_aload_n hx hb dL_law_1352 rfl (lv_at hl 2 rfl) ?_
  have hP := k_swP hP
  have hD := k_swD hD
  refine k_aiR (wa := (wK g o0 x0 ua ub S2)) (w1 := (w8 g m0 uu (sR_holes R))) (va_runV (As := []) (rest := [.int (f_X7_holes S.2.2.1)]) ⟨hx, hb, hml, hown, hts⟩ (c_8_holes l D g m0 uu H.size R  p7 p8 p9) (cwV 0 hts gL_law_X8_holes rfl rfl rfl (by decide +kernel) ⟨Nat.le_of_ble_eq_true rfl, Nat.le_of_ble_eq_true rfl⟩) (kPVs (wa := (wK g o0 x0 ua ub S2)) hP hD hK hS hA hE 0 8 rfl rfl rfl) rfl rfl hl.1 rfl (lv_room (Nat.le_of_ble_eq_true rfl)) dL_law_1353 ⟨by show 200 + i ≤ 601024; omega, by show 40000 + 6 * i ≤ 7293034; omega⟩) hP hD hS hA (fun H locs hP hD hS => ?_)
  generalize (sR_holes R) = R2 at hP hD hI2 
  refine lv_icmp_eq (tgt := 1929) hx hb dL_law_1356 (by decide) (fun c1 => ?_) (fun c1 => absurd hr2 c1)
  refine W.widen (k := 200 + i + 1) (n := 40000 + 6 * i + 6) (by show 200 + i ≤ _; omega) (by show 40000 + 6 * i ≤ _; omega) ?_
  exact K S2 R2 _ _ _ hI2 (k_swP hP) (k_swD hD) hS (lv_sub hl [0, 1, 2, 3, 4] rfl)
set_option maxHeartbeats 4000000 in
set_option maxRecDepth 100000 in
theorem law_19 {p : Program} {l : Launch} {e : Env} {s : State} {m : MethodId} {below : List Frame} {meth : Method} {c : Code} {D : va_G} {g : Nat → Nat} {o0 x0 m0 : Nat} {ua ub : Nat → Nat → Nat} {uu : Nat → Nat} {b L : Nat} {xs : Nat → Int32} (C : LwC p l s m c D g b L xs) {i : Nat} (hi : i + 7 ≤ L) {Q : State → Prop} (K : LwK p l e s m below meth c D g o0 x0 m0 ua ub uu b i Q) {S : KC} {R : KR} {H : Heap} {locs : List Loc} {ls : Array Slot} (hI : INV (3000 * i) S R) (hP : va_P D vwCl ((w8 g m0 uu R) ++ (wK g o0 x0 ua ub S)) H) (hD : va_D (lwA s) ((w8 g m0 uu R) ++ (wK g o0 x0 ua ub S))) (hS : va_S (lwA s) s.heap H locs) (hl : lv_has ls 7 [(0, .ref b), (1, .ref x0), (2, .ref m0), (3, .ref o0), (4, .int (nI i))]) : W p l e room_1 s m #[Value.ref b] below meth c H locs (200 + i) (40000 + 6 * i) Q (F0 m 1361 ls []) := by
  obtain ⟨hx, hb, hml, hown, hts, hX0, hbl, hst, hK, hE, hX, hL⟩ := C
  have hA : ∀ q : Nat, s.heap.size ≤ q → lwA s q := fun _ h => h
  have hbA : ¬ lwA s b := Nat.not_le.mpr hbl
  obtain ⟨p1, p2, p3, p4, p5, p6, p7, p8, p9⟩ := INV.pre hI
  refine lv_aload_n hx hb dL_law_1361 rfl (lv_at hl 1 rfl) ?_
  refine lv_aload_n hx hb dL_law_1362 rfl (lv_at hl 0 rfl) ?_
  refine lv_iload hx hb dL_law_1363 (lv_at hl 4 rfl) ?_
  refine lv_iconst (v := 1) hx hb dL_law_1365 (by decide) ?_
  refine law_ld (k := 1) rfl (by omega) hL hx hb hX0 hbl hbA hS dL_law_1366 dL_law_1367 ?_
  refine lv_aload_n hx hb dL_law_1368 rfl (lv_at hl 0 rfl) ?_
  refine lv_iload hx hb dL_law_1369 (lv_at hl 4 rfl) ?_
  refine lv_iconst (v := 2) hx hb dL_law_1371 (by decide) ?_
  refine law_ld (k := 2) rfl (by omega) hL hx hb hX0 hbl hbA hS dL_law_1372 dL_law_1373 ?_
  refine lv_aload_n hx hb dL_law_1374 rfl (lv_at hl 0 rfl) ?_
  refine lv_iload hx hb dL_law_1375 (lv_at hl 4 rfl) ?_
  refine lv_iconst (v := 3) hx hb dL_law_1377 (by decide) ?_
  refine law_ld (k := 3) rfl (by omega) hL hx hb hX0 hbl hbA hS dL_law_1378 dL_law_1379 ?_
  refine lv_aload_n hx hb dL_law_1380 rfl (lv_at hl 3 rfl) ?_
  obtain ⟨hI2, hk2, ha2⟩ := inv_firstBad (N := 3000 * i) (xs (i + 1)) (xs (i + 2)) (xs (i + 3)) hI (by omega)
  refine k_aiR (wa := (w8 g m0 uu R)) (w1 := (wK g o0 x0 ua ub (sL_firstBad (xs (i + 1)) (xs (i + 2)) (xs (i + 3)) S))) (vx_runSW (As := [.ref x0, .int (xs (i + 1)), .int (xs (i + 2)), .int (xs (i + 3)), .ref o0]) (rest := []) ⟨hx, hb, hml, hown, hts⟩ (c_L_firstBad l D g o0 x0 ua ub H.size S (xs (i + 1)) (xs (i + 2)) (xs (i + 3)) hst p1 p2 p3 p4 p5 p6) (vx_cwSW 5 hts gL_law_L_firstBad rfl rfl rfl (by decide +kernel) ⟨Nat.le_of_ble_eq_true rfl, Nat.le_of_ble_eq_true rfl⟩) (kPSsX (wa := (w8 g m0 uu R)) hP hD hK hS hA hE hX) rfl rfl hl.1 rfl (lv_room (Nat.le_of_ble_eq_true rfl)) dL_law_1381 ⟨by show 200 + i + 1 ≤ 601024; omega, by show 40000 + 6 * i + 6 ≤ 7293034; omega⟩) hP hD hS hA (fun H locs hP hD hS => ?_)
  refine lv_topi (fun k9 ek9 => ?_)
  refine lv_istore (lv' := [(5, .int k9), (0, .ref b), (1, .ref x0), (2, .ref m0), (3, .ref o0), (4, .int (nI i))]) hx hb dL_law_1384 hl (by decide) rfl (fun ls hl => ?_)
  generalize (sL_firstBad (xs (i + 1)) (xs (i + 2)) (xs (i + 3)) S) = S2 at hP hD hI2 ha2
  have hl0 := hl
  refine lv_aload_n hx hb dL_law_1386 rfl (lv_at hl 3 rfl) ?_
  refine lv_aload_n hx hb dL_law_1387 rfl (lv_at hl 1 rfl) ?_
  refine lv_iload hx hb dL_law_1388 (lv_at hl 5 rfl) ?_
  refine lv_iconst (v := 1) hx hb dL_law_1390 (by decide) ?_
  refine law_ld (k := 1) rfl (by omega) hL hx hb hX0 hbl hbA hS dL_law_1391 dL_law_1392 ?_
  refine lv_aload_n hx hb dL_law_1393 rfl (lv_at hl 1 rfl) ?_
  refine lv_iload hx hb dL_law_1394 (lv_at hl 5 rfl) ?_
  refine lv_iconst (v := 2) hx hb dL_law_1396 (by decide) ?_
  refine law_ld (k := 2) rfl (by omega) hL hx hb hX0 hbl hbA hS dL_law_1397 dL_law_1398 ?_
  refine lv_aload_n hx hb dL_law_1399 rfl (lv_at hl 1 rfl) ?_
  refine lv_iload hx hb dL_law_1400 (lv_at hl 5 rfl) ?_
  refine lv_iconst (v := 3) hx hb dL_law_1402 (by decide) ?_
  refine law_ld (k := 3) rfl (by omega) hL hx hb hX0 hbl hbA hS dL_law_1403 dL_law_1404 ?_
  have hP := k_swP hP
  have hD := k_swD hD
  refine k_aiR (wa := (wK g o0 x0 ua ub S2)) (w1 := (w8 g m0 uu (sR_firstBad (xs (i + 1)) (xs (i + 2)) (xs (i + 3)) R))) (va_runV (As := [.int (xs (i + 1)), .int (xs (i + 2)), .int (xs (i + 3))]) (rest := []) ⟨hx, hb, hml, hown, hts⟩ (c_8_firstBad l D g m0 uu H.size R (xs (i + 1)) (xs (i + 2)) (xs (i + 3)) p7 p8 p9) (cwV 3 hts gL_law_X8_firstBad rfl rfl rfl (by decide +kernel) ⟨Nat.le_of_ble_eq_true rfl, Nat.le_of_ble_eq_true rfl⟩) (kPVs (wa := (wK g o0 x0 ua ub S2)) hP hD hK hS hA hE 0 8 rfl rfl rfl) rfl rfl hl.1 rfl (lv_room (Nat.le_of_ble_eq_true rfl)) dL_law_1405 ⟨by show 200 + i + 1 ≤ 601024; omega, by show 40000 + 6 * i + 6 ≤ 7293034; omega⟩) hP hD hS hA (fun H locs hP hD hS => ?_)
  generalize (sR_firstBad (xs (i + 1)) (xs (i + 2)) (xs (i + 3)) R) = R2 at hP hD hI2 hk2
  refine lv_topi (fun b9 eb9 => ?_)
  refine lv_istore (lv' := [(6, .int b9), (5, .int k9), (0, .ref b), (1, .ref x0), (2, .ref m0), (3, .ref o0), (4, .int (nI i))]) hx hb dL_law_1408 hl (by decide) rfl (fun ls hl => ?_)
  refine lv_aload_n hx hb dL_law_1410 rfl (lv_at hl 4 rfl) ?_
  obtain ⟨_, _, _, _, _, _, q7, q8, q9⟩ := INV.pre hI2
  refine k_aiR (wa := (wK g o0 x0 ua ub S2)) (w1 := (w8 g m0 uu R2)) (va_runV (As := []) (rest := []) ⟨hx, hb, hml, hown, hts⟩ (c_8_thrown l D g m0 uu H.size R2 q7 q8 q9) (cwV 0 hts gL_law_X8_thrown rfl rfl rfl (by decide +kernel) ⟨Nat.le_of_ble_eq_true rfl, Nat.le_of_ble_eq_true rfl⟩) (kPVs (wa := (wK g o0 x0 ua ub S2)) hP hD hK hS hA hE 0 8 rfl rfl rfl) rfl rfl hl.1 rfl (lv_room (Nat.le_of_ble_eq_true rfl)) dL_law_1411 ⟨by show 200 + i + 1 ≤ 601024; omega, by show 40000 + 6 * i + 6 ≤ 7293034; omega⟩) hP hD hS hA (fun H locs hP hD hS => ?_)
  refine lv_iload hx hb dL_law_1414 (lv_at hl 1 rfl) ?_
  refine lv_icmp_eq (tgt := 1421) hx hb dL_law_1416 (by decide) (fun c1 => ?_) (fun c1 => absurd (ek9.trans hk2).symm c1)
  refine lv_iload hx hb dL_law_1421 (lv_at hl 1 rfl) ?_
  have hG : ∀ (H : Heap) (locs : List Loc), va_P D vwCl ((wK g o0 x0 ua ub S2) ++ (w8 g m0 uu R2)) H → va_D (lwA s) ((wK g o0 x0 ua ub S2) ++ (w8 g m0 uu R2)) → va_S (lwA s) s.heap H locs → W p l e room_1 s m #[Value.ref b] below meth c H locs (200 + i + 1) (40000 + 6 * i + 6) Q (F0 m 1438 ls []) := by
    intro H locs hP hD hS
    refine lv_goto (tgt := 1929) hx hb dL_law_1438 (by decide) ?_
    exact K S2 R2 _ _ _ hI2 (k_swP hP) (k_swD hD) hS (lv_sub hl [2, 3, 4, 5, 6] rfl)
  refine lv_if_ne (tgt := 1438) hx hb dL_law_1423 (by decide) (fun c2 => hG _ _ hP hD hS) (fun c2 => ?_)
  refine lv_aload_n hx hb dL_law_1426 rfl (lv_at hl 5 rfl) ?_
  refine lv_iconst (v := 0) hx hb dL_law_1427 (by decide) ?_
  refine va_lald (i := 0) hx hb hK hP 0 4 rfl rfl (by unfold vp_in; decide) dL_law_1428 ?_
  refine k_topl (y := S2.2.2.2.2.2.2.2.2.2.2.2 0) rfl ?_
  refine lv_iload hx hb dL_law_1429 (lv_at hl 0 rfl) ?_
  refine lv_i2l (v := Int32.toInt64 b9) hx hb dL_law_1431 rfl ?_
  refine W.lcmp hx hb dL_law_1432 ?_
  refine lv_if_eq (tgt := 1438) hx hb dL_law_1433 (by decide) (fun c3 => hG _ _ hP hD hS) (fun c3 => absurd ((lg_cmp_eq _ _).mpr ((ha2 (ek9.symm.trans c2)).trans (congrArg Int32.toInt64 eb9.symm))) c3)
set_option maxHeartbeats 4000000 in
set_option maxRecDepth 100000 in
theorem law_20 {p : Program} {l : Launch} {e : Env} {s : State} {m : MethodId} {below : List Frame} {meth : Method} {c : Code} {D : va_G} {g : Nat → Nat} {o0 x0 m0 : Nat} {ua ub : Nat → Nat → Nat} {uu : Nat → Nat} {b L : Nat} {xs : Nat → Int32} (C : LwC p l s m c D g b L xs) {i : Nat} (hi : i + 7 ≤ L) {Q : State → Prop} (K : LwK p l e s m below meth c D g o0 x0 m0 ua ub uu b i Q) {S : KC} {R : KR} {H : Heap} {locs : List Loc} {ls : Array Slot} (hI : INV (3000 * i) S R) (hP : va_P D vwCl ((w8 g m0 uu R) ++ (wK g o0 x0 ua ub S)) H) (hD : va_D (lwA s) ((w8 g m0 uu R) ++ (wK g o0 x0 ua ub S))) (hS : va_S (lwA s) s.heap H locs) (hl : lv_has ls 7 [(0, .ref b), (1, .ref x0), (2, .ref m0), (3, .ref o0), (4, .int (nI i))]) : W p l e room_1 s m #[Value.ref b] below meth c H locs (200 + i) (40000 + 6 * i) Q (F0 m 1441 ls []) := by
  obtain ⟨hx, hb, hml, hown, hts, hX0, hbl, hst, hK, hE, hX, hL⟩ := C
  have hA : ∀ q : Nat, s.heap.size ≤ q → lwA s q := fun _ h => h
  have hbA : ¬ lwA s b := Nat.not_le.mpr hbl
  obtain ⟨p1, p2, p3, p4, p5, p6, p7, p8, p9⟩ := INV.pre hI
  refine lv_aload_n hx hb dL_law_1441 rfl (lv_at hl 1 rfl) ?_
  refine lv_aload_n hx hb dL_law_1442 rfl (lv_at hl 0 rfl) ?_
  refine lv_iload hx hb dL_law_1443 (lv_at hl 4 rfl) ?_
  refine lv_iconst (v := 1) hx hb dL_law_1445 (by decide) ?_
  refine law_ld (k := 1) rfl (by omega) hL hx hb hX0 hbl hbA hS dL_law_1446 dL_law_1447 ?_
  refine lv_aload_n hx hb dL_law_1448 rfl (lv_at hl 0 rfl) ?_
  refine lv_iload hx hb dL_law_1449 (lv_at hl 4 rfl) ?_
  refine lv_iconst (v := 2) hx hb dL_law_1451 (by decide) ?_
  refine law_ld (k := 2) rfl (by omega) hL hx hb hX0 hbl hbA hS dL_law_1452 dL_law_1453 ?_
  refine lv_aload_n hx hb dL_law_1454 rfl (lv_at hl 0 rfl) ?_
  refine lv_iload hx hb dL_law_1455 (lv_at hl 4 rfl) ?_
  refine lv_iconst (v := 3) hx hb dL_law_1457 (by decide) ?_
  refine law_ld (k := 3) rfl (by omega) hL hx hb hX0 hbl hbA hS dL_law_1458 dL_law_1459 ?_
  refine lv_aload_n hx hb dL_law_1460 rfl (lv_at hl 3 rfl) ?_
  obtain ⟨hI2, hk2, ha2⟩ := inv_mostBlamed (N := 3000 * i) (xs (i + 1)) (xs (i + 2)) (xs (i + 3)) hI (by omega)
  refine k_aiR (wa := (w8 g m0 uu R)) (w1 := (wK g o0 x0 ua ub (sL_mostBlamed (xs (i + 1)) (xs (i + 2)) (xs (i + 3)) S))) (vx_runSW (As := [.ref x0, .int (xs (i + 1)), .int (xs (i + 2)), .int (xs (i + 3)), .ref o0]) (rest := []) ⟨hx, hb, hml, hown, hts⟩ (c_L_mostBlamed l D g o0 x0 ua ub H.size S (xs (i + 1)) (xs (i + 2)) (xs (i + 3)) hst p1 p2 p3 p4 p5 p6) (vx_cwSW 5 hts gL_law_L_mostBlamed rfl rfl rfl (by decide +kernel) ⟨Nat.le_of_ble_eq_true rfl, Nat.le_of_ble_eq_true rfl⟩) (kPSsX (wa := (w8 g m0 uu R)) hP hD hK hS hA hE hX) rfl rfl hl.1 rfl (lv_room (Nat.le_of_ble_eq_true rfl)) dL_law_1461 ⟨by show 200 + i + 1 ≤ 601024; omega, by show 40000 + 6 * i + 6 ≤ 7293034; omega⟩) hP hD hS hA (fun H locs hP hD hS => ?_)
  refine lv_topi (fun k9 ek9 => ?_)
  refine lv_istore (lv' := [(5, .int k9), (0, .ref b), (1, .ref x0), (2, .ref m0), (3, .ref o0), (4, .int (nI i))]) hx hb dL_law_1464 hl (by decide) rfl (fun ls hl => ?_)
  generalize (sL_mostBlamed (xs (i + 1)) (xs (i + 2)) (xs (i + 3)) S) = S2 at hP hD hI2 ha2
  have hl0 := hl
  refine lv_aload_n hx hb dL_law_1466 rfl (lv_at hl 3 rfl) ?_
  refine lv_aload_n hx hb dL_law_1467 rfl (lv_at hl 1 rfl) ?_
  refine lv_iload hx hb dL_law_1468 (lv_at hl 5 rfl) ?_
  refine lv_iconst (v := 1) hx hb dL_law_1470 (by decide) ?_
  refine law_ld (k := 1) rfl (by omega) hL hx hb hX0 hbl hbA hS dL_law_1471 dL_law_1472 ?_
  refine lv_aload_n hx hb dL_law_1473 rfl (lv_at hl 1 rfl) ?_
  refine lv_iload hx hb dL_law_1474 (lv_at hl 5 rfl) ?_
  refine lv_iconst (v := 2) hx hb dL_law_1476 (by decide) ?_
  refine law_ld (k := 2) rfl (by omega) hL hx hb hX0 hbl hbA hS dL_law_1477 dL_law_1478 ?_
  refine lv_aload_n hx hb dL_law_1479 rfl (lv_at hl 1 rfl) ?_
  refine lv_iload hx hb dL_law_1480 (lv_at hl 5 rfl) ?_
  refine lv_iconst (v := 3) hx hb dL_law_1482 (by decide) ?_
  refine law_ld (k := 3) rfl (by omega) hL hx hb hX0 hbl hbA hS dL_law_1483 dL_law_1484 ?_
  have hP := k_swP hP
  have hD := k_swD hD
  refine k_aiR (wa := (wK g o0 x0 ua ub S2)) (w1 := (w8 g m0 uu (sR_mostBlamed (xs (i + 1)) (xs (i + 2)) (xs (i + 3)) R))) (va_runV (As := [.int (xs (i + 1)), .int (xs (i + 2)), .int (xs (i + 3))]) (rest := []) ⟨hx, hb, hml, hown, hts⟩ (c_8_mostBlamed l D g m0 uu H.size R (xs (i + 1)) (xs (i + 2)) (xs (i + 3)) p7 p8 p9) (cwV 3 hts gL_law_X8_mostBlamed rfl rfl rfl (by decide +kernel) ⟨Nat.le_of_ble_eq_true rfl, Nat.le_of_ble_eq_true rfl⟩) (kPVs (wa := (wK g o0 x0 ua ub S2)) hP hD hK hS hA hE 0 8 rfl rfl rfl) rfl rfl hl.1 rfl (lv_room (Nat.le_of_ble_eq_true rfl)) dL_law_1485 ⟨by show 200 + i + 1 ≤ 601024; omega, by show 40000 + 6 * i + 6 ≤ 7293034; omega⟩) hP hD hS hA (fun H locs hP hD hS => ?_)
  generalize (sR_mostBlamed (xs (i + 1)) (xs (i + 2)) (xs (i + 3)) R) = R2 at hP hD hI2 hk2
  refine lv_topi (fun b9 eb9 => ?_)
  refine lv_istore (lv' := [(6, .int b9), (5, .int k9), (0, .ref b), (1, .ref x0), (2, .ref m0), (3, .ref o0), (4, .int (nI i))]) hx hb dL_law_1488 hl (by decide) rfl (fun ls hl => ?_)
  refine lv_aload_n hx hb dL_law_1490 rfl (lv_at hl 4 rfl) ?_
  obtain ⟨_, _, _, _, _, _, q7, q8, q9⟩ := INV.pre hI2
  refine k_aiR (wa := (wK g o0 x0 ua ub S2)) (w1 := (w8 g m0 uu R2)) (va_runV (As := []) (rest := []) ⟨hx, hb, hml, hown, hts⟩ (c_8_thrown l D g m0 uu H.size R2 q7 q8 q9) (cwV 0 hts gL_law_X8_thrown rfl rfl rfl (by decide +kernel) ⟨Nat.le_of_ble_eq_true rfl, Nat.le_of_ble_eq_true rfl⟩) (kPVs (wa := (wK g o0 x0 ua ub S2)) hP hD hK hS hA hE 0 8 rfl rfl rfl) rfl rfl hl.1 rfl (lv_room (Nat.le_of_ble_eq_true rfl)) dL_law_1491 ⟨by show 200 + i + 1 ≤ 601024; omega, by show 40000 + 6 * i + 6 ≤ 7293034; omega⟩) hP hD hS hA (fun H locs hP hD hS => ?_)
  refine lv_iload hx hb dL_law_1494 (lv_at hl 1 rfl) ?_
  refine lv_icmp_eq (tgt := 1501) hx hb dL_law_1496 (by decide) (fun c1 => ?_) (fun c1 => absurd (ek9.trans hk2).symm c1)
  refine lv_iload hx hb dL_law_1501 (lv_at hl 1 rfl) ?_
  have hG : ∀ (H : Heap) (locs : List Loc), va_P D vwCl ((wK g o0 x0 ua ub S2) ++ (w8 g m0 uu R2)) H → va_D (lwA s) ((wK g o0 x0 ua ub S2) ++ (w8 g m0 uu R2)) → va_S (lwA s) s.heap H locs → W p l e room_1 s m #[Value.ref b] below meth c H locs (200 + i + 1) (40000 + 6 * i + 6) Q (F0 m 1518 ls []) := by
    intro H locs hP hD hS
    refine lv_goto (tgt := 1929) hx hb dL_law_1518 (by decide) ?_
    exact K S2 R2 _ _ _ hI2 (k_swP hP) (k_swD hD) hS (lv_sub hl [2, 3, 4, 5, 6] rfl)
  refine lv_if_ne (tgt := 1518) hx hb dL_law_1503 (by decide) (fun c2 => hG _ _ hP hD hS) (fun c2 => ?_)
  refine lv_aload_n hx hb dL_law_1506 rfl (lv_at hl 5 rfl) ?_
  refine lv_iconst (v := 0) hx hb dL_law_1507 (by decide) ?_
  refine va_lald (i := 0) hx hb hK hP 0 4 rfl rfl (by unfold vp_in; decide) dL_law_1508 ?_
  refine k_topl (y := S2.2.2.2.2.2.2.2.2.2.2.2 0) rfl ?_
  refine lv_iload hx hb dL_law_1509 (lv_at hl 0 rfl) ?_
  refine lv_i2l (v := Int32.toInt64 b9) hx hb dL_law_1511 rfl ?_
  refine W.lcmp hx hb dL_law_1512 ?_
  refine lv_if_eq (tgt := 1518) hx hb dL_law_1513 (by decide) (fun c3 => hG _ _ hP hD hS) (fun c3 => absurd ((lg_cmp_eq _ _).mpr ((ha2 (ek9.symm.trans c2)).trans (congrArg Int32.toInt64 eb9.symm))) c3)
set_option maxHeartbeats 4000000 in
set_option maxRecDepth 100000 in
theorem law_21 {p : Program} {l : Launch} {e : Env} {s : State} {m : MethodId} {below : List Frame} {meth : Method} {c : Code} {D : va_G} {g : Nat → Nat} {o0 x0 m0 : Nat} {ua ub : Nat → Nat → Nat} {uu : Nat → Nat} {b L : Nat} {xs : Nat → Int32} (C : LwC p l s m c D g b L xs) {i : Nat} (hi : i + 7 ≤ L) {Q : State → Prop} (K : LwK p l e s m below meth c D g o0 x0 m0 ua ub uu b i Q) {S : KC} {R : KR} {H : Heap} {locs : List Loc} {ls : Array Slot} (hI : INV (3000 * i) S R) (hP : va_P D vwCl ((w8 g m0 uu R) ++ (wK g o0 x0 ua ub S)) H) (hD : va_D (lwA s) ((w8 g m0 uu R) ++ (wK g o0 x0 ua ub S))) (hS : va_S (lwA s) s.heap H locs) (hl : lv_has ls 7 [(0, .ref b), (1, .ref x0), (2, .ref m0), (3, .ref o0), (4, .int (nI i))]) : W p l e room_1 s m #[Value.ref b] below meth c H locs (200 + i) (40000 + 6 * i) Q (F0 m 1521 ls []) := by
  obtain ⟨hx, hb, hml, hown, hts, hX0, hbl, hst, hK, hE, hX, hL⟩ := C
  have hA : ∀ q : Nat, s.heap.size ≤ q → lwA s q := fun _ h => h
  have hbA : ¬ lwA s b := Nat.not_le.mpr hbl
  obtain ⟨p1, p2, p3, p4, p5, p6, p7, p8, p9⟩ := INV.pre hI
  refine lv_aload_n hx hb dL_law_1521 rfl (lv_at hl 1 rfl) ?_
  refine lv_aload_n hx hb dL_law_1522 rfl (lv_at hl 0 rfl) ?_
  refine lv_iload hx hb dL_law_1523 (lv_at hl 4 rfl) ?_
  refine lv_iconst (v := 1) hx hb dL_law_1525 (by decide) ?_
  refine law_ld (k := 1) rfl (by omega) hL hx hb hX0 hbl hbA hS dL_law_1526 dL_law_1527 ?_
  refine lv_aload_n hx hb dL_law_1528 rfl (lv_at hl 0 rfl) ?_
  refine lv_iload hx hb dL_law_1529 (lv_at hl 4 rfl) ?_
  refine lv_iconst (v := 2) hx hb dL_law_1531 (by decide) ?_
  refine law_ld (k := 2) rfl (by omega) hL hx hb hX0 hbl hbA hS dL_law_1532 dL_law_1533 ?_
  refine lv_aload_n hx hb dL_law_1534 rfl (lv_at hl 0 rfl) ?_
  refine lv_iload hx hb dL_law_1535 (lv_at hl 4 rfl) ?_
  refine lv_iconst (v := 3) hx hb dL_law_1537 (by decide) ?_
  refine law_ld (k := 3) rfl (by omega) hL hx hb hX0 hbl hbA hS dL_law_1538 dL_law_1539 ?_
  refine law_bool (tX := 1547) (tY := 1548) hx hb dL_law_1540 (by decide) dL_law_1543 dL_law_1544 (by decide) dL_law_1547 rfl ?_
  refine lv_aload_n hx hb dL_law_1548 rfl (lv_at hl 3 rfl) ?_
  obtain ⟨hI2, hk2, ha2⟩ := inv_reach (N := 3000 * i) (xs (i + 1)) (xs (i + 2)) (if xs (i + 3) = 0 then 0 else 1) hI (by omega)
  refine k_aiR (wa := (w8 g m0 uu R)) (w1 := (wK g o0 x0 ua ub (sL_reach (xs (i + 1)) (xs (i + 2)) (if xs (i + 3) = 0 then 0 else 1) S))) (vx_runSW (As := [.ref x0, .int (xs (i + 1)), .int (xs (i + 2)), .int (if xs (i + 3) = 0 then 0 else 1), .ref o0]) (rest := []) ⟨hx, hb, hml, hown, hts⟩ (c_L_reach l D g o0 x0 ua ub H.size S (xs (i + 1)) (xs (i + 2)) (if xs (i + 3) = 0 then 0 else 1) hst p1 p2 p3 p4 p5 p6) (vx_cwSW 5 hts gL_law_L_reach rfl rfl rfl (by decide +kernel) ⟨Nat.le_of_ble_eq_true rfl, Nat.le_of_ble_eq_true rfl⟩) (kPSsX (wa := (w8 g m0 uu R)) hP hD hK hS hA hE hX) rfl rfl hl.1 rfl (lv_room (Nat.le_of_ble_eq_true rfl)) dL_law_1549 ⟨by show 200 + i + 1 ≤ 601024; omega, by show 40000 + 6 * i + 6 ≤ 7293034; omega⟩) hP hD hS hA (fun H locs hP hD hS => ?_)
  refine lv_topi (fun k9 ek9 => ?_)
  refine lv_istore (lv' := [(5, .int k9), (0, .ref b), (1, .ref x0), (2, .ref m0), (3, .ref o0), (4, .int (nI i))]) hx hb dL_law_1552 hl (by decide) rfl (fun ls hl => ?_)
  generalize (sL_reach (xs (i + 1)) (xs (i + 2)) (if xs (i + 3) = 0 then 0 else 1) S) = S2 at hP hD hI2 ha2
  have hl0 := hl
  refine lv_aload_n hx hb dL_law_1554 rfl (lv_at hl 3 rfl) ?_
  refine lv_aload_n hx hb dL_law_1555 rfl (lv_at hl 1 rfl) ?_
  refine lv_iload hx hb dL_law_1556 (lv_at hl 5 rfl) ?_
  refine lv_iconst (v := 1) hx hb dL_law_1558 (by decide) ?_
  refine law_ld (k := 1) rfl (by omega) hL hx hb hX0 hbl hbA hS dL_law_1559 dL_law_1560 ?_
  refine lv_aload_n hx hb dL_law_1561 rfl (lv_at hl 1 rfl) ?_
  refine lv_iload hx hb dL_law_1562 (lv_at hl 5 rfl) ?_
  refine lv_iconst (v := 2) hx hb dL_law_1564 (by decide) ?_
  refine law_ld (k := 2) rfl (by omega) hL hx hb hX0 hbl hbA hS dL_law_1565 dL_law_1566 ?_
  refine lv_aload_n hx hb dL_law_1567 rfl (lv_at hl 1 rfl) ?_
  refine lv_iload hx hb dL_law_1568 (lv_at hl 5 rfl) ?_
  refine lv_iconst (v := 3) hx hb dL_law_1570 (by decide) ?_
  refine law_ld (k := 3) rfl (by omega) hL hx hb hX0 hbl hbA hS dL_law_1571 dL_law_1572 ?_
  refine law_bool (tX := 1580) (tY := 1581) hx hb dL_law_1573 (by decide) dL_law_1576 dL_law_1577 (by decide) dL_law_1580 rfl ?_
  have hP := k_swP hP
  have hD := k_swD hD
  refine k_aiR (wa := (wK g o0 x0 ua ub S2)) (w1 := (w8 g m0 uu (sR_reach (xs (i + 1)) (xs (i + 2)) (if xs (i + 3) = 0 then 0 else 1) R))) (va_runV (As := [.int (xs (i + 1)), .int (xs (i + 2)), .int (if xs (i + 3) = 0 then 0 else 1)]) (rest := []) ⟨hx, hb, hml, hown, hts⟩ (c_8_reach l D g m0 uu H.size R (xs (i + 1)) (xs (i + 2)) (if xs (i + 3) = 0 then 0 else 1) p7 p8 p9) (cwV 3 hts gL_law_X8_reach rfl rfl rfl (by decide +kernel) ⟨Nat.le_of_ble_eq_true rfl, Nat.le_of_ble_eq_true rfl⟩) (kPVs (wa := (wK g o0 x0 ua ub S2)) hP hD hK hS hA hE 0 8 rfl rfl rfl) rfl rfl hl.1 rfl (lv_room (Nat.le_of_ble_eq_true rfl)) dL_law_1581 ⟨by show 200 + i + 1 ≤ 601024; omega, by show 40000 + 6 * i + 6 ≤ 7293034; omega⟩) hP hD hS hA (fun H locs hP hD hS => ?_)
  generalize (sR_reach (xs (i + 1)) (xs (i + 2)) (if xs (i + 3) = 0 then 0 else 1) R) = R2 at hP hD hI2 hk2
  refine lv_topi (fun b9 eb9 => ?_)
  refine lv_istore (lv' := [(6, .int b9), (5, .int k9), (0, .ref b), (1, .ref x0), (2, .ref m0), (3, .ref o0), (4, .int (nI i))]) hx hb dL_law_1584 hl (by decide) rfl (fun ls hl => ?_)
  refine lv_aload_n hx hb dL_law_1586 rfl (lv_at hl 4 rfl) ?_
  obtain ⟨_, _, _, _, _, _, q7, q8, q9⟩ := INV.pre hI2
  refine k_aiR (wa := (wK g o0 x0 ua ub S2)) (w1 := (w8 g m0 uu R2)) (va_runV (As := []) (rest := []) ⟨hx, hb, hml, hown, hts⟩ (c_8_thrown l D g m0 uu H.size R2 q7 q8 q9) (cwV 0 hts gL_law_X8_thrown rfl rfl rfl (by decide +kernel) ⟨Nat.le_of_ble_eq_true rfl, Nat.le_of_ble_eq_true rfl⟩) (kPVs (wa := (wK g o0 x0 ua ub S2)) hP hD hK hS hA hE 0 8 rfl rfl rfl) rfl rfl hl.1 rfl (lv_room (Nat.le_of_ble_eq_true rfl)) dL_law_1587 ⟨by show 200 + i + 1 ≤ 601024; omega, by show 40000 + 6 * i + 6 ≤ 7293034; omega⟩) hP hD hS hA (fun H locs hP hD hS => ?_)
  refine lv_iload hx hb dL_law_1590 (lv_at hl 1 rfl) ?_
  refine lv_icmp_eq (tgt := 1597) hx hb dL_law_1592 (by decide) (fun c1 => ?_) (fun c1 => absurd (ek9.trans hk2).symm c1)
  refine lv_iload hx hb dL_law_1597 (lv_at hl 1 rfl) ?_
  have hG : ∀ (H : Heap) (locs : List Loc), va_P D vwCl ((wK g o0 x0 ua ub S2) ++ (w8 g m0 uu R2)) H → va_D (lwA s) ((wK g o0 x0 ua ub S2) ++ (w8 g m0 uu R2)) → va_S (lwA s) s.heap H locs → W p l e room_1 s m #[Value.ref b] below meth c H locs (200 + i + 1) (40000 + 6 * i + 6) Q (F0 m 1614 ls []) := by
    intro H locs hP hD hS
    refine lv_goto (tgt := 1929) hx hb dL_law_1614 (by decide) ?_
    exact K S2 R2 _ _ _ hI2 (k_swP hP) (k_swD hD) hS (lv_sub hl [2, 3, 4, 5, 6] rfl)
  refine lv_if_ne (tgt := 1614) hx hb dL_law_1599 (by decide) (fun c2 => hG _ _ hP hD hS) (fun c2 => ?_)
  refine lv_aload_n hx hb dL_law_1602 rfl (lv_at hl 5 rfl) ?_
  refine lv_iconst (v := 0) hx hb dL_law_1603 (by decide) ?_
  refine va_lald (i := 0) hx hb hK hP 0 4 rfl rfl (by unfold vp_in; decide) dL_law_1604 ?_
  refine k_topl (y := S2.2.2.2.2.2.2.2.2.2.2.2 0) rfl ?_
  refine lv_iload hx hb dL_law_1605 (lv_at hl 0 rfl) ?_
  refine lv_i2l (v := Int32.toInt64 b9) hx hb dL_law_1607 rfl ?_
  refine W.lcmp hx hb dL_law_1608 ?_
  refine lv_if_eq (tgt := 1614) hx hb dL_law_1609 (by decide) (fun c3 => hG _ _ hP hD hS) (fun c3 => absurd ((lg_cmp_eq _ _).mpr ((ha2 (ek9.symm.trans c2)).trans (congrArg Int32.toInt64 eb9.symm))) c3)
set_option maxHeartbeats 4000000 in
set_option maxRecDepth 100000 in
theorem law_22 {p : Program} {l : Launch} {e : Env} {s : State} {m : MethodId} {below : List Frame} {meth : Method} {c : Code} {D : va_G} {g : Nat → Nat} {o0 x0 m0 : Nat} {ua ub : Nat → Nat → Nat} {uu : Nat → Nat} {b L : Nat} {xs : Nat → Int32} (C : LwC p l s m c D g b L xs) {i : Nat} (hi : i + 7 ≤ L) {Q : State → Prop} (K : LwK p l e s m below meth c D g o0 x0 m0 ua ub uu b i Q) {S : KC} {R : KR} {H : Heap} {locs : List Loc} {ls : Array Slot} (hI : INV (3000 * i) S R) (hP : va_P D vwCl ((w8 g m0 uu R) ++ (wK g o0 x0 ua ub S)) H) (hD : va_D (lwA s) ((w8 g m0 uu R) ++ (wK g o0 x0 ua ub S))) (hS : va_S (lwA s) s.heap H locs) (hl : lv_has ls 7 [(0, .ref b), (1, .ref x0), (2, .ref m0), (3, .ref o0), (4, .int (nI i))]) : W p l e room_1 s m #[Value.ref b] below meth c H locs (200 + i) (40000 + 6 * i) Q (F0 m 1617 ls []) := by
  obtain ⟨hx, hb, hml, hown, hts, hX0, hbl, hst, hK, hE, hX, hL⟩ := C
  have hA : ∀ q : Nat, s.heap.size ≤ q → lwA s q := fun _ h => h
  have hbA : ¬ lwA s b := Nat.not_le.mpr hbl
  obtain ⟨p1, p2, p3, p4, p5, p6, p7, p8, p9⟩ := INV.pre hI
  refine lv_aload_n hx hb dL_law_1617 rfl (lv_at hl 1 rfl) ?_
  refine lv_aload_n hx hb dL_law_1618 rfl (lv_at hl 0 rfl) ?_
  refine lv_iload hx hb dL_law_1619 (lv_at hl 4 rfl) ?_
  refine lv_iconst (v := 1) hx hb dL_law_1621 (by decide) ?_
  refine law_ld (k := 1) rfl (by omega) hL hx hb hX0 hbl hbA hS dL_law_1622 dL_law_1623 ?_
  refine lv_aload_n hx hb dL_law_1624 rfl (lv_at hl 0 rfl) ?_
  refine lv_iload hx hb dL_law_1625 (lv_at hl 4 rfl) ?_
  refine lv_iconst (v := 2) hx hb dL_law_1627 (by decide) ?_
  refine law_ld (k := 2) rfl (by omega) hL hx hb hX0 hbl hbA hS dL_law_1628 dL_law_1629 ?_
  refine lv_i2l (v := (Int32.toInt64 (xs (i + 2)))) hx hb dL_law_1630 rfl ?_
  refine lv_bipush (v := 32) hx hb dL_law_1631 (by decide) ?_
  refine lv_lshl (v := ((Int32.toInt64 (xs (i + 2))) <<< ((Int32.toInt64 32) &&& 63))) hx hb dL_law_1633 rfl ?_
  refine lv_aload_n hx hb dL_law_1634 rfl (lv_at hl 0 rfl) ?_
  refine lv_iload hx hb dL_law_1635 (lv_at hl 4 rfl) ?_
  refine lv_iconst (v := 3) hx hb dL_law_1637 (by decide) ?_
  refine law_ld (k := 3) rfl (by omega) hL hx hb hX0 hbl hbA hS dL_law_1638 dL_law_1639 ?_
  refine lv_i2l (v := (Int32.toInt64 (xs (i + 3)))) hx hb dL_law_1640 rfl ?_
  refine lv_ldc2 (v := 4294967295) hx hb hown (hts _ (List.mem_append_left _ (List.mem_append_left _ (List.mem_append_left _ (List.mem_append_left _ (List.mem_append_left _ (List.mem_append_left _ (List.mem_append_left _ (List.mem_append_left _ (List.mem_append_left _ (List.mem_append_left _ (List.mem_append_left _ (List.mem_append_left _ (List.mem_append_left _ (List.mem_append_left _ (List.mem_of_getElem? (i := 7) rfl)))))))))))))))) dL_law_1641 ?_
  refine lv_land hx hb dL_law_1644 ?_
  refine lv_lor hx hb dL_law_1645 ?_
  refine lv_aload_n hx hb dL_law_1646 rfl (lv_at hl 3 rfl) ?_
  obtain ⟨hI2, hk2, ha2⟩ := inv_runScript (N := 3000 * i) (xs (i + 1)) (((Int32.toInt64 (xs (i + 2))) <<< ((Int32.toInt64 32) &&& 63)) ||| ((Int32.toInt64 (xs (i + 3))) &&& 4294967295)) hI (by omega)
  refine k_aiR (wa := (w8 g m0 uu R)) (w1 := (wK g o0 x0 ua ub (sL_runScript (xs (i + 1)) (((Int32.toInt64 (xs (i + 2))) <<< ((Int32.toInt64 32) &&& 63)) ||| ((Int32.toInt64 (xs (i + 3))) &&& 4294967295)) S))) (vx_runSW (As := [.ref x0, .int (xs (i + 1)), .long (((Int32.toInt64 (xs (i + 2))) <<< ((Int32.toInt64 32) &&& 63)) ||| ((Int32.toInt64 (xs (i + 3))) &&& 4294967295)), .ref o0]) (rest := []) ⟨hx, hb, hml, hown, hts⟩ (c_L_runScript l D g o0 x0 ua ub H.size S (xs (i + 1)) (((Int32.toInt64 (xs (i + 2))) <<< ((Int32.toInt64 32) &&& 63)) ||| ((Int32.toInt64 (xs (i + 3))) &&& 4294967295)) hst p1 p2 p3 p4 p5 p6) (vx_cwSW 4 hts gL_law_L_runScript rfl rfl rfl (by decide +kernel) ⟨Nat.le_of_ble_eq_true rfl, Nat.le_of_ble_eq_true rfl⟩) (kPSsX (wa := (w8 g m0 uu R)) hP hD hK hS hA hE hX) rfl rfl hl.1 rfl (lv_room (Nat.le_of_ble_eq_true rfl)) dL_law_1647 ⟨by show 200 + i + 1 ≤ 601024; omega, by show 40000 + 6 * i + 6 ≤ 7293034; omega⟩) hP hD hS hA (fun H locs hP hD hS => ?_)
  refine lv_topi (fun k9 ek9 => ?_)
  refine lv_istore (lv' := [(5, .int k9), (0, .ref b), (1, .ref x0), (2, .ref m0), (3, .ref o0), (4, .int (nI i))]) hx hb dL_law_1650 hl (by decide) rfl (fun ls hl => ?_)
  generalize (sL_runScript (xs (i + 1)) (((Int32.toInt64 (xs (i + 2))) <<< ((Int32.toInt64 32) &&& 63)) ||| ((Int32.toInt64 (xs (i + 3))) &&& 4294967295)) S) = S2 at hP hD hI2 ha2
  have hl0 := hl
  refine lv_aload_n hx hb dL_law_1652 rfl (lv_at hl 3 rfl) ?_
  refine lv_aload_n hx hb dL_law_1653 rfl (lv_at hl 1 rfl) ?_
  refine lv_iload hx hb dL_law_1654 (lv_at hl 5 rfl) ?_
  refine lv_iconst (v := 1) hx hb dL_law_1656 (by decide) ?_
  refine law_ld (k := 1) rfl (by omega) hL hx hb hX0 hbl hbA hS dL_law_1657 dL_law_1658 ?_
  refine lv_aload_n hx hb dL_law_1659 rfl (lv_at hl 1 rfl) ?_
  refine lv_iload hx hb dL_law_1660 (lv_at hl 5 rfl) ?_
  refine lv_iconst (v := 2) hx hb dL_law_1662 (by decide) ?_
  refine law_ld (k := 2) rfl (by omega) hL hx hb hX0 hbl hbA hS dL_law_1663 dL_law_1664 ?_
  refine lv_i2l (v := (Int32.toInt64 (xs (i + 2)))) hx hb dL_law_1665 rfl ?_
  refine lv_bipush (v := 32) hx hb dL_law_1666 (by decide) ?_
  refine lv_lshl (v := ((Int32.toInt64 (xs (i + 2))) <<< ((Int32.toInt64 32) &&& 63))) hx hb dL_law_1668 rfl ?_
  refine lv_aload_n hx hb dL_law_1669 rfl (lv_at hl 1 rfl) ?_
  refine lv_iload hx hb dL_law_1670 (lv_at hl 5 rfl) ?_
  refine lv_iconst (v := 3) hx hb dL_law_1672 (by decide) ?_
  refine law_ld (k := 3) rfl (by omega) hL hx hb hX0 hbl hbA hS dL_law_1673 dL_law_1674 ?_
  refine lv_i2l (v := (Int32.toInt64 (xs (i + 3)))) hx hb dL_law_1675 rfl ?_
  refine lv_ldc2 (v := 4294967295) hx hb hown (hts _ (List.mem_append_left _ (List.mem_append_left _ (List.mem_append_left _ (List.mem_append_left _ (List.mem_append_left _ (List.mem_append_left _ (List.mem_append_left _ (List.mem_append_left _ (List.mem_append_left _ (List.mem_append_left _ (List.mem_append_left _ (List.mem_append_left _ (List.mem_append_left _ (List.mem_append_left _ (List.mem_of_getElem? (i := 7) rfl)))))))))))))))) dL_law_1676 ?_
  refine lv_land hx hb dL_law_1679 ?_
  refine lv_lor hx hb dL_law_1680 ?_
  have hP := k_swP hP
  have hD := k_swD hD
  refine k_aiR (wa := (wK g o0 x0 ua ub S2)) (w1 := (w8 g m0 uu (sR_runScript (xs (i + 1)) (((Int32.toInt64 (xs (i + 2))) <<< ((Int32.toInt64 32) &&& 63)) ||| ((Int32.toInt64 (xs (i + 3))) &&& 4294967295)) R))) (va_runV (As := [.int (xs (i + 1)), .long (((Int32.toInt64 (xs (i + 2))) <<< ((Int32.toInt64 32) &&& 63)) ||| ((Int32.toInt64 (xs (i + 3))) &&& 4294967295))]) (rest := []) ⟨hx, hb, hml, hown, hts⟩ (c_8_runScript l D g m0 uu H.size R (xs (i + 1)) (((Int32.toInt64 (xs (i + 2))) <<< ((Int32.toInt64 32) &&& 63)) ||| ((Int32.toInt64 (xs (i + 3))) &&& 4294967295)) p7 p8 p9) (cwV 2 hts gL_law_X8_runScript rfl rfl rfl (by decide +kernel) ⟨Nat.le_of_ble_eq_true rfl, Nat.le_of_ble_eq_true rfl⟩) (kPVs (wa := (wK g o0 x0 ua ub S2)) hP hD hK hS hA hE 0 8 rfl rfl rfl) rfl rfl hl.1 rfl (lv_room (Nat.le_of_ble_eq_true rfl)) dL_law_1681 ⟨by show 200 + i + 1 ≤ 601024; omega, by show 40000 + 6 * i + 6 ≤ 7293034; omega⟩) hP hD hS hA (fun H locs hP hD hS => ?_)
  generalize (sR_runScript (xs (i + 1)) (((Int32.toInt64 (xs (i + 2))) <<< ((Int32.toInt64 32) &&& 63)) ||| ((Int32.toInt64 (xs (i + 3))) &&& 4294967295)) R) = R2 at hP hD hI2 hk2
  refine lv_topi (fun b9 eb9 => ?_)
  refine lv_istore (lv' := [(6, .int b9), (5, .int k9), (0, .ref b), (1, .ref x0), (2, .ref m0), (3, .ref o0), (4, .int (nI i))]) hx hb dL_law_1684 hl (by decide) rfl (fun ls hl => ?_)
  refine lv_aload_n hx hb dL_law_1686 rfl (lv_at hl 4 rfl) ?_
  obtain ⟨_, _, _, _, _, _, q7, q8, q9⟩ := INV.pre hI2
  refine k_aiR (wa := (wK g o0 x0 ua ub S2)) (w1 := (w8 g m0 uu R2)) (va_runV (As := []) (rest := []) ⟨hx, hb, hml, hown, hts⟩ (c_8_thrown l D g m0 uu H.size R2 q7 q8 q9) (cwV 0 hts gL_law_X8_thrown rfl rfl rfl (by decide +kernel) ⟨Nat.le_of_ble_eq_true rfl, Nat.le_of_ble_eq_true rfl⟩) (kPVs (wa := (wK g o0 x0 ua ub S2)) hP hD hK hS hA hE 0 8 rfl rfl rfl) rfl rfl hl.1 rfl (lv_room (Nat.le_of_ble_eq_true rfl)) dL_law_1687 ⟨by show 200 + i + 1 ≤ 601024; omega, by show 40000 + 6 * i + 6 ≤ 7293034; omega⟩) hP hD hS hA (fun H locs hP hD hS => ?_)
  refine lv_iload hx hb dL_law_1690 (lv_at hl 1 rfl) ?_
  refine lv_icmp_eq (tgt := 1697) hx hb dL_law_1692 (by decide) (fun c1 => ?_) (fun c1 => absurd (ek9.trans hk2).symm c1)
  refine lv_iload hx hb dL_law_1697 (lv_at hl 1 rfl) ?_
  have hG : ∀ (H : Heap) (locs : List Loc), va_P D vwCl ((wK g o0 x0 ua ub S2) ++ (w8 g m0 uu R2)) H → va_D (lwA s) ((wK g o0 x0 ua ub S2) ++ (w8 g m0 uu R2)) → va_S (lwA s) s.heap H locs → W p l e room_1 s m #[Value.ref b] below meth c H locs (200 + i + 1) (40000 + 6 * i + 6) Q (F0 m 1714 ls []) := by
    intro H locs hP hD hS
    refine lv_goto (tgt := 1929) hx hb dL_law_1714 (by decide) ?_
    exact K S2 R2 _ _ _ hI2 (k_swP hP) (k_swD hD) hS (lv_sub hl [2, 3, 4, 5, 6] rfl)
  refine lv_if_ne (tgt := 1714) hx hb dL_law_1699 (by decide) (fun c2 => hG _ _ hP hD hS) (fun c2 => ?_)
  refine lv_aload_n hx hb dL_law_1702 rfl (lv_at hl 5 rfl) ?_
  refine lv_iconst (v := 0) hx hb dL_law_1703 (by decide) ?_
  refine va_lald (i := 0) hx hb hK hP 0 4 rfl rfl (by unfold vp_in; decide) dL_law_1704 ?_
  refine k_topl (y := S2.2.2.2.2.2.2.2.2.2.2.2 0) rfl ?_
  refine lv_iload hx hb dL_law_1705 (lv_at hl 0 rfl) ?_
  refine lv_i2l (v := Int32.toInt64 b9) hx hb dL_law_1707 rfl ?_
  refine W.lcmp hx hb dL_law_1708 ?_
  refine lv_if_eq (tgt := 1714) hx hb dL_law_1709 (by decide) (fun c3 => hG _ _ hP hD hS) (fun c3 => absurd ((lg_cmp_eq _ _).mpr ((ha2 (ek9.symm.trans c2)).trans (congrArg Int32.toInt64 eb9.symm))) c3)
set_option maxHeartbeats 4000000 in
set_option maxRecDepth 100000 in
theorem law_23 {p : Program} {l : Launch} {e : Env} {s : State} {m : MethodId} {below : List Frame} {meth : Method} {c : Code} {D : va_G} {g : Nat → Nat} {o0 x0 m0 : Nat} {ua ub : Nat → Nat → Nat} {uu : Nat → Nat} {b L : Nat} {xs : Nat → Int32} (C : LwC p l s m c D g b L xs) {i : Nat} (hi : i + 7 ≤ L) {Q : State → Prop} (K : LwK p l e s m below meth c D g o0 x0 m0 ua ub uu b i Q) {S : KC} {R : KR} {H : Heap} {locs : List Loc} {ls : Array Slot} (hI : INV (3000 * i) S R) (hP : va_P D vwCl ((w8 g m0 uu R) ++ (wK g o0 x0 ua ub S)) H) (hD : va_D (lwA s) ((w8 g m0 uu R) ++ (wK g o0 x0 ua ub S))) (hS : va_S (lwA s) s.heap H locs) (hl : lv_has ls 7 [(0, .ref b), (1, .ref x0), (2, .ref m0), (3, .ref o0), (4, .int (nI i))]) : W p l e room_1 s m #[Value.ref b] below meth c H locs (200 + i) (40000 + 6 * i) Q (F0 m 1717 ls []) := by
  obtain ⟨hx, hb, hml, hown, hts, hX0, hbl, hst, hK, hE, hX, hL⟩ := C
  have hA : ∀ q : Nat, s.heap.size ≤ q → lwA s q := fun _ h => h
  have hbA : ¬ lwA s b := Nat.not_le.mpr hbl
  obtain ⟨p1, p2, p3, p4, p5, p6, p7, p8, p9⟩ := INV.pre hI
  refine lv_aload_n hx hb dL_law_1717 rfl (lv_at hl 1 rfl) ?_
  refine lv_aload_n hx hb dL_law_1718 rfl (lv_at hl 0 rfl) ?_
  refine lv_iload hx hb dL_law_1719 (lv_at hl 4 rfl) ?_
  refine lv_iconst (v := 1) hx hb dL_law_1721 (by decide) ?_
  refine law_ld (k := 1) rfl (by omega) hL hx hb hX0 hbl hbA hS dL_law_1722 dL_law_1723 ?_
  refine lv_i2l (v := (Int32.toInt64 (xs (i + 1)))) hx hb dL_law_1724 rfl ?_
  refine lv_bipush (v := 32) hx hb dL_law_1725 (by decide) ?_
  refine lv_lshl (v := ((Int32.toInt64 (xs (i + 1))) <<< ((Int32.toInt64 32) &&& 63))) hx hb dL_law_1727 rfl ?_
  refine lv_aload_n hx hb dL_law_1728 rfl (lv_at hl 0 rfl) ?_
  refine lv_iload hx hb dL_law_1729 (lv_at hl 4 rfl) ?_
  refine lv_iconst (v := 2) hx hb dL_law_1731 (by decide) ?_
  refine law_ld (k := 2) rfl (by omega) hL hx hb hX0 hbl hbA hS dL_law_1732 dL_law_1733 ?_
  refine lv_i2l (v := (Int32.toInt64 (xs (i + 2)))) hx hb dL_law_1734 rfl ?_
  refine lv_ldc2 (v := 4294967295) hx hb hown (hts _ (List.mem_append_left _ (List.mem_append_left _ (List.mem_append_left _ (List.mem_append_left _ (List.mem_append_left _ (List.mem_append_left _ (List.mem_append_left _ (List.mem_append_left _ (List.mem_append_left _ (List.mem_append_left _ (List.mem_append_left _ (List.mem_append_left _ (List.mem_append_left _ (List.mem_append_left _ (List.mem_of_getElem? (i := 7) rfl)))))))))))))))) dL_law_1735 ?_
  refine lv_land hx hb dL_law_1738 ?_
  refine lv_lor hx hb dL_law_1739 ?_
  refine lv_aload_n hx hb dL_law_1740 rfl (lv_at hl 0 rfl) ?_
  refine lv_iload hx hb dL_law_1741 (lv_at hl 4 rfl) ?_
  refine lv_iconst (v := 3) hx hb dL_law_1743 (by decide) ?_
  refine law_ld (k := 3) rfl (by omega) hL hx hb hX0 hbl hbA hS dL_law_1744 dL_law_1745 ?_
  refine lv_aload_n hx hb dL_law_1746 rfl (lv_at hl 3 rfl) ?_
  obtain ⟨hI2, hk2, ha2⟩ := inv_simulate (N := 3000 * i) (((Int32.toInt64 (xs (i + 1))) <<< ((Int32.toInt64 32) &&& 63)) ||| ((Int32.toInt64 (xs (i + 2))) &&& 4294967295)) (xs (i + 3)) hI (by omega)
  refine k_aiR (wa := (w8 g m0 uu R)) (w1 := (wK g o0 x0 ua ub (sL_simulate (((Int32.toInt64 (xs (i + 1))) <<< ((Int32.toInt64 32) &&& 63)) ||| ((Int32.toInt64 (xs (i + 2))) &&& 4294967295)) (xs (i + 3)) S))) (vx_runSW (As := [.ref x0, .long (((Int32.toInt64 (xs (i + 1))) <<< ((Int32.toInt64 32) &&& 63)) ||| ((Int32.toInt64 (xs (i + 2))) &&& 4294967295)), .int (xs (i + 3)), .ref o0]) (rest := []) ⟨hx, hb, hml, hown, hts⟩ (c_L_simulate l D g o0 x0 ua ub H.size S (((Int32.toInt64 (xs (i + 1))) <<< ((Int32.toInt64 32) &&& 63)) ||| ((Int32.toInt64 (xs (i + 2))) &&& 4294967295)) (xs (i + 3)) hst p1 p2 p3 p4 p5 p6) (vx_cwSW 4 hts gL_law_L_simulate rfl rfl rfl (by decide +kernel) ⟨Nat.le_of_ble_eq_true rfl, Nat.le_of_ble_eq_true rfl⟩) (kPSsX (wa := (w8 g m0 uu R)) hP hD hK hS hA hE hX) rfl rfl hl.1 rfl (lv_room (Nat.le_of_ble_eq_true rfl)) dL_law_1747 ⟨by show 200 + i + 1 ≤ 601024; omega, by show 40000 + 6 * i + 6 ≤ 7293034; omega⟩) hP hD hS hA (fun H locs hP hD hS => ?_)
  refine lv_topi (fun k9 ek9 => ?_)
  refine lv_istore (lv' := [(5, .int k9), (0, .ref b), (1, .ref x0), (2, .ref m0), (3, .ref o0), (4, .int (nI i))]) hx hb dL_law_1750 hl (by decide) rfl (fun ls hl => ?_)
  generalize (sL_simulate (((Int32.toInt64 (xs (i + 1))) <<< ((Int32.toInt64 32) &&& 63)) ||| ((Int32.toInt64 (xs (i + 2))) &&& 4294967295)) (xs (i + 3)) S) = S2 at hP hD hI2 ha2
  have hl0 := hl
  refine lv_aload_n hx hb dL_law_1752 rfl (lv_at hl 3 rfl) ?_
  refine lv_aload_n hx hb dL_law_1753 rfl (lv_at hl 1 rfl) ?_
  refine lv_iload hx hb dL_law_1754 (lv_at hl 5 rfl) ?_
  refine lv_iconst (v := 1) hx hb dL_law_1756 (by decide) ?_
  refine law_ld (k := 1) rfl (by omega) hL hx hb hX0 hbl hbA hS dL_law_1757 dL_law_1758 ?_
  refine lv_i2l (v := (Int32.toInt64 (xs (i + 1)))) hx hb dL_law_1759 rfl ?_
  refine lv_bipush (v := 32) hx hb dL_law_1760 (by decide) ?_
  refine lv_lshl (v := ((Int32.toInt64 (xs (i + 1))) <<< ((Int32.toInt64 32) &&& 63))) hx hb dL_law_1762 rfl ?_
  refine lv_aload_n hx hb dL_law_1763 rfl (lv_at hl 1 rfl) ?_
  refine lv_iload hx hb dL_law_1764 (lv_at hl 5 rfl) ?_
  refine lv_iconst (v := 2) hx hb dL_law_1766 (by decide) ?_
  refine law_ld (k := 2) rfl (by omega) hL hx hb hX0 hbl hbA hS dL_law_1767 dL_law_1768 ?_
  refine lv_i2l (v := (Int32.toInt64 (xs (i + 2)))) hx hb dL_law_1769 rfl ?_
  refine lv_ldc2 (v := 4294967295) hx hb hown (hts _ (List.mem_append_left _ (List.mem_append_left _ (List.mem_append_left _ (List.mem_append_left _ (List.mem_append_left _ (List.mem_append_left _ (List.mem_append_left _ (List.mem_append_left _ (List.mem_append_left _ (List.mem_append_left _ (List.mem_append_left _ (List.mem_append_left _ (List.mem_append_left _ (List.mem_append_left _ (List.mem_of_getElem? (i := 7) rfl)))))))))))))))) dL_law_1770 ?_
  refine lv_land hx hb dL_law_1773 ?_
  refine lv_lor hx hb dL_law_1774 ?_
  refine lv_aload_n hx hb dL_law_1775 rfl (lv_at hl 1 rfl) ?_
  refine lv_iload hx hb dL_law_1776 (lv_at hl 5 rfl) ?_
  refine lv_iconst (v := 3) hx hb dL_law_1778 (by decide) ?_
  refine law_ld (k := 3) rfl (by omega) hL hx hb hX0 hbl hbA hS dL_law_1779 dL_law_1780 ?_
  have hP := k_swP hP
  have hD := k_swD hD
  refine k_aiR (wa := (wK g o0 x0 ua ub S2)) (w1 := (w8 g m0 uu (sR_simulate (((Int32.toInt64 (xs (i + 1))) <<< ((Int32.toInt64 32) &&& 63)) ||| ((Int32.toInt64 (xs (i + 2))) &&& 4294967295)) (xs (i + 3)) R))) (va_runV (As := [.long (((Int32.toInt64 (xs (i + 1))) <<< ((Int32.toInt64 32) &&& 63)) ||| ((Int32.toInt64 (xs (i + 2))) &&& 4294967295)), .int (xs (i + 3))]) (rest := []) ⟨hx, hb, hml, hown, hts⟩ (c_8_simulate l D g m0 uu H.size R (((Int32.toInt64 (xs (i + 1))) <<< ((Int32.toInt64 32) &&& 63)) ||| ((Int32.toInt64 (xs (i + 2))) &&& 4294967295)) (xs (i + 3)) p7 p8 p9) (cwV 2 hts gL_law_X8_simulate rfl rfl rfl (by decide +kernel) ⟨Nat.le_of_ble_eq_true rfl, Nat.le_of_ble_eq_true rfl⟩) (kPVs (wa := (wK g o0 x0 ua ub S2)) hP hD hK hS hA hE 0 8 rfl rfl rfl) rfl rfl hl.1 rfl (lv_room (Nat.le_of_ble_eq_true rfl)) dL_law_1781 ⟨by show 200 + i + 1 ≤ 601024; omega, by show 40000 + 6 * i + 6 ≤ 7293034; omega⟩) hP hD hS hA (fun H locs hP hD hS => ?_)
  generalize (sR_simulate (((Int32.toInt64 (xs (i + 1))) <<< ((Int32.toInt64 32) &&& 63)) ||| ((Int32.toInt64 (xs (i + 2))) &&& 4294967295)) (xs (i + 3)) R) = R2 at hP hD hI2 hk2
  refine lv_topi (fun b9 eb9 => ?_)
  refine lv_istore (lv' := [(6, .int b9), (5, .int k9), (0, .ref b), (1, .ref x0), (2, .ref m0), (3, .ref o0), (4, .int (nI i))]) hx hb dL_law_1784 hl (by decide) rfl (fun ls hl => ?_)
  refine lv_aload_n hx hb dL_law_1786 rfl (lv_at hl 4 rfl) ?_
  obtain ⟨_, _, _, _, _, _, q7, q8, q9⟩ := INV.pre hI2
  refine k_aiR (wa := (wK g o0 x0 ua ub S2)) (w1 := (w8 g m0 uu R2)) (va_runV (As := []) (rest := []) ⟨hx, hb, hml, hown, hts⟩ (c_8_thrown l D g m0 uu H.size R2 q7 q8 q9) (cwV 0 hts gL_law_X8_thrown rfl rfl rfl (by decide +kernel) ⟨Nat.le_of_ble_eq_true rfl, Nat.le_of_ble_eq_true rfl⟩) (kPVs (wa := (wK g o0 x0 ua ub S2)) hP hD hK hS hA hE 0 8 rfl rfl rfl) rfl rfl hl.1 rfl (lv_room (Nat.le_of_ble_eq_true rfl)) dL_law_1787 ⟨by show 200 + i + 1 ≤ 601024; omega, by show 40000 + 6 * i + 6 ≤ 7293034; omega⟩) hP hD hS hA (fun H locs hP hD hS => ?_)
  refine lv_iload hx hb dL_law_1790 (lv_at hl 1 rfl) ?_
  refine lv_icmp_eq (tgt := 1797) hx hb dL_law_1792 (by decide) (fun c1 => ?_) (fun c1 => absurd (ek9.trans hk2).symm c1)
  refine lv_iload hx hb dL_law_1797 (lv_at hl 1 rfl) ?_
  have hG : ∀ (H : Heap) (locs : List Loc), va_P D vwCl ((wK g o0 x0 ua ub S2) ++ (w8 g m0 uu R2)) H → va_D (lwA s) ((wK g o0 x0 ua ub S2) ++ (w8 g m0 uu R2)) → va_S (lwA s) s.heap H locs → W p l e room_1 s m #[Value.ref b] below meth c H locs (200 + i + 1) (40000 + 6 * i + 6) Q (F0 m 1814 ls []) := by
    intro H locs hP hD hS
    refine lv_goto (tgt := 1929) hx hb dL_law_1814 (by decide) ?_
    exact K S2 R2 _ _ _ hI2 (k_swP hP) (k_swD hD) hS (lv_sub hl [2, 3, 4, 5, 6] rfl)
  refine lv_if_ne (tgt := 1814) hx hb dL_law_1799 (by decide) (fun c2 => hG _ _ hP hD hS) (fun c2 => ?_)
  refine lv_aload_n hx hb dL_law_1802 rfl (lv_at hl 5 rfl) ?_
  refine lv_iconst (v := 0) hx hb dL_law_1803 (by decide) ?_
  refine va_lald (i := 0) hx hb hK hP 0 4 rfl rfl (by unfold vp_in; decide) dL_law_1804 ?_
  refine k_topl (y := S2.2.2.2.2.2.2.2.2.2.2.2 0) rfl ?_
  refine lv_iload hx hb dL_law_1805 (lv_at hl 0 rfl) ?_
  refine lv_i2l (v := Int32.toInt64 b9) hx hb dL_law_1807 rfl ?_
  refine W.lcmp hx hb dL_law_1808 ?_
  refine lv_if_eq (tgt := 1814) hx hb dL_law_1809 (by decide) (fun c3 => hG _ _ hP hD hS) (fun c3 => absurd ((lg_cmp_eq _ _).mpr ((ha2 (ek9.symm.trans c2)).trans (congrArg Int32.toInt64 eb9.symm))) c3)
set_option maxHeartbeats 4000000 in
set_option maxRecDepth 100000 in
theorem law_24 {p : Program} {l : Launch} {e : Env} {s : State} {m : MethodId} {below : List Frame} {meth : Method} {c : Code} {D : va_G} {g : Nat → Nat} {o0 x0 m0 : Nat} {ua ub : Nat → Nat → Nat} {uu : Nat → Nat} {b L : Nat} {xs : Nat → Int32} (C : LwC p l s m c D g b L xs) {i : Nat} (hi : i + 7 ≤ L) {Q : State → Prop} (K : LwK p l e s m below meth c D g o0 x0 m0 ua ub uu b i Q) {S : KC} {R : KR} {H : Heap} {locs : List Loc} {ls : Array Slot} (hI : INV (3000 * i) S R) (hP : va_P D vwCl ((w8 g m0 uu R) ++ (wK g o0 x0 ua ub S)) H) (hD : va_D (lwA s) ((w8 g m0 uu R) ++ (wK g o0 x0 ua ub S))) (hS : va_S (lwA s) s.heap H locs) (hl : lv_has ls 7 [(0, .ref b), (1, .ref x0), (2, .ref m0), (3, .ref o0), (4, .int (nI i))]) : W p l e room_1 s m #[Value.ref b] below meth c H locs (200 + i) (40000 + 6 * i) Q (F0 m 1817 ls []) := by
  obtain ⟨hx, hb, hml, hown, hts, hX0, hbl, hst, hK, hE, hX, hL⟩ := C
  have hA : ∀ q : Nat, s.heap.size ≤ q → lwA s q := fun _ h => h
  have hbA : ¬ lwA s b := Nat.not_le.mpr hbl
  obtain ⟨p1, p2, p3, p4, p5, p6, p7, p8, p9⟩ := INV.pre hI
  refine lv_aload_n hx hb dL_law_1817 rfl (lv_at hl 1 rfl) ?_
  refine lv_aload_n hx hb dL_law_1818 rfl (lv_at hl 0 rfl) ?_
  refine lv_iload hx hb dL_law_1819 (lv_at hl 4 rfl) ?_
  refine lv_iconst (v := 1) hx hb dL_law_1821 (by decide) ?_
  refine law_ld (k := 1) rfl (by omega) hL hx hb hX0 hbl hbA hS dL_law_1822 dL_law_1823 ?_
  refine lv_aload_n hx hb dL_law_1824 rfl (lv_at hl 3 rfl) ?_
  obtain ⟨hI2, hk2, ha2⟩ := inv_save (N := 3000 * i) (xs (i + 1)) hI (by omega)
  refine k_aiR (wa := (w8 g m0 uu R)) (w1 := (wK g o0 x0 ua ub (sL_save (xs (i + 1)) S))) (vx_runSW (As := [.ref x0, .int (xs (i + 1)), .ref o0]) (rest := []) ⟨hx, hb, hml, hown, hts⟩ (c_L_save l D g o0 x0 ua ub H.size S (xs (i + 1)) hst p1 p2 p3 p4 p5 p6) (vx_cwSW 3 hts gL_law_L_save rfl rfl rfl (by decide +kernel) ⟨Nat.le_of_ble_eq_true rfl, Nat.le_of_ble_eq_true rfl⟩) (kPSsX (wa := (w8 g m0 uu R)) hP hD hK hS hA hE hX) rfl rfl hl.1 rfl (lv_room (Nat.le_of_ble_eq_true rfl)) dL_law_1825 ⟨by show 200 + i + 1 ≤ 601024; omega, by show 40000 + 6 * i + 6 ≤ 7293034; omega⟩) hP hD hS hA (fun H locs hP hD hS => ?_)
  refine lv_topi (fun k9 ek9 => ?_)
  refine lv_istore (lv' := [(5, .int k9), (0, .ref b), (1, .ref x0), (2, .ref m0), (3, .ref o0), (4, .int (nI i))]) hx hb dL_law_1828 hl (by decide) rfl (fun ls hl => ?_)
  generalize (sL_save (xs (i + 1)) S) = S2 at hP hD hI2 ha2
  have hl0 := hl
  refine lv_aload_n hx hb dL_law_1830 rfl (lv_at hl 3 rfl) ?_
  refine lv_aload_n hx hb dL_law_1831 rfl (lv_at hl 1 rfl) ?_
  refine lv_iload hx hb dL_law_1832 (lv_at hl 5 rfl) ?_
  refine lv_iconst (v := 1) hx hb dL_law_1834 (by decide) ?_
  refine law_ld (k := 1) rfl (by omega) hL hx hb hX0 hbl hbA hS dL_law_1835 dL_law_1836 ?_
  have hP := k_swP hP
  have hD := k_swD hD
  refine k_aiR (wa := (wK g o0 x0 ua ub S2)) (w1 := (w8 g m0 uu (sR_save (xs (i + 1)) R))) (va_runV (As := [.int (xs (i + 1))]) (rest := []) ⟨hx, hb, hml, hown, hts⟩ (c_8_save l D g m0 uu H.size R (xs (i + 1)) p7 p8 p9) (cwV 1 hts gL_law_X8_save rfl rfl rfl (by decide +kernel) ⟨Nat.le_of_ble_eq_true rfl, Nat.le_of_ble_eq_true rfl⟩) (kPVs (wa := (wK g o0 x0 ua ub S2)) hP hD hK hS hA hE 0 8 rfl rfl rfl) rfl rfl hl.1 rfl (lv_room (Nat.le_of_ble_eq_true rfl)) dL_law_1837 ⟨by show 200 + i + 1 ≤ 601024; omega, by show 40000 + 6 * i + 6 ≤ 7293034; omega⟩) hP hD hS hA (fun H locs hP hD hS => ?_)
  generalize (sR_save (xs (i + 1)) R) = R2 at hP hD hI2 hk2
  refine lv_topi (fun b9 eb9 => ?_)
  refine lv_istore (lv' := [(6, .int b9), (5, .int k9), (0, .ref b), (1, .ref x0), (2, .ref m0), (3, .ref o0), (4, .int (nI i))]) hx hb dL_law_1840 hl (by decide) rfl (fun ls hl => ?_)
  refine lv_aload_n hx hb dL_law_1842 rfl (lv_at hl 4 rfl) ?_
  obtain ⟨_, _, _, _, _, _, q7, q8, q9⟩ := INV.pre hI2
  refine k_aiR (wa := (wK g o0 x0 ua ub S2)) (w1 := (w8 g m0 uu R2)) (va_runV (As := []) (rest := []) ⟨hx, hb, hml, hown, hts⟩ (c_8_thrown l D g m0 uu H.size R2 q7 q8 q9) (cwV 0 hts gL_law_X8_thrown rfl rfl rfl (by decide +kernel) ⟨Nat.le_of_ble_eq_true rfl, Nat.le_of_ble_eq_true rfl⟩) (kPVs (wa := (wK g o0 x0 ua ub S2)) hP hD hK hS hA hE 0 8 rfl rfl rfl) rfl rfl hl.1 rfl (lv_room (Nat.le_of_ble_eq_true rfl)) dL_law_1843 ⟨by show 200 + i + 1 ≤ 601024; omega, by show 40000 + 6 * i + 6 ≤ 7293034; omega⟩) hP hD hS hA (fun H locs hP hD hS => ?_)
  refine lv_iload hx hb dL_law_1846 (lv_at hl 1 rfl) ?_
  refine lv_icmp_eq (tgt := 1853) hx hb dL_law_1848 (by decide) (fun c1 => ?_) (fun c1 => absurd (ek9.trans hk2).symm c1)
  refine lv_iload hx hb dL_law_1853 (lv_at hl 1 rfl) ?_
  have hG : ∀ (H : Heap) (locs : List Loc), va_P D vwCl ((wK g o0 x0 ua ub S2) ++ (w8 g m0 uu R2)) H → va_D (lwA s) ((wK g o0 x0 ua ub S2) ++ (w8 g m0 uu R2)) → va_S (lwA s) s.heap H locs → W p l e room_1 s m #[Value.ref b] below meth c H locs (200 + i + 1) (40000 + 6 * i + 6) Q (F0 m 1870 ls []) := by
    intro H locs hP hD hS
    refine lv_goto (tgt := 1929) hx hb dL_law_1870 (by decide) ?_
    exact K S2 R2 _ _ _ hI2 (k_swP hP) (k_swD hD) hS (lv_sub hl [2, 3, 4, 5, 6] rfl)
  refine lv_if_ne (tgt := 1870) hx hb dL_law_1855 (by decide) (fun c2 => hG _ _ hP hD hS) (fun c2 => ?_)
  refine lv_aload_n hx hb dL_law_1858 rfl (lv_at hl 5 rfl) ?_
  refine lv_iconst (v := 0) hx hb dL_law_1859 (by decide) ?_
  refine va_lald (i := 0) hx hb hK hP 0 4 rfl rfl (by unfold vp_in; decide) dL_law_1860 ?_
  refine k_topl (y := S2.2.2.2.2.2.2.2.2.2.2.2 0) rfl ?_
  refine lv_iload hx hb dL_law_1861 (lv_at hl 0 rfl) ?_
  refine lv_i2l (v := Int32.toInt64 b9) hx hb dL_law_1863 rfl ?_
  refine W.lcmp hx hb dL_law_1864 ?_
  refine lv_if_eq (tgt := 1870) hx hb dL_law_1865 (by decide) (fun c3 => hG _ _ hP hD hS) (fun c3 => absurd ((lg_cmp_eq _ _).mpr ((ha2 (ek9.symm.trans c2)).trans (congrArg Int32.toInt64 eb9.symm))) c3)
set_option maxHeartbeats 4000000 in
set_option maxRecDepth 100000 in
theorem law_25 {p : Program} {l : Launch} {e : Env} {s : State} {m : MethodId} {below : List Frame} {meth : Method} {c : Code} {D : va_G} {g : Nat → Nat} {o0 x0 m0 : Nat} {ua ub : Nat → Nat → Nat} {uu : Nat → Nat} {b L : Nat} {xs : Nat → Int32} (C : LwC p l s m c D g b L xs) {i : Nat} (hi : i + 7 ≤ L) {Q : State → Prop} (K : LwK p l e s m below meth c D g o0 x0 m0 ua ub uu b i Q) {S : KC} {R : KR} {H : Heap} {locs : List Loc} {ls : Array Slot} (hI : INV (3000 * i) S R) (hP : va_P D vwCl ((w8 g m0 uu R) ++ (wK g o0 x0 ua ub S)) H) (hD : va_D (lwA s) ((w8 g m0 uu R) ++ (wK g o0 x0 ua ub S))) (hS : va_S (lwA s) s.heap H locs) (hl : lv_has ls 7 [(0, .ref b), (1, .ref x0), (2, .ref m0), (3, .ref o0), (4, .int (nI i))]) : W p l e room_1 s m #[Value.ref b] below meth c H locs (200 + i) (40000 + 6 * i) Q (F0 m 1873 ls []) := by
  obtain ⟨hx, hb, hml, hown, hts, hX0, hbl, hst, hK, hE, hX, hL⟩ := C
  have hA : ∀ q : Nat, s.heap.size ≤ q → lwA s q := fun _ h => h
  have hbA : ¬ lwA s b := Nat.not_le.mpr hbl
  obtain ⟨p1, p2, p3, p4, p5, p6, p7, p8, p9⟩ := INV.pre hI
  refine lv_aload_n hx hb dL_law_1873 rfl (lv_at hl 1 rfl) ?_
  refine lv_aload_n hx hb dL_law_1874 rfl (lv_at hl 0 rfl) ?_
  refine lv_iload hx hb dL_law_1875 (lv_at hl 4 rfl) ?_
  refine lv_iconst (v := 1) hx hb dL_law_1877 (by decide) ?_
  refine law_ld (k := 1) rfl (by omega) hL hx hb hX0 hbl hbA hS dL_law_1878 dL_law_1879 ?_
  refine lv_aload_n hx hb dL_law_1880 rfl (lv_at hl 3 rfl) ?_
  obtain ⟨hI2, hk2, ha2⟩ := inv_restore (N := 3000 * i) (xs (i + 1)) hI (by omega)
  refine k_aiR (wa := (w8 g m0 uu R)) (w1 := (wK g o0 x0 ua ub (sL_restore (xs (i + 1)) S))) (vx_runSW (As := [.ref x0, .int (xs (i + 1)), .ref o0]) (rest := []) ⟨hx, hb, hml, hown, hts⟩ (c_L_restore l D g o0 x0 ua ub H.size S (xs (i + 1)) hst p1 p2 p3 p4 p5 p6) (vx_cwSW 3 hts gL_law_L_restore rfl rfl rfl (by decide +kernel) ⟨Nat.le_of_ble_eq_true rfl, Nat.le_of_ble_eq_true rfl⟩) (kPSsX (wa := (w8 g m0 uu R)) hP hD hK hS hA hE hX) rfl rfl hl.1 rfl (lv_room (Nat.le_of_ble_eq_true rfl)) dL_law_1881 ⟨by show 200 + i + 1 ≤ 601024; omega, by show 40000 + 6 * i + 6 ≤ 7293034; omega⟩) hP hD hS hA (fun H locs hP hD hS => ?_)
  refine lv_topi (fun k9 ek9 => ?_)
  refine lv_istore (lv' := [(5, .int k9), (0, .ref b), (1, .ref x0), (2, .ref m0), (3, .ref o0), (4, .int (nI i))]) hx hb dL_law_1884 hl (by decide) rfl (fun ls hl => ?_)
  generalize (sL_restore (xs (i + 1)) S) = S2 at hP hD hI2 ha2
  have hl0 := hl
  refine lv_aload_n hx hb dL_law_1886 rfl (lv_at hl 3 rfl) ?_
  refine lv_aload_n hx hb dL_law_1887 rfl (lv_at hl 1 rfl) ?_
  refine lv_iload hx hb dL_law_1888 (lv_at hl 5 rfl) ?_
  refine lv_iconst (v := 1) hx hb dL_law_1890 (by decide) ?_
  refine law_ld (k := 1) rfl (by omega) hL hx hb hX0 hbl hbA hS dL_law_1891 dL_law_1892 ?_
  have hP := k_swP hP
  have hD := k_swD hD
  refine k_aiR (wa := (wK g o0 x0 ua ub S2)) (w1 := (w8 g m0 uu (sR_restore (xs (i + 1)) R))) (va_runV (As := [.int (xs (i + 1))]) (rest := []) ⟨hx, hb, hml, hown, hts⟩ (c_8_restore l D g m0 uu H.size R (xs (i + 1)) p7 p8 p9) (cwV 1 hts gL_law_X8_restore rfl rfl rfl (by decide +kernel) ⟨Nat.le_of_ble_eq_true rfl, Nat.le_of_ble_eq_true rfl⟩) (kPVs (wa := (wK g o0 x0 ua ub S2)) hP hD hK hS hA hE 0 8 rfl rfl rfl) rfl rfl hl.1 rfl (lv_room (Nat.le_of_ble_eq_true rfl)) dL_law_1893 ⟨by show 200 + i + 1 ≤ 601024; omega, by show 40000 + 6 * i + 6 ≤ 7293034; omega⟩) hP hD hS hA (fun H locs hP hD hS => ?_)
  generalize (sR_restore (xs (i + 1)) R) = R2 at hP hD hI2 hk2
  refine lv_topi (fun b9 eb9 => ?_)
  refine lv_istore (lv' := [(6, .int b9), (5, .int k9), (0, .ref b), (1, .ref x0), (2, .ref m0), (3, .ref o0), (4, .int (nI i))]) hx hb dL_law_1896 hl (by decide) rfl (fun ls hl => ?_)
  refine lv_aload_n hx hb dL_law_1898 rfl (lv_at hl 4 rfl) ?_
  obtain ⟨_, _, _, _, _, _, q7, q8, q9⟩ := INV.pre hI2
  refine k_aiR (wa := (wK g o0 x0 ua ub S2)) (w1 := (w8 g m0 uu R2)) (va_runV (As := []) (rest := []) ⟨hx, hb, hml, hown, hts⟩ (c_8_thrown l D g m0 uu H.size R2 q7 q8 q9) (cwV 0 hts gL_law_X8_thrown rfl rfl rfl (by decide +kernel) ⟨Nat.le_of_ble_eq_true rfl, Nat.le_of_ble_eq_true rfl⟩) (kPVs (wa := (wK g o0 x0 ua ub S2)) hP hD hK hS hA hE 0 8 rfl rfl rfl) rfl rfl hl.1 rfl (lv_room (Nat.le_of_ble_eq_true rfl)) dL_law_1899 ⟨by show 200 + i + 1 ≤ 601024; omega, by show 40000 + 6 * i + 6 ≤ 7293034; omega⟩) hP hD hS hA (fun H locs hP hD hS => ?_)
  refine lv_iload hx hb dL_law_1902 (lv_at hl 1 rfl) ?_
  refine lv_icmp_eq (tgt := 1909) hx hb dL_law_1904 (by decide) (fun c1 => ?_) (fun c1 => absurd (ek9.trans hk2).symm c1)
  refine lv_iload hx hb dL_law_1909 (lv_at hl 1 rfl) ?_
  have hG : ∀ (H : Heap) (locs : List Loc), va_P D vwCl ((wK g o0 x0 ua ub S2) ++ (w8 g m0 uu R2)) H → va_D (lwA s) ((wK g o0 x0 ua ub S2) ++ (w8 g m0 uu R2)) → va_S (lwA s) s.heap H locs → W p l e room_1 s m #[Value.ref b] below meth c H locs (200 + i + 1) (40000 + 6 * i + 6) Q (F0 m 1926 ls []) := by
    intro H locs hP hD hS
    refine lv_goto (tgt := 1929) hx hb dL_law_1926 (by decide) ?_
    exact K S2 R2 _ _ _ hI2 (k_swP hP) (k_swD hD) hS (lv_sub hl [2, 3, 4, 5, 6] rfl)
  refine lv_if_ne (tgt := 1926) hx hb dL_law_1911 (by decide) (fun c2 => hG _ _ hP hD hS) (fun c2 => ?_)
  refine lv_aload_n hx hb dL_law_1914 rfl (lv_at hl 5 rfl) ?_
  refine lv_iconst (v := 0) hx hb dL_law_1915 (by decide) ?_
  refine va_lald (i := 0) hx hb hK hP 0 4 rfl rfl (by unfold vp_in; decide) dL_law_1916 ?_
  refine k_topl (y := S2.2.2.2.2.2.2.2.2.2.2.2 0) rfl ?_
  refine lv_iload hx hb dL_law_1917 (lv_at hl 0 rfl) ?_
  refine lv_i2l (v := Int32.toInt64 b9) hx hb dL_law_1919 rfl ?_
  refine W.lcmp hx hb dL_law_1920 ?_
  refine lv_if_eq (tgt := 1926) hx hb dL_law_1921 (by decide) (fun c3 => hG _ _ hP hD hS) (fun c3 => absurd ((lg_cmp_eq _ _).mpr ((ha2 (ek9.symm.trans c2)).trans (congrArg Int32.toInt64 eb9.symm))) c3)
end
