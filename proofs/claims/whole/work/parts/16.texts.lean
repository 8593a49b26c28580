-- MODULE: Strings, texts (X6)
theorem qJ0_coder_7d493_0 : Cond.fieldLink RJ0 38 "java/lang/String" "COMPACT_STRINGS" "Z" ∈ wsJ0_coder_7d493 := (List.mem_cons_of_mem _ (List.mem_of_getElem? (i := 0) rfl))
theorem qJ0_coder_7d493_1 : Cond.fieldLink RJ0 15 "java/lang/String" "coder" "B" ∈ wsJ0_coder_7d493 := (List.mem_cons_of_mem _ (List.mem_of_getElem? (i := 1) rfl))
set_option maxHeartbeats 4000000 in
set_option maxRecDepth 100000 in
theorem c_J0_coder_7d493 (l : Launch) (D : va_G) (g : Nat → Nat) (sz : Nat) (i : Nat) (hi : i < 11) : kMi l D g yJ0_coder_7d493 wsJ0_coder_7d493 1 0 0 [.ref (g (10 + i))] [] sz 0 [] := by
  refine k_enter (nm := "coder") (own := RJ0) (bytes := cJ0_coder_7d493) (maxL := 1) (ret := (some .byte)) (Qf := fun A => kQi D [] A 0) (by decide) rfl rfl rfl (Nat.le_of_ble_eq_true rfl) ?_
  rintro pp ee s mm below meth cc A ls args Q H locs hQ ⟨hx, hb, hr, hml, hown, hts, hlocks, hin⟩ hP hK hD hA hS hE hl
  have hl : lv_has ls 1 [(0, .ref (g (10 + i)))] := hl
  refine va_gets hx hb hE.2.2.2.2.2.1 hS hown (hts _ qJ0_coder_7d493_0) (fun _ h9 => h9) dJ0_coder_7d493_0 ?_
  refine lv_if_eq (tgt := 13) hx hb dJ0_coder_7d493_3 (by decide) (fun c_1 => absurd c_1 (by decide)) (fun _ => ?_)
  refine lv_aload_n hx hb dJ0_coder_7d493_6 rfl (lv_at hl 0 rfl) ?_
  refine vk_getf hx hb (hE.2.2.1.1 i (by omega)).2.1 hS hown (hts _ qJ0_coder_7d493_1) (fun _ h9 => h9) dJ0_coder_7d493_7 ?_
  refine lv_goto (tgt := 14) hx hb dJ0_coder_7d493_10 (by decide) ?_
  subst hQ
  exact k_rz hx hb hr hlocks hP hD hS dJ0_coder_7d493_14 (by rfl) (rfl) (rfl)
theorem qJ0_isLatin1_aae02_0 : Cond.fieldLink RJ0 38 "java/lang/String" "COMPACT_STRINGS" "Z" ∈ wsJ0_isLatin1_aae02 := (List.mem_cons_of_mem _ (List.mem_of_getElem? (i := 0) rfl))
theorem qJ0_isLatin1_aae02_1 : Cond.fieldLink RJ0 15 "java/lang/String" "coder" "B" ∈ wsJ0_isLatin1_aae02 := (List.mem_cons_of_mem _ (List.mem_of_getElem? (i := 1) rfl))
set_option maxHeartbeats 4000000 in
set_option maxRecDepth 100000 in
theorem c_J0_isLatin1_aae02 (l : Launch) (D : va_G) (g : Nat → Nat) (sz : Nat) (i : Nat) (hi : i < 11) : kMi l D g yJ0_isLatin1_aae02 wsJ0_isLatin1_aae02 1 0 0 [.ref (g (10 + i))] [] sz 1 [] := by
  refine k_enter (nm := "isLatin1") (own := RJ0) (bytes := cJ0_isLatin1_aae02) (maxL := 1) (ret := (some .boolean)) (Qf := fun A => kQi D [] A 1) (by decide) rfl rfl rfl (Nat.le_of_ble_eq_true rfl) ?_
  rintro pp ee s mm below meth cc A ls args Q H locs hQ ⟨hx, hb, hr, hml, hown, hts, hlocks, hin⟩ hP hK hD hA hS hE hl
  have hl : lv_has ls 1 [(0, .ref (g (10 + i)))] := hl
  refine va_gets hx hb hE.2.2.2.2.2.1 hS hown (hts _ qJ0_isLatin1_aae02_0) (fun _ h9 => h9) dJ0_isLatin1_aae02_0 ?_
  refine lv_if_eq (tgt := 17) hx hb dJ0_isLatin1_aae02_3 (by decide) (fun c_1 => absurd c_1 (by decide)) (fun _ => ?_)
  refine lv_aload_n hx hb dJ0_isLatin1_aae02_6 rfl (lv_at hl 0 rfl) ?_
  refine vk_getf hx hb (hE.2.2.1.1 i (by omega)).2.1 hS hown (hts _ qJ0_isLatin1_aae02_1) (fun _ h9 => h9) dJ0_isLatin1_aae02_7 ?_
  refine lv_if_ne (tgt := 17) hx hb dJ0_isLatin1_aae02_10 (by decide) (fun c_2 => absurd c_2 (by decide)) (fun _ => ?_)
  refine lv_iconst (v := 1) hx hb dJ0_isLatin1_aae02_13 (by decide) ?_
  refine lv_goto (tgt := 18) hx hb dJ0_isLatin1_aae02_14 (by decide) ?_
  subst hQ
  exact k_rz hx hb hr hlocks hP hD hS dJ0_isLatin1_aae02_18 (by rfl) (rfl) (rfl)
theorem kLen_small : ∀ i : Nat, kLen.getD i 0 < 64 := by
  intro i
  by_cases h : i < 11
  · have key : ∀ j : Fin 11, kLen.getD j.val 0 < 64 := by decide +kernel
    exact key ⟨i, h⟩
  · rw [List.getD_eq_getElem?_getD, List.getElem?_eq_none (by have : kLen.length = 11 := by decide +kernel
                                                              omega)]
    decide
theorem qJ0_length_8abf5_0 : Cond.fieldLink RJ0 9 "java/lang/String" "value" "[B" ∈ wsJ0_length_8abf5 := (List.mem_cons_of_mem _ (List.mem_of_getElem? (i := 0) rfl))
set_option maxHeartbeats 4000000 in
set_option maxRecDepth 100000 in
theorem c_J0_length_8abf5 (l : Launch) (D : va_G) (g : Nat → Nat) (sz : Nat) (i : Nat) (hi : i < 11) : kMi l D g yJ0_length_8abf5 wsJ0_length_8abf5 2 0 0 [.ref (g (10 + i))] [] sz (nI (kLen.getD i 0)) [] := by
  refine k_enter (nm := "length") (own := RJ0) (bytes := cJ0_length_8abf5) (maxL := 1) (ret := (some .int)) (Qf := fun A => kQi D [] A (nI (kLen.getD i 0))) (by decide) rfl rfl rfl (Nat.le_of_ble_eq_true rfl) ?_
  rintro pp ee s mm below meth cc A ls args Q H locs hQ ⟨hx, hb, hr, hml, hown, hts, hlocks, hin⟩ hP hK hD hA hS hE hl
  have hl : lv_has ls 1 [(0, .ref (g (10 + i)))] := hl
  refine lv_aload_n hx hb dJ0_length_8abf5_0 rfl (lv_at hl 0 rfl) ?_
  refine vk_getf hx hb (hE.2.2.1.1 i (by omega)).2.2.1 hS hown (hts _ qJ0_length_8abf5_0) (fun _ h9 => h9) dJ0_length_8abf5_1 ?_
  refine va_tlen (v := (nI (kLen.getD i 0))) hx hb (hE.2.2.1.1 i (by omega)).2.2.2 hS rfl dJ0_length_8abf5_4 ?_
  refine lv_aload_n hx hb dJ0_length_8abf5_5 rfl (lv_at hl 0 rfl) ?_
  refine k_ai (wr := []) (w2 := []) (va_runV (As := []) (rest := [.int (nI (kLen.getD i 0))]) ⟨hx, hb, hml, hown, hts⟩ (c_J0_coder_7d493 l D g H.size i (by omega)) (cwV 0 hts gJ0_length_8abf5_J0_coder_7d493 rfl rfl rfl (by decide +kernel) (k_lvl (by omega) (by decide))) (kPVr hP hD hK hS hA hE [] rfl (by decide) (vk_recv (i := i) hE.2.2.1 (by omega) hS)) rfl rfl hl.1 rfl (lv_room (Nat.le_of_ble_eq_true rfl)) dJ0_length_8abf5_6 ⟨Nat.le_of_ble_eq_true rfl, Nat.le_of_ble_eq_true rfl⟩) hP hD hS hA [] [] [] rfl rfl (by decide) (by decide) rfl (by decide) (fun H locs hP hD hS => ?_)
  refine lv_ishr hx hb dJ0_length_8abf5_9 ?_
  refine k_top (y := (nI (kLen.getD i 0))) (sb_shr0 _) ?_
  subst hQ
  exact k_ri hx hb hr hlocks hP hD hS dJ0_length_8abf5_10 (rfl) (rfl)
def f_J0_isEmpty_aae02 (i : Nat) : Int32 :=
  if (kLen.getD i 0) = 0 then
    1
  else
    0
theorem qJ0_isEmpty_aae02_0 : Cond.fieldLink RJ0 9 "java/lang/String" "value" "[B" ∈ wsJ0_isEmpty_aae02 := (List.mem_cons_of_mem _ (List.mem_of_getElem? (i := 0) rfl))
set_option maxHeartbeats 4000000 in
set_option maxRecDepth 100000 in
theorem c_J0_isEmpty_aae02 (l : Launch) (D : va_G) (g : Nat → Nat) (sz : Nat) (i : Nat) (hi : i < 11) : kMi l D g yJ0_isEmpty_aae02 wsJ0_isEmpty_aae02 1 0 0 [.ref (g (10 + i))] [] sz (f_J0_isEmpty_aae02 i) [] := by
  refine k_enter (nm := "isEmpty") (own := RJ0) (bytes := cJ0_isEmpty_aae02) (maxL := 1) (ret := (some .boolean)) (Qf := fun A => kQi D [] A (f_J0_isEmpty_aae02 i)) (by decide) rfl rfl rfl (Nat.le_of_ble_eq_true rfl) ?_
  rintro pp ee s mm below meth cc A ls args Q H locs hQ ⟨hx, hb, hr, hml, hown, hts, hlocks, hin⟩ hP hK hD hA hS hE hl
  have hl : lv_has ls 1 [(0, .ref (g (10 + i)))] := hl
  have hsm := kLen_small i
  refine lv_aload_n hx hb dJ0_isEmpty_aae02_0 rfl (lv_at hl 0 rfl) ?_
  refine vk_getf hx hb (hE.2.2.1.1 i (by omega)).2.2.1 hS hown (hts _ qJ0_isEmpty_aae02_0) (fun _ h9 => h9) dJ0_isEmpty_aae02_1 ?_
  refine va_tlen (v := (nI (kLen.getD i 0))) hx hb (hE.2.2.1.1 i (by omega)).2.2.2 hS rfl dJ0_isEmpty_aae02_4 ?_
  refine lv_if_ne (tgt := 12) hx hb dJ0_isEmpty_aae02_5 (by decide) (fun c_1 => ?_) (fun c_1 => ?_)
  · have c_1 : ¬ ((kLen.getD i 0) = 0) := fun h9 => c_1 ((nI_eq (a := (kLen.getD i 0)) (b := 0) (by omega) (by omega)).mpr h9)
    refine lv_iconst (v := 0) hx hb dJ0_isEmpty_aae02_12 (by decide) ?_
    have hE2 : (f_J0_isEmpty_aae02 i) = 0 := by
      exact (if_neg c_1).trans (rfl)
    subst hQ
    exact k_rz hx hb hr hlocks hP hD hS dJ0_isEmpty_aae02_13 (by rfl) (hE2.symm) (rfl)
  · have c_1 : (kLen.getD i 0) = 0 := (nI_eq (a := (kLen.getD i 0)) (b := 0) (by omega) (by omega)).mp c_1
    refine lv_iconst (v := 1) hx hb dJ0_isEmpty_aae02_8 (by decide) ?_
    refine lv_goto (tgt := 13) hx hb dJ0_isEmpty_aae02_9 (by decide) ?_
    have hE2 : (f_J0_isEmpty_aae02 i) = 1 := by
      exact (if_pos c_1).trans (rfl)
    subst hQ
    exact k_rz hx hb hr hlocks hP hD hS dJ0_isEmpty_aae02_13 (by rfl) (hE2.symm) (rfl)
set_option maxHeartbeats 4000000 in
set_option maxRecDepth 100000 in
theorem c_J3_checkIndex_8e157 (l : Launch) (D : va_G) (g : Nat → Nat) (rq : Nat) (sz : Nat) (ix : Nat) (len : Nat) (hix : ix < len) (hln : len < 2 ^ 31) : kMi l D g yJ3_checkIndex_8e157 wsJ3_checkIndex_8e157 1 0 0 [.int (nI ix), .int (nI len), .ref rq] [] sz (nI ix) [] := by
  refine k_enter (nm := "checkIndex") (own := RJ3) (bytes := cJ3_checkIndex_8e157) (maxL := 3) (ret := (some .int)) (Qf := fun A => kQi D [] A (nI ix)) (by decide) rfl rfl rfl (Nat.le_of_ble_eq_true rfl) ?_
  rintro pp ee s mm below meth cc A ls args Q H locs hQ ⟨hx, hb, hr, hml, hown, hts, hlocks, hin⟩ hP hK hD hA hS hE hl
  have hl : lv_has ls 3 [(0, .int (nI ix)), (1, .int (nI len)), (2, .ref rq)] := hl
  refine lv_iload_n hx hb dJ3_checkIndex_8e157_0 rfl (lv_at hl 0 rfl) ?_
  refine lv_if_lt (tgt := 9) hx hb dJ3_checkIndex_8e157_1 (by decide) (fun c_1 => ?_) (fun c_1 => ?_)
  · have c_1 : ix < 0 := (nI_ltI (a := ix) (b := 0) (by omega) (by omega)).mp c_1
    exfalso; omega
  · have c_1 : ¬ (ix < 0) := fun h9 => c_1 ((nI_ltI (a := ix) (b := 0) (by omega) (by omega)).mpr h9)
    refine lv_iload_n hx hb dJ3_checkIndex_8e157_4 rfl (lv_at hl 0 rfl) ?_
    refine lv_iload_n hx hb dJ3_checkIndex_8e157_5 rfl (lv_at hl 1 rfl) ?_
    refine lv_icmp_lt (tgt := 16) hx hb dJ3_checkIndex_8e157_6 (by decide) (fun c_2 => ?_) (fun c_2 => ?_)
    · have c_2 : ix < len := (nI_ltI (a := ix) (b := len) (by omega) (by omega)).mp c_2
      refine lv_iload_n hx hb dJ3_checkIndex_8e157_16 rfl (lv_at hl 0 rfl) ?_
      subst hQ
      exact k_ri hx hb hr hlocks hP hD hS dJ3_checkIndex_8e157_17 (rfl) (rfl)
    · have c_2 : ¬ (ix < len) := fun h9 => c_2 ((nI_ltI (a := ix) (b := len) (by omega) (by omega)).mpr h9)
      exfalso; omega
set_option maxHeartbeats 4000000 in
set_option maxRecDepth 100000 in
theorem c_J3_null (l : Launch) (D : va_G) (g : Nat → Nat) (sz : Nat) (ix : Nat) (len : Nat) (hix : ix < len) (hln : len < 2 ^ 31) : kMi l D g yJ3_checkIndex_8e157 wsJ3_checkIndex_8e157 1 0 0 [.int (nI ix), .int (nI len), .null] [] sz (nI ix) [] := by
  refine k_enter (nm := "checkIndex") (own := RJ3) (bytes := cJ3_checkIndex_8e157) (maxL := 3) (ret := (some .int)) (Qf := fun A => kQi D [] A (nI ix)) (by decide) rfl rfl rfl (Nat.le_of_ble_eq_true rfl) ?_
  rintro pp ee s mm below meth cc A ls args Q H locs hQ ⟨hx, hb, hr, hml, hown, hts, hlocks, hin⟩ hP hK hD hA hS hE hl
  have hl : lv_has ls 3 [(0, .int (nI ix)), (1, .int (nI len)), (2, .null)] := hl
  refine lv_iload_n hx hb dJ3_checkIndex_8e157_0 rfl (lv_at hl 0 rfl) ?_
  refine lv_if_lt (tgt := 9) hx hb dJ3_checkIndex_8e157_1 (by decide) (fun c_1 => ?_) (fun c_1 => ?_)
  · have c_1 : ix < 0 := (nI_ltI (a := ix) (b := 0) (by omega) (by omega)).mp c_1
    exfalso; omega
  · have c_1 : ¬ (ix < 0) := fun h9 => c_1 ((nI_ltI (a := ix) (b := 0) (by omega) (by omega)).mpr h9)
    refine lv_iload_n hx hb dJ3_checkIndex_8e157_4 rfl (lv_at hl 0 rfl) ?_
    refine lv_iload_n hx hb dJ3_checkIndex_8e157_5 rfl (lv_at hl 1 rfl) ?_
    refine lv_icmp_lt (tgt := 16) hx hb dJ3_checkIndex_8e157_6 (by decide) (fun c_2 => ?_) (fun c_2 => ?_)
    · have c_2 : ix < len := (nI_ltI (a := ix) (b := len) (by omega) (by omega)).mp c_2
      refine lv_iload_n hx hb dJ3_checkIndex_8e157_16 rfl (lv_at hl 0 rfl) ?_
      subst hQ
      exact k_ri hx hb hr hlocks hP hD hS dJ3_checkIndex_8e157_17 (rfl) (rfl)
    · have c_2 : ¬ (ix < len) := fun h9 => c_2 ((nI_ltI (a := ix) (b := len) (by omega) (by omega)).mpr h9)
      exfalso; omega
theorem qJ0_checkIndex_df160_0 : Cond.fieldLink RJ0 1053 "jdk/internal/util/Preconditions" "SIOOBE_FORMATTER" "Ljava/util/function/BiFunction;" ∈ wsJ0_checkIndex_df160 := (List.mem_cons_of_mem _ (List.mem_of_getElem? (i := 0) rfl))
set_option maxHeartbeats 4000000 in
set_option maxRecDepth 100000 in
theorem c_J0_checkIndex_df160 (l : Launch) (D : va_G) (g : Nat → Nat) (sz : Nat) (ix : Nat) (len : Nat) (hix : ix < len) (hln : len < 2 ^ 31) : kMv l D g yJ0_checkIndex_df160 wsJ0_checkIndex_df160 2 0 0 [.int (nI ix), .int (nI len)] [] sz [] := by
  refine k_enter (nm := "checkIndex") (own := RJ0) (bytes := cJ0_checkIndex_df160) (maxL := 2) (ret := none) (Qf := fun A => kQv D [] A) (by decide) rfl rfl rfl (Nat.le_of_ble_eq_true rfl) ?_
  rintro pp ee s mm below meth cc A ls args Q H locs hQ ⟨hx, hb, hr, hml, hown, hts, hlocks, hin⟩ hP hK hD hA hS hE hl
  have hl : lv_has ls 2 [(0, .int (nI ix)), (1, .int (nI len))] := hl
  refine lv_iload_n hx hb dJ0_checkIndex_df160_0 rfl (lv_at hl 0 rfl) ?_
  refine lv_iload_n hx hb dJ0_checkIndex_df160_1 rfl (lv_at hl 1 rfl) ?_
  rcases hE.2.2.2.2.2.2 with hZ9 | ⟨t9, hZ9⟩
  · refine va_gets hx hb hZ9 hS hown (hts _ qJ0_checkIndex_df160_0) (fun _ h9 => h9) dJ0_checkIndex_df160_2 ?_
    refine k_ai (wr := []) (w2 := []) (va_runS (As := [.int (nI ix), .int (nI len), .null]) (rest := []) ⟨hx, hb, hml, hown, hts⟩ (c_J3_null l D g H.size ix len (by omega) (by omega)) (va_cwS 3 hts gJ0_checkIndex_df160_J3_checkIndex_8e157 rfl rfl rfl (by decide +kernel) (k_lvl (by omega) (by decide))) (kPS hP hD hK hS hA hE [] rfl (by decide)) rfl rfl hl.1 rfl (lv_room (Nat.le_of_ble_eq_true rfl)) dJ0_checkIndex_df160_5 ⟨Nat.le_of_ble_eq_true rfl, Nat.le_of_ble_eq_true rfl⟩) hP hD hS hA [] [] [] rfl rfl (by decide) (by decide) rfl (by decide) (fun H locs hP hD hS => ?_)
    refine lv_pop hx hb dJ0_checkIndex_df160_8 rfl ?_
    subst hQ
    exact k_rv hx hb hr hlocks hP hD hS dJ0_checkIndex_df160_9 rfl
  · refine va_gets hx hb hZ9 hS hown (hts _ qJ0_checkIndex_df160_0) (fun _ h9 => h9) dJ0_checkIndex_df160_2 ?_
    refine k_ai (wr := []) (w2 := []) (va_runS (As := [.int (nI ix), .int (nI len), .ref t9]) (rest := []) ⟨hx, hb, hml, hown, hts⟩ (c_J3_checkIndex_8e157 l D g t9 H.size ix len (by omega) (by omega)) (va_cwS 3 hts gJ0_checkIndex_df160_J3_checkIndex_8e157 rfl rfl rfl (by decide +kernel) (k_lvl (by omega) (by decide))) (kPS hP hD hK hS hA hE [] rfl (by decide)) rfl rfl hl.1 rfl (lv_room (Nat.le_of_ble_eq_true rfl)) dJ0_checkIndex_df160_5 ⟨Nat.le_of_ble_eq_true rfl, Nat.le_of_ble_eq_true rfl⟩) hP hD hS hA [] [] [] rfl rfl (by decide) (by decide) rfl (by decide) (fun H locs hP hD hS => ?_)
    refine lv_pop hx hb dJ0_checkIndex_df160_8 rfl ?_
    subst hQ
    exact k_rv hx hb hr hlocks hP hD hS dJ0_checkIndex_df160_9 rfl
set_option maxHeartbeats 4000000 in
set_option maxRecDepth 100000 in
theorem c_J1_charAt_3b067 (l : Launch) (D : va_G) (g : Nat → Nat) (sz : Nat) (i : Nat) (ix : Nat) (hi : i < 11) (hix : ix < kLen.getD i 0) : kMi l D g yJ1_charAt_3b067 wsJ1_charAt_3b067 3 0 0 [.ref (g (30 + i)), .int (nI ix)] [] sz (kCh i ix) [] := by
  refine k_enter (nm := "charAt") (own := RJ1) (bytes := cJ1_charAt_3b067) (maxL := 2) (ret := (some .char)) (Qf := fun A => kQi D [] A (kCh i ix)) (by decide) rfl rfl rfl (Nat.le_of_ble_eq_true rfl) ?_
  rintro pp ee s mm below meth cc A ls args Q H locs hQ ⟨hx, hb, hr, hml, hown, hts, hlocks, hin⟩ hP hK hD hA hS hE hl
  have hl : lv_has ls 2 [(0, .ref (g (30 + i))), (1, .int (nI ix))] := hl
  have hsm := kLen_small i
  refine lv_iload_n hx hb dJ1_charAt_3b067_0 rfl (lv_at hl 1 rfl) ?_
  refine lv_aload_n hx hb dJ1_charAt_3b067_1 rfl (lv_at hl 0 rfl) ?_
  refine va_tlen (v := (nI (kLen.getD i 0))) hx hb (hE.2.2.1.1 i (by omega)).2.2.2 hS rfl dJ1_charAt_3b067_2 ?_
  refine k_av (wr := []) (w2 := []) (va_runS (As := [.int (nI ix), .int (nI (kLen.getD i 0))]) (rest := []) ⟨hx, hb, hml, hown, hts⟩ (c_J0_checkIndex_df160 l D g H.size ix (kLen.getD i 0) (by omega) (by omega)) (va_cwS 2 hts gJ1_charAt_3b067_J0_checkIndex_df160 rfl rfl rfl (by decide +kernel) (k_lvl (by omega) (by decide))) (kPS hP hD hK hS hA hE [] rfl (by decide)) rfl rfl hl.1 rfl (lv_room (Nat.le_of_ble_eq_true rfl)) dJ1_charAt_3b067_3 ⟨Nat.le_of_ble_eq_true rfl, Nat.le_of_ble_eq_true rfl⟩) hP hD hS hA [] [] [] rfl rfl (by decide) (by decide) rfl (by decide) (fun H locs hP hD hS => ?_)
  refine lv_aload_n hx hb dJ1_charAt_3b067_6 rfl (lv_at hl 0 rfl) ?_
  refine lv_iload_n hx hb dJ1_charAt_3b067_7 rfl (lv_at hl 1 rfl) ?_
  refine va_tb (i := (nI ix)) (v := .int ((kByt.getD i []).getD ((nI ix)).toNatClampNeg 0)) hx hb (hE.2.2.1.1 i (by omega)).2.2.2 hS (vp_in_nI (n := ix) (by omega) (by omega)) rfl dJ1_charAt_3b067_8 ?_
  refine k_top (y := (kByt.getD i []).getD ix 0) (by rw [nI_clamp (by omega)]) ?_
  refine lv_sipush (v := 255) hx hb dJ1_charAt_3b067_9 (by decide) ?_
  refine lv_iand hx hb dJ1_charAt_3b067_12 ?_
  refine lv_i2c (v := (Int32.toUInt32 (((kByt.getD i []).getD ix 0) &&& 255) % 65536).toInt32) hx hb dJ1_charAt_3b067_13 rfl ?_
  subst hQ
  exact k_rz hx hb hr hlocks hP hD hS dJ1_charAt_3b067_14 (pk_nc _) (rfl) (rfl)
theorem qJ0_charAt_5068e_0 : Cond.fieldLink RJ0 9 "java/lang/String" "value" "[B" ∈ wsJ0_charAt_5068e := (List.mem_cons_of_mem _ (List.mem_append_left _ (List.mem_of_getElem? (i := 0) rfl)))
set_option maxHeartbeats 4000000 in
set_option maxRecDepth 100000 in
theorem c_J0_charAt_5068e (l : Launch) (D : va_G) (g : Nat → Nat) (sz : Nat) (i : Nat) (ix : Nat) (hi : i < 11) (hix : ix < kLen.getD i 0) : kMi l D g yJ0_charAt_5068e wsJ0_charAt_5068e 5 0 0 [.ref (g (10 + i)), .int (nI ix)] [] sz (kCh i ix) [] := by
  refine k_enter (nm := "charAt") (own := RJ0) (bytes := cJ0_charAt_5068e) (maxL := 2) (ret := (some .char)) (Qf := fun A => kQi D [] A (kCh i ix)) (by decide) rfl rfl rfl (Nat.le_of_ble_eq_true rfl) ?_
  rintro pp ee s mm below meth cc A ls args Q H locs hQ ⟨hx, hb, hr, hml, hown, hts, hlocks, hin⟩ hP hK hD hA hS hE hl
  have hl : lv_has ls 2 [(0, .ref (g (10 + i))), (1, .int (nI ix))] := hl
  have hsm := kLen_small i
  refine lv_aload_n hx hb dJ0_charAt_5068e_0 rfl (lv_at hl 0 rfl) ?_
  refine k_ai (wr := []) (w2 := []) (va_runV (As := []) (rest := []) ⟨hx, hb, hml, hown, hts⟩ (c_J0_isLatin1_aae02 l D g H.size i (by omega)) (cwV 0 hts gJ0_charAt_5068e_J0_isLatin1_aae02 rfl rfl rfl (by decide +kernel) (k_lvl (by omega) (by decide))) (kPVr hP hD hK hS hA hE [] rfl (by decide) (vk_recv (i := i) hE.2.2.1 (by omega) hS)) rfl rfl hl.1 rfl (lv_room (Nat.le_of_ble_eq_true rfl)) dJ0_charAt_5068e_1 ⟨Nat.le_of_ble_eq_true rfl, Nat.le_of_ble_eq_true rfl⟩) hP hD hS hA [] [] [] rfl rfl (by decide) (by decide) rfl (by decide) (fun H locs hP hD hS => ?_)
  refine lv_if_eq (tgt := 16) hx hb dJ0_charAt_5068e_4 (by decide) (fun c_1 => absurd c_1 (by decide)) (fun _ => ?_)
  refine lv_aload_n hx hb dJ0_charAt_5068e_7 rfl (lv_at hl 0 rfl) ?_
  refine vk_getf hx hb (hE.2.2.1.1 i (by omega)).2.2.1 hS hown (hts _ qJ0_charAt_5068e_0) (fun _ h9 => h9) dJ0_charAt_5068e_8 ?_
  refine lv_iload_n hx hb dJ0_charAt_5068e_11 rfl (lv_at hl 1 rfl) ?_
  refine k_ai (wr := []) (w2 := []) (va_runS (As := [.ref (g (30 + i)), .int (nI ix)]) (rest := []) ⟨hx, hb, hml, hown, hts⟩ (c_J1_charAt_3b067 l D g H.size i ix (by omega) (by omega)) (va_cwS 2 hts gJ0_charAt_5068e_J1_charAt_3b067 rfl rfl rfl (by decide +kernel) (k_lvl (by omega) (by decide))) (kPS hP hD hK hS hA hE [] rfl (by decide)) rfl rfl hl.1 rfl (lv_room (Nat.le_of_ble_eq_true rfl)) dJ0_charAt_5068e_12 ⟨Nat.le_of_ble_eq_true rfl, Nat.le_of_ble_eq_true rfl⟩) hP hD hS hA [] [] [] rfl rfl (by decide) (by decide) rfl (by decide) (fun H locs hP hD hS => ?_)
  subst hQ
  exact k_rz hx hb hr hlocks hP hD hS dJ0_charAt_5068e_15 (pk_nc _) (rfl) (rfl)
theorem qX6_size_0 : Cond.fieldLink RX6 15 "BlameChains$Text" "length" "I" ∈ wsX6_size := (List.mem_cons_of_mem _ (List.mem_append_left _ (List.mem_of_getElem? (i := 0) rfl)))
set_option maxHeartbeats 4000000 in
set_option maxRecDepth 100000 in
theorem c_X6_size (l : Launch) (D : va_G) (g : Nat → Nat) (t0 t1 : Nat) (sz : Nat) (ln : Nat) : kMi l D g yX6_size wsX6_size 1 0 0 [.ref t0] [(t0, .inr (6, [.ref t1, .int (nI ln)]))] sz (nI ln) [(t0, .inr (6, [.ref t1, .int (nI ln)]))] := by
  refine k_enter (nm := "size") (own := RX6) (bytes := cX6_size) (maxL := 1) (ret := (some .int)) (Qf := fun A => kQi D [(t0, .inr (6, [.ref t1, .int (nI ln)]))] A (nI ln)) (by decide) rfl rfl rfl (Nat.le_of_ble_eq_true rfl) ?_
  rintro pp ee s mm below meth cc A ls args Q H locs hQ ⟨hx, hb, hr, hml, hown, hts, hlocks, hin⟩ hP hK hD hA hS hE hl
  have hl : lv_has ls 1 [(0, .ref t0)] := hl
  refine lv_aload_n hx hb dX6_size_0 rfl (lv_at hl 0 rfl) ?_
  refine va_get (D := D) (ci := 6) (v := .int (nI ln)) (C := RX6) (T := TX6) (N := 2) hx hb hts (fun w h => (List.mem_cons_of_mem _ (List.mem_append_right _ h))) hown hK hP 0 rfl rfl 1 (by decide) (hts _ qX6_size_0) (fun _ h9 => h9) rfl dX6_size_1 ?_
  subst hQ
  exact k_ri hx hb hr hlocks hP hD hS dX6_size_4 (rfl) (rfl)
def f_X6_isFull (ln : Nat) : Int32 :=
  if ln < 120 then
    0
  else
    1
theorem qX6_isFull_0 : Cond.fieldLink RX6 15 "BlameChains$Text" "length" "I" ∈ wsX6_isFull := (List.mem_cons_of_mem _ (List.mem_append_left _ (List.mem_of_getElem? (i := 0) rfl)))
set_option maxHeartbeats 4000000 in
set_option maxRecDepth 100000 in
theorem c_X6_isFull (l : Launch) (D : va_G) (g : Nat → Nat) (t0 t1 : Nat) (sz : Nat) (ln : Nat) (hln : ln ≤ 120) : kMi l D g yX6_isFull wsX6_isFull 1 0 0 [.ref t0] [(t0, .inr (6, [.ref t1, .int (nI ln)]))] sz (f_X6_isFull ln) [(t0, .inr (6, [.ref t1, .int (nI ln)]))] := by
  refine k_enter (nm := "isFull") (own := RX6) (bytes := cX6_isFull) (maxL := 1) (ret := (some .boolean)) (Qf := fun A => kQi D [(t0, .inr (6, [.ref t1, .int (nI ln)]))] A (f_X6_isFull ln)) (by decide) rfl rfl rfl (Nat.le_of_ble_eq_true rfl) ?_
  rintro pp ee s mm below meth cc A ls args Q H locs hQ ⟨hx, hb, hr, hml, hown, hts, hlocks, hin⟩ hP hK hD hA hS hE hl
  have hl : lv_has ls 1 [(0, .ref t0)] := hl
  refine lv_aload_n hx hb dX6_isFull_0 rfl (lv_at hl 0 rfl) ?_
  refine va_get (D := D) (ci := 6) (v := .int (nI ln)) (C := RX6) (T := TX6) (N := 2) hx hb hts (fun w h => (List.mem_cons_of_mem _ (List.mem_append_right _ h))) hown hK hP 0 rfl rfl 1 (by decide) (hts _ qX6_isFull_0) (fun _ h9 => h9) rfl dX6_isFull_1 ?_
  refine lv_bipush (v := 120) hx hb dX6_isFull_4 (by decide) ?_
  refine lv_icmp_lt (tgt := 13) hx hb dX6_isFull_6 (by decide) (fun c_1 => ?_) (fun c_1 => ?_)
  · have c_1 : ln < 120 := (nI_ltI (a := ln) (b := 120) (by omega) (by omega)).mp c_1
    refine lv_iconst (v := 0) hx hb dX6_isFull_13 (by decide) ?_
    have hE2 : (f_X6_isFull ln) = 0 := by
      exact (if_pos c_1).trans (rfl)
    subst hQ
    exact k_rz hx hb hr hlocks hP hD hS dX6_isFull_14 (by rfl) (hE2.symm) (rfl)
  · have c_1 : ¬ (ln < 120) := fun h9 => c_1 ((nI_ltI (a := ln) (b := 120) (by omega) (by omega)).mpr h9)
    refine lv_iconst (v := 1) hx hb dX6_isFull_9 (by decide) ?_
    refine lv_goto (tgt := 14) hx hb dX6_isFull_10 (by decide) ?_
    have hE2 : (f_X6_isFull ln) = 1 := by
      exact (if_neg c_1).trans (rfl)
    subst hQ
    exact k_rz hx hb hr hlocks hP hD hS dX6_isFull_14 (by rfl) (hE2.symm) (rfl)
theorem qX6_empty_0 : Cond.fieldLink RX6 15 "BlameChains$Text" "length" "I" ∈ wsX6_empty := (List.mem_cons_of_mem _ (List.mem_append_left _ (List.mem_of_getElem? (i := 0) rfl)))
set_option maxHeartbeats 4000000 in
set_option maxRecDepth 100000 in
theorem c_X6_empty (l : Launch) (D : va_G) (g : Nat → Nat) (t0 t1 : Nat) (sz : Nat) (ln : Nat) : kMv l D g yX6_empty wsX6_empty 1 0 0 [.ref t0] [(t0, .inr (6, [.ref t1, .int (nI ln)]))] sz [(t0, .inr (6, [.ref t1, .int 0]))] := by
  refine k_enter (nm := "empty") (own := RX6) (bytes := cX6_empty) (maxL := 1) (ret := none) (Qf := fun A => kQv D [(t0, .inr (6, [.ref t1, .int 0]))] A) (by decide) rfl rfl rfl (Nat.le_of_ble_eq_true rfl) ?_
  rintro pp ee s mm below meth cc A ls args Q H locs hQ ⟨hx, hb, hr, hml, hown, hts, hlocks, hin⟩ hP hK hD hA hS hE hl
  have hl : lv_has ls 1 [(0, .ref t0)] := hl
  refine lv_aload_n hx hb dX6_empty_0 rfl (lv_at hl 0 rfl) ?_
  refine lv_iconst (v := 0) hx hb dX6_empty_1 (by decide) ?_
  refine va_put (D := D) (ci := 6) (v := .int 0) (ty := .int) (C := RX6) (T := TX6) (N := 2) hx hb hts (fun w h => (List.mem_cons_of_mem _ (List.mem_append_right _ h))) tyX6 tyX6_ok nmX6 hown hK hP hD hS 0 rfl rfl 1 (by decide) (hts _ qX6_empty_0) (fun _ h9 => h9) rfl (by decide +kernel) rfl rfl (Nat.le_of_ble_eq_true rfl) dX6_empty_2 (fun H locs hP hD hS => ?_)
  have hP : va_P D vwCl [(t0, .inr (6, [.ref t1, .int 0]))] H := hP
  have hD : va_D A [(t0, .inr (6, [.ref t1, .int 0]))] := hD
  subst hQ
  exact k_rv hx hb hr hlocks hP hD hS dX6_empty_5 (rfl)
theorem k_ch {x : Int32} (h0 : ¬ x < 0) (h : ¬ 255 < x) : (x.toUInt32 % 65536).toInt32 = x ∧ vp_nar .char x = x := by
  have h3 : ¬ (256 : Int32) ≤ x := by
    intro h9
    have h4 := Int32.le_iff_toInt_le.mp h9
    have h5 : (256 : Int32).toInt = 256 := by decide
    have h6 : (255 : Int32).toInt = 255 := by decide
    exact h (Int32.lt_iff_toInt_lt.mpr (by omega))
  obtain ⟨j, hj, e⟩ := k_nI4 (M := 256) (n := 256) (by decide) h0 h3
  subst e
  have h1 : ((nI j).toUInt32 % 65536).toInt32 = nI j := by
    rw [pk_char, pk_tn (by omega), Nat.mod_eq_of_lt (by omega)]
  refine ⟨h1, ?_⟩
  have h2 : vp_nar .char (nI j) = ((nI j).toUInt32 % 65536).toInt32 := by
    rw [vp_nar_char]
    congr 1
  rw [h2, h1]
theorem qX6_put_0 : Cond.fieldLink RX6 11 "BlameChains$Text" "signs" "[C" ∈ wsX6_put := (List.mem_cons_of_mem _ (List.mem_append_left _ (List.mem_of_getElem? (i := 0) rfl)))
theorem qX6_put_1 : Cond.fieldLink RX6 15 "BlameChains$Text" "length" "I" ∈ wsX6_put := (List.mem_cons_of_mem _ (List.mem_append_left _ (List.mem_of_getElem? (i := 1) rfl)))
set_option maxHeartbeats 4000000 in
set_option maxRecDepth 100000 in
theorem c_X6_put (l : Launch) (D : va_G) (g : Nat → Nat) (t0 t1 : Nat) (sz : Nat) (ln : Nat) (sg : Nat → Int32) (code : Int32) (h0 : ¬ code < 0) (h2 : ¬ 255 < code) (hln : ln < 120) : kMv l D g yX6_put wsX6_put 2 0 0 [.ref t0, .int code] [(t0, .inr (6, [.ref t1, .int (nI ln)])), (t1, .inl (g 1, 120, .inl sg))] sz [(t0, .inr (6, [.ref t1, .int (nI (ln + 1))])), (t1, .inl (g 1, 120, .inl (upd sg ln code)))] := by
  refine k_enter (nm := "put") (own := RX6) (bytes := cX6_put) (maxL := 2) (ret := none) (Qf := fun A => kQv D [(t0, .inr (6, [.ref t1, .int (nI (ln + 1))])), (t1, .inl (g 1, 120, .inl (upd sg ln code)))] A) (by decide) rfl rfl rfl (Nat.le_of_ble_eq_true rfl) ?_
  rintro pp ee s mm below meth cc A ls args Q H locs hQ ⟨hx, hb, hr, hml, hown, hts, hlocks, hin⟩ hP hK hD hA hS hE hl
  have hl : lv_has ls 2 [(0, .ref t0), (1, .int code)] := hl
  refine lv_aload_n hx hb dX6_put_0 rfl (lv_at hl 0 rfl) ?_
  refine k_ai (wr := [(t1, .inl (g 1, 120, .inl sg))]) (w2 := [(t0, .inr (6, [.ref t1, .int (nI ln)])), (t1, .inl (g 1, 120, .inl sg))]) (va_runV (As := []) (rest := []) ⟨hx, hb, hml, hown, hts⟩ (c_X6_isFull l D g t0 t1 H.size ln (by omega)) (cwV 0 hts gX6_put_X6_isFull rfl rfl rfl (by decide +kernel) (k_lvl (by omega) (by decide))) (kPV hP hD hK hS hA hE [0] rfl (by decide) 0 6 rfl rfl rfl) rfl rfl hl.1 rfl (lv_room (Nat.le_of_ble_eq_true rfl)) dX6_put_1 ⟨Nat.le_of_ble_eq_true rfl, Nat.le_of_ble_eq_true rfl⟩) hP hD hS hA [0] [1] [1, 0] rfl rfl (by decide) (by decide) rfl (by decide) (fun H locs hP hD hS => ?_)
  refine k_top (y := 0) (by unfold f_X6_isFull; first | rw [if_pos (by omega)] | rw [if_neg (by omega)]) ?_
  refine lv_if_ne (tgt := 28) hx hb dX6_put_4 (by decide) (fun c_1 => absurd c_1 (by decide)) (fun _ => ?_)
  refine lv_aload_n hx hb dX6_put_7 rfl (lv_at hl 0 rfl) ?_
  refine va_get (D := D) (ci := 6) (v := .ref t1) (C := RX6) (T := TX6) (N := 2) hx hb hts (fun w h => (List.mem_cons_of_mem _ (List.mem_append_right _ h))) hown hK hP 0 rfl rfl 0 (by decide) (hts _ qX6_put_0) (fun _ h9 => h9) rfl dX6_put_8 ?_
  refine lv_aload_n hx hb dX6_put_11 rfl (lv_at hl 0 rfl) ?_
  refine va_get (D := D) (ci := 6) (v := .int (nI ln)) (C := RX6) (T := TX6) (N := 2) hx hb hts (fun w h => (List.mem_cons_of_mem _ (List.mem_append_right _ h))) hown hK hP 0 rfl rfl 1 (by decide) (hts _ qX6_put_1) (fun _ h9 => h9) rfl dX6_put_12 ?_
  refine lv_iload_n hx hb dX6_put_15 rfl (lv_at hl 1 rfl) ?_
  refine lv_i2c (v := (Int32.toUInt32 code % 65536).toInt32) hx hb dX6_put_16 rfl ?_
  refine k_top (y := code) ((k_ch h0 h2).1) ?_
  refine va_cast (i := (nI ln)) (x := code) hx hb hK hP hD hS 1 1 rfl rfl (vp_in_nI (n := ln) (by omega) (by omega)) dX6_put_17 (fun H locs hP hD hS => ?_)
  rw [nI_clamp (n := ln) (by omega)] at hP hD
  rw [show vp_nar .char code = code from (k_ch h0 h2).2] at hP hD
  have hP : va_P D vwCl [(t0, .inr (6, [.ref t1, .int (nI ln)])), (t1, .inl (g 1, 120, .inl (upd sg ln code)))] H := hP
  have hD : va_D A [(t0, .inr (6, [.ref t1, .int (nI ln)])), (t1, .inl (g 1, 120, .inl (upd sg ln code)))] := hD
  refine lv_aload_n hx hb dX6_put_18 rfl (lv_at hl 0 rfl) ?_
  refine lv_dup hx hb dX6_put_19 rfl ?_
  refine va_get (D := D) (ci := 6) (v := .int (nI ln)) (C := RX6) (T := TX6) (N := 2) hx hb hts (fun w h => (List.mem_cons_of_mem _ (List.mem_append_right _ h))) hown hK hP 0 rfl rfl 1 (by decide) (hts _ qX6_put_1) (fun _ h9 => h9) rfl dX6_put_20 ?_
  refine lv_iconst (v := 1) hx hb dX6_put_23 (by decide) ?_
  refine lv_iadd hx hb dX6_put_24 ?_
  refine k_top (y := (nI (ln + 1))) (nI_add ln 1) ?_
  refine va_put (D := D) (ci := 6) (v := .int (nI (ln + 1))) (ty := .int) (C := RX6) (T := TX6) (N := 2) hx hb hts (fun w h => (List.mem_cons_of_mem _ (List.mem_append_right _ h))) tyX6 tyX6_ok nmX6 hown hK hP hD hS 0 rfl rfl 1 (by decide) (hts _ qX6_put_1) (fun _ h9 => h9) rfl (by decide +kernel) rfl rfl (Nat.le_of_ble_eq_true rfl) dX6_put_25 (fun H locs hP hD hS => ?_)
  have hP : va_P D vwCl [(t0, .inr (6, [.ref t1, .int (nI (ln + 1))])), (t1, .inl (g 1, 120, .inl (upd sg ln code)))] H := hP
  have hD : va_D A [(t0, .inr (6, [.ref t1, .int (nI (ln + 1))])), (t1, .inl (g 1, 120, .inl (upd sg ln code)))] := hD
  subst hQ
  exact k_rv hx hb hr hlocks hP hD hS dX6_put_28 (rfl)
def f_X6_codeAt (ln : Nat) (sg : Nat → Int32) (ax : Nat) : Int32 :=
  if ln ≤ ax then
    (-1)
  else
    (sg ax)
theorem qX6_codeAt_0 : Cond.fieldLink RX6 15 "BlameChains$Text" "length" "I" ∈ wsX6_codeAt := (List.mem_cons_of_mem _ (List.mem_append_left _ (List.mem_of_getElem? (i := 0) rfl)))
theorem qX6_codeAt_1 : Cond.fieldLink RX6 11 "BlameChains$Text" "signs" "[C" ∈ wsX6_codeAt := (List.mem_cons_of_mem _ (List.mem_append_left _ (List.mem_of_getElem? (i := 1) rfl)))
set_option maxHeartbeats 4000000 in
set_option maxRecDepth 100000 in
theorem c_X6_codeAt (l : Launch) (D : va_G) (g : Nat → Nat) (t0 t1 : Nat) (sz : Nat) (ln : Nat) (sg : Nat → Int32) (ax : Nat) (hln : ln ≤ 120) (hat : ax ≤ 1000) : kMi l D g yX6_codeAt wsX6_codeAt 1 0 0 [.ref t0, .int (nI ax)] [(t0, .inr (6, [.ref t1, .int (nI ln)])), (t1, .inl (g 1, 120, .inl sg))] sz (f_X6_codeAt ln sg ax) [(t0, .inr (6, [.ref t1, .int (nI ln)])), (t1, .inl (g 1, 120, .inl sg))] := by
  refine k_enter (nm := "codeAt") (own := RX6) (bytes := cX6_codeAt) (maxL := 2) (ret := (some .int)) (Qf := fun A => kQi D [(t0, .inr (6, [.ref t1, .int (nI ln)])), (t1, .inl (g 1, 120, .inl sg))] A (f_X6_codeAt ln sg ax)) (by decide) rfl rfl rfl (Nat.le_of_ble_eq_true rfl) ?_
  rintro pp ee s mm below meth cc A ls args Q H locs hQ ⟨hx, hb, hr, hml, hown, hts, hlocks, hin⟩ hP hK hD hA hS hE hl
  have hl : lv_has ls 2 [(0, .ref t0), (1, .int (nI ax))] := hl
  refine lv_iload_n hx hb dX6_codeAt_0 rfl (lv_at hl 1 rfl) ?_
  refine lv_if_lt (tgt := 21) hx hb dX6_codeAt_1 (by decide) (fun c_1 => ?_) (fun c_1 => ?_)
  · have c_1 : ax < 0 := (nI_ltI (a := ax) (b := 0) (by omega) (by omega)).mp c_1
    exfalso; omega
  · have c_1 : ¬ (ax < 0) := fun h9 => c_1 ((nI_ltI (a := ax) (b := 0) (by omega) (by omega)).mpr h9)
    refine lv_iload_n hx hb dX6_codeAt_4 rfl (lv_at hl 1 rfl) ?_
    refine lv_aload_n hx hb dX6_codeAt_5 rfl (lv_at hl 0 rfl) ?_
    refine va_get (D := D) (ci := 6) (v := .int (nI ln)) (C := RX6) (T := TX6) (N := 2) hx hb hts (fun w h => (List.mem_cons_of_mem _ (List.mem_append_right _ h))) hown hK hP 0 rfl rfl 1 (by decide) (hts _ qX6_codeAt_0) (fun _ h9 => h9) rfl dX6_codeAt_6 ?_
    refine lv_icmp_ge (tgt := 21) hx hb dX6_codeAt_9 (by decide) (fun c_2 => ?_) (fun c_2 => ?_)
    · have c_2 : ln ≤ ax := (nI_leI (a := ln) (b := ax) (by omega) (by omega)).mp c_2
      refine lv_iconst (v := (-1)) hx hb dX6_codeAt_21 (by decide) ?_
      have hE2 : (f_X6_codeAt ln sg ax) = (-1) := by
        exact (if_pos c_2).trans (rfl)
      subst hQ
      exact k_ri hx hb hr hlocks hP hD hS dX6_codeAt_22 (hE2.symm) (rfl)
    · have c_2 : ¬ (ln ≤ ax) := fun h9 => c_2 ((nI_leI (a := ln) (b := ax) (by omega) (by omega)).mpr h9)
      refine lv_aload_n hx hb dX6_codeAt_12 rfl (lv_at hl 0 rfl) ?_
      refine va_get (D := D) (ci := 6) (v := .ref t1) (C := RX6) (T := TX6) (N := 2) hx hb hts (fun w h => (List.mem_cons_of_mem _ (List.mem_append_right _ h))) hown hK hP 0 rfl rfl 0 (by decide) (hts _ qX6_codeAt_1) (fun _ h9 => h9) rfl dX6_codeAt_13 ?_
      refine lv_iload_n hx hb dX6_codeAt_16 rfl (lv_at hl 1 rfl) ?_
      refine va_cald (i := (nI ax)) hx hb hK hP 1 1 rfl rfl (vp_in_nI (n := ax) (by omega) (by omega)) dX6_codeAt_17 ?_
      refine k_top (y := (sg ax)) (by rw [nI_clamp (by omega)]) ?_
      refine lv_goto (tgt := 22) hx hb dX6_codeAt_18 (by decide) ?_
      have hE2 : (f_X6_codeAt ln sg ax) = (sg ax) := by
        exact (if_neg c_2).trans (rfl)
      subst hQ
      exact k_ri hx hb hr hlocks hP hD hS dX6_codeAt_22 (hE2.symm) (rfl)
def f_X6_fits (code : Int32) (shape : Int32) : Int32 :=
  if shape = 48 then
    if code = 48 then
      1
    else
      0
  else
    if shape = 115 then
      if code = 43 then
        1
      else
        if code = 45 then
          1
        else
          0
    else
      if code < 48 then
        0
      else
        if 57 < code then
          0
        else
          1
set_option maxHeartbeats 4000000 in
set_option maxRecDepth 100000 in
theorem c_X6_fits (l : Launch) (D : va_G) (g : Nat → Nat) (sz : Nat) (code : Int32) (shape : Int32) : kMi l D g yX6_fits wsX6_fits 1 0 0 [.int code, .int shape] [] sz (f_X6_fits code shape) [] := by
  refine k_enter (nm := "fits") (own := RX6) (bytes := cX6_fits) (maxL := 2) (ret := (some .boolean)) (Qf := fun A => kQi D [] A (f_X6_fits code shape)) (by decide) rfl rfl rfl (Nat.le_of_ble_eq_true rfl) ?_
  rintro pp ee s mm below meth cc A ls args Q H locs hQ ⟨hx, hb, hr, hml, hown, hts, hlocks, hin⟩ hP hK hD hA hS hE hl
  have hl : lv_has ls 2 [(0, .int code), (1, .int shape)] := hl
  refine lv_iload_n hx hb dX6_fits_0 rfl (lv_at hl 1 rfl) ?_
  by_cases c_1 : shape = 48
  · refine k_lookIn (v := 48) (off := (45)) (tgt := 46) hx hb dX6_fits_1 c_1 (by decide) (by decide) (by decide) ?_
    refine lv_iload_n hx hb dX6_fits_46 rfl (lv_at hl 0 rfl) ?_
    refine lv_bipush (v := 48) hx hb dX6_fits_47 (by decide) ?_
    refine lv_icmp_ne (tgt := 56) hx hb dX6_fits_49 (by decide) (fun c_2 => ?_) (fun c_2 => ?_)
    · refine lv_iconst (v := 0) hx hb dX6_fits_56 (by decide) ?_
      have hE2 : (f_X6_fits code shape) = 0 := by
        exact (if_pos c_1).trans ((if_neg c_2).trans (rfl))
      subst hQ
      exact k_rz hx hb hr hlocks hP hD hS dX6_fits_57 (by rfl) (hE2.symm) (rfl)
    · refine lv_iconst (v := 1) hx hb dX6_fits_52 (by decide) ?_
      refine lv_goto (tgt := 57) hx hb dX6_fits_53 (by decide) ?_
      have hE2 : (f_X6_fits code shape) = 1 := by
        exact (if_pos c_1).trans ((if_pos c_2).trans (rfl))
      subst hQ
      exact k_rz hx hb hr hlocks hP hD hS dX6_fits_57 (by rfl) (hE2.symm) (rfl)
  by_cases c_3 : shape = 115
  · refine k_lookIn (v := 115) (off := (27)) (tgt := 28) hx hb dX6_fits_1 c_3 (by decide) (by decide) (by decide) ?_
    refine lv_iload_n hx hb dX6_fits_28 rfl (lv_at hl 0 rfl) ?_
    refine lv_bipush (v := 43) hx hb dX6_fits_29 (by decide) ?_
    refine lv_icmp_eq (tgt := 40) hx hb dX6_fits_31 (by decide) (fun c_4 => ?_) (fun c_4 => ?_)
    · refine lv_iconst (v := 1) hx hb dX6_fits_40 (by decide) ?_
      refine lv_goto (tgt := 45) hx hb dX6_fits_41 (by decide) ?_
      have hE2 : (f_X6_fits code shape) = 1 := by
        exact (if_neg c_1).trans ((if_pos c_3).trans ((if_pos c_4).trans (rfl)))
      subst hQ
      exact k_rz hx hb hr hlocks hP hD hS dX6_fits_45 (by rfl) (hE2.symm) (rfl)
    · refine lv_iload_n hx hb dX6_fits_34 rfl (lv_at hl 0 rfl) ?_
      refine lv_bipush (v := 45) hx hb dX6_fits_35 (by decide) ?_
      refine lv_icmp_ne (tgt := 44) hx hb dX6_fits_37 (by decide) (fun c_5 => ?_) (fun c_5 => ?_)
      · refine lv_iconst (v := 0) hx hb dX6_fits_44 (by decide) ?_
        have hE2 : (f_X6_fits code shape) = 0 := by
          exact (if_neg c_1).trans ((if_pos c_3).trans ((if_neg c_4).trans ((if_neg c_5).trans (rfl))))
        subst hQ
        exact k_rz hx hb hr hlocks hP hD hS dX6_fits_45 (by rfl) (hE2.symm) (rfl)
      · refine lv_iconst (v := 1) hx hb dX6_fits_40 (by decide) ?_
        refine lv_goto (tgt := 45) hx hb dX6_fits_41 (by decide) ?_
        have hE2 : (f_X6_fits code shape) = 1 := by
          exact (if_neg c_1).trans ((if_pos c_3).trans ((if_neg c_4).trans ((if_pos c_5).trans (rfl))))
        subst hQ
        exact k_rz hx hb hr hlocks hP hD hS dX6_fits_45 (by rfl) (hE2.symm) (rfl)
  refine lv_lookup (off := (57)) (tgt := 58) hx hb dX6_fits_1 (by decide) (by rw [lv_osw c_1 (by decide), lv_osw c_3 (by decide)]; rfl) (by decide) ?_
  refine lv_iload_n hx hb dX6_fits_58 rfl (lv_at hl 0 rfl) ?_
  refine lv_bipush (v := 48) hx hb dX6_fits_59 (by decide) ?_
  refine lv_icmp_lt (tgt := 74) hx hb dX6_fits_61 (by decide) (fun c_6 => ?_) (fun c_6 => ?_)
  · refine lv_iconst (v := 0) hx hb dX6_fits_74 (by decide) ?_
    have hE2 : (f_X6_fits code shape) = 0 := by
      exact (if_neg c_1).trans ((if_neg c_3).trans ((if_pos c_6).trans (rfl)))
    subst hQ
    exact k_rz hx hb hr hlocks hP hD hS dX6_fits_75 (by rfl) (hE2.symm) (rfl)
  · refine lv_iload_n hx hb dX6_fits_64 rfl (lv_at hl 0 rfl) ?_
    refine lv_bipush (v := 57) hx hb dX6_fits_65 (by decide) ?_
    refine lv_icmp_gt (tgt := 74) hx hb dX6_fits_67 (by decide) (fun c_7 => ?_) (fun c_7 => ?_)
    · refine lv_iconst (v := 0) hx hb dX6_fits_74 (by decide) ?_
      have hE2 : (f_X6_fits code shape) = 0 := by
        exact (if_neg c_1).trans ((if_neg c_3).trans ((if_neg c_6).trans ((if_pos c_7).trans (rfl))))
      subst hQ
      exact k_rz hx hb hr hlocks hP hD hS dX6_fits_75 (by rfl) (hE2.symm) (rfl)
    · refine lv_iconst (v := 1) hx hb dX6_fits_70 (by decide) ?_
      refine lv_goto (tgt := 75) hx hb dX6_fits_71 (by decide) ?_
      have hE2 : (f_X6_fits code shape) = 1 := by
        exact (if_neg c_1).trans ((if_neg c_3).trans ((if_neg c_6).trans ((if_neg c_7).trans (rfl))))
      subst hQ
      exact k_rz hx hb hr hlocks hP hD hS dX6_fits_75 (by rfl) (hE2.symm) (rfl)
def fShape (x : Int32) : Nat := if x = 107 then 8 else if x = 110 then 5 else if x = 111 then 7 else if x = 115 then 6 else if x = 120 then 9 else 10
theorem fShape_lt (x : Int32) : fShape x < 11 := by
  unfold fShape
  repeat (first | omega | split)
set_option maxHeartbeats 4000000 in
set_option maxRecDepth 100000 in
theorem c_X6_shapeAfter (l : Launch) (D : va_G) (g : Nat → Nat) (sz : Nat) (x : Int32) : kMr l D g yX6_shapeAfter wsX6_shapeAfter 1 0 0 [.int x] [] sz (g (10 + fShape x)) [] := by
  refine k_enter (nm := "shapeAfter") (own := RX6) (bytes := cX6_shapeAfter) (maxL := 1) (ret := (some (.object "java/lang/String"))) (Qf := fun A => kQr D [] A (g (10 + fShape x))) (by decide) rfl rfl rfl (Nat.le_of_ble_eq_true rfl) ?_
  rintro pp ee s mm below meth cc A ls args Q H locs hQ ⟨hx, hb, hr, hml, hown, hts, hlocks, hin⟩ hP hK hD hA hS hE hl
  have hl : lv_has ls 1 [(0, .int x)] := hl
  refine lv_iload_n hx hb dX6_shapeAfter_0 rfl (lv_at hl 0 rfl) ?_
  by_cases c_1 : x = 107
  · refine k_tabIn (v := 107) (off := 80) (tgt := 81) hx hb dX6_shapeAfter_1 c_1 (by decide) (by decide) rfl (by decide) ?_
    refine va_ldcS hx hb (q := g 18) (tx := kSL[8].2.2) hown (hE.2.1 8 _ rfl) dX6_shapeAfter_81 ?_
    subst hQ
    exact k_rr hx hb hr hlocks hP hD hS dX6_shapeAfter_83 (Or.inl ⟨_, rfl⟩) (by unfold fShape; rw [if_pos c_1]) (rfl)
  by_cases c_2 : x = 110
  · refine k_tabIn (v := 110) (off := 71) (tgt := 72) hx hb dX6_shapeAfter_1 c_2 (by decide) (by decide) rfl (by decide) ?_
    refine va_ldcS hx hb (q := g 15) (tx := kSL[5].2.2) hown (hE.2.1 5 _ rfl) dX6_shapeAfter_72 ?_
    subst hQ
    exact k_rr hx hb hr hlocks hP hD hS dX6_shapeAfter_74 (Or.inl ⟨_, rfl⟩) (by unfold fShape; rw [if_neg c_1, if_pos c_2]) (rfl)
  by_cases c_3 : x = 111
  · refine k_tabIn (v := 111) (off := 77) (tgt := 78) hx hb dX6_shapeAfter_1 c_3 (by decide) (by decide) rfl (by decide) ?_
    refine va_ldcS hx hb (q := g 17) (tx := kSL[7].2.2) hown (hE.2.1 7 _ rfl) dX6_shapeAfter_78 ?_
    subst hQ
    exact k_rr hx hb hr hlocks hP hD hS dX6_shapeAfter_80 (Or.inl ⟨_, rfl⟩) (by unfold fShape; rw [if_neg c_1, if_neg c_2, if_pos c_3]) (rfl)
  by_cases c_4 : x = 115
  · refine k_tabIn (v := 115) (off := 74) (tgt := 75) hx hb dX6_shapeAfter_1 c_4 (by decide) (by decide) rfl (by decide) ?_
    refine va_ldcS hx hb (q := g 16) (tx := kSL[6].2.2) hown (hE.2.1 6 _ rfl) dX6_shapeAfter_75 ?_
    subst hQ
    exact k_rr hx hb hr hlocks hP hD hS dX6_shapeAfter_77 (Or.inl ⟨_, rfl⟩) (by unfold fShape; rw [if_neg c_1, if_neg c_2, if_neg c_3, if_pos c_4]) (rfl)
  by_cases c_5 : x = 120
  · refine k_tabIn (v := 120) (off := 83) (tgt := 84) hx hb dX6_shapeAfter_1 c_5 (by decide) (by decide) rfl (by decide) ?_
    refine va_ldcS hx hb (q := g 19) (tx := kSL[9].2.2) hown (hE.2.1 9 _ rfl) dX6_shapeAfter_84 ?_
    subst hQ
    exact k_rr hx hb hr hlocks hP hD hS dX6_shapeAfter_86 (Or.inl ⟨_, rfl⟩) (by unfold fShape; rw [if_neg c_1, if_neg c_2, if_neg c_3, if_neg c_4, if_pos c_5]) (rfl)
  refine k_tabDef (tgt := 87) hx hb dX6_shapeAfter_1 ?_ (by decide) ?_
  · intro v h1 h2 q
    rcases k_rng h1 with h3 | h1
    · subst h3; exact (c_1 (k_ti (by decide) q)).elim
    rcases k_rng h1 with h3 | h1
    · subst h3; rfl
    rcases k_rng h1 with h3 | h1
    · subst h3; rfl
    rcases k_rng h1 with h3 | h1
    · subst h3; exact (c_2 (k_ti (by decide) q)).elim
    rcases k_rng h1 with h3 | h1
    · subst h3; exact (c_3 (k_ti (by decide) q)).elim
    rcases k_rng h1 with h3 | h1
    · subst h3; rfl
    rcases k_rng h1 with h3 | h1
    · subst h3; rfl
    rcases k_rng h1 with h3 | h1
    · subst h3; rfl
    rcases k_rng h1 with h3 | h1
    · subst h3; exact (c_4 (k_ti (by decide) q)).elim
    rcases k_rng h1 with h3 | h1
    · subst h3; rfl
    rcases k_rng h1 with h3 | h1
    · subst h3; rfl
    rcases k_rng h1 with h3 | h1
    · subst h3; rfl
    rcases k_rng h1 with h3 | h1
    · subst h3; rfl
    rcases k_rng h1 with h3 | h1
    · subst h3; exact (c_5 (k_ti (by decide) q)).elim
    exfalso; omega
  refine va_ldcS hx hb (q := g 20) (tx := kSL[10].2.2) hown (hE.2.1 10 _ rfl) dX6_shapeAfter_87 ?_
  subst hQ
  exact k_rr hx hb hr hlocks hP hD hS dX6_shapeAfter_89 (Or.inl ⟨_, rfl⟩) (by unfold fShape; rw [if_neg c_1, if_neg c_2, if_neg c_3, if_neg c_4, if_neg c_5]) (rfl)
/-- the signs behind a command's letter: the place of the first one that does not fit -/
def feIn (ln : Nat) (sg : Nat → Int32) (sh : Nat) : Nat → Nat → Nat → Option Nat
  | 0, _, _ => none
  | f + 1, k, b => if f_X6_fits (f_X6_codeAt ln sg b) (kCh sh k) = 0 then some b else feIn ln sg sh f (k + 1) (b + 1)
/-- the commands from a place on: the first place that is not allowed -/
def feOut (ln : Nat) (sg : Nat → Int32) : Nat → Nat → Int32
  | 0, _ => -10000
  | f + 1, a => if a < ln then (if f_J0_isEmpty_aae02 (fShape (f_X6_codeAt ln sg a)) = 0 then (match feIn ln sg (fShape (f_X6_codeAt ln sg a)) (kLen.getD (fShape (f_X6_codeAt ln sg a)) 0) 0 (a + 1) with
      | some e => nI e
      | none => feOut ln sg f (a + 1 + kLen.getD (fShape (f_X6_codeAt ln sg a)) 0)) else nI a) else -10000
theorem feOut_out {ln : Nat} {sg : Nat → Int32} {fu a : Nat} (h : ¬ a < ln) : feOut ln sg fu a = -10000 := by
  cases fu with
  | zero => rfl
  | succ f => rw [feOut, if_neg h]
theorem feOut_emp {ln : Nat} {sg : Nat → Int32} {fu a : Nat} (h : a < ln) (hf : ln < a + fu) (he : ¬ f_J0_isEmpty_aae02 (fShape (f_X6_codeAt ln sg a)) = 0) : feOut ln sg fu a = nI a := by
  obtain ⟨f, rfl⟩ : ∃ f, fu = f + 1 := ⟨fu - 1, by omega⟩
  rw [feOut, if_pos h, if_neg he]
theorem feOut_err {ln : Nat} {sg : Nat → Int32} {fu a e : Nat} (h : a < ln) (hf : ln < a + fu) (he : f_J0_isEmpty_aae02 (fShape (f_X6_codeAt ln sg a)) = 0) (hi : feIn ln sg (fShape (f_X6_codeAt ln sg a)) (kLen.getD (fShape (f_X6_codeAt ln sg a)) 0) 0 (a + 1) = some e) : feOut ln sg fu a = nI e := by
  obtain ⟨f, rfl⟩ : ∃ f, fu = f + 1 := ⟨fu - 1, by omega⟩
  rw [feOut, if_pos h, if_pos he, hi]
theorem feOut_go {ln : Nat} {sg : Nat → Int32} {fu a b : Nat} (h : a < ln) (hf : ln < a + fu) (he : f_J0_isEmpty_aae02 (fShape (f_X6_codeAt ln sg a)) = 0) (hi : feIn ln sg (fShape (f_X6_codeAt ln sg a)) (kLen.getD (fShape (f_X6_codeAt ln sg a)) 0) 0 (a + 1) = none) (hb : b = a + 1 + kLen.getD (fShape (f_X6_codeAt ln sg a)) 0) : feOut ln sg (fu - 1) b = feOut ln sg fu a := by
  obtain ⟨f, rfl⟩ : ∃ f, fu = f + 1 := ⟨fu - 1, by omega⟩
  rw [feOut, if_pos h, if_pos he, hi, hb]
  rfl
theorem feIn_err {ln : Nat} {sg : Nat → Int32} {sh len k b : Nat} (h : ¬ len ≤ k) (hc : f_X6_fits (f_X6_codeAt ln sg b) (kCh sh k) = 0) : feIn ln sg sh (len - k) k b = some b := by
  obtain ⟨f, e⟩ : ∃ f, len - k = f + 1 := ⟨len - k - 1, by omega⟩
  rw [e, feIn, if_pos hc]
theorem feIn_step {ln : Nat} {sg : Nat → Int32} {sh len k b : Nat} (h : ¬ len ≤ k) (hc : ¬ f_X6_fits (f_X6_codeAt ln sg b) (kCh sh k) = 0) : feIn ln sg sh (len - (k + 1)) (k + 1) (b + 1) = feIn ln sg sh (len - k) k b := by
  obtain ⟨f, e⟩ : ∃ f, len - k = f + 1 := ⟨len - k - 1, by omega⟩
  rw [e, feIn, if_neg hc, show len - (k + 1) = f by omega]
theorem feIn_end {ln : Nat} {sg : Nat → Int32} {sh len k b : Nat} (h : len ≤ k) : feIn ln sg sh (len - k) k b = none := by
  rw [show len - k = 0 by omega, feIn]
theorem qX6_firstError_0 : Cond.fieldLink RX6 15 "BlameChains$Text" "length" "I" ∈ wsX6_firstError := (List.mem_cons_of_mem _ (List.mem_append_left _ (List.mem_append_left _ (List.mem_of_getElem? (i := 0) rfl))))
set_option maxHeartbeats 4000000 in
set_option maxRecDepth 100000 in
theorem c_X6_firstError (l : Launch) (D : va_G) (g : Nat → Nat) (t0 t1 : Nat) (sz : Nat) (ln : Nat) (sg : Nat → Int32) (hln : ln ≤ 120) : kMi l D g yX6_firstError wsX6_firstError 6 0 0 [.ref t0] [(t0, .inr (6, [.ref t1, .int (nI ln)])), (t1, .inl (g 1, 120, .inl sg))] sz (if f_X6_codeAt ln sg 0 = 67 then feOut ln sg ln 1 else 0) [(t0, .inr (6, [.ref t1, .int (nI ln)])), (t1, .inl (g 1, 120, .inl sg))] := by
  refine k_enter (nm := "firstError") (own := RX6) (bytes := cX6_firstError) (maxL := 4) (ret := (some .int)) (Qf := fun A => kQi D [(t0, .inr (6, [.ref t1, .int (nI ln)])), (t1, .inl (g 1, 120, .inl sg))] A (if f_X6_codeAt ln sg 0 = 67 then feOut ln sg ln 1 else 0)) (by decide) rfl rfl rfl (Nat.le_of_ble_eq_true rfl) ?_
  rintro pp ee s mm below meth cc A ls args Q H locs hQ ⟨hx, hb, hr, hml, hown, hts, hlocks, hin⟩ hP hK hD hA hS hE hl
  have hl : lv_has ls 4 [(0, .ref t0)] := hl
  refine lv_aload_n hx hb dX6_firstError_0 rfl (lv_at hl 0 rfl) ?_
  refine lv_iconst (v := 0) hx hb dX6_firstError_1 (by decide) ?_
  refine k_ai (wr := []) (w2 := [(t0, .inr (6, [.ref t1, .int (nI ln)])), (t1, .inl (g 1, 120, .inl sg))]) (va_runV (As := [.int 0]) (rest := []) ⟨hx, hb, hml, hown, hts⟩ (c_X6_codeAt l D g t0 t1 H.size ln sg 0 (by omega) (by omega)) (cwV 1 hts gX6_firstError_X6_codeAt rfl rfl rfl (by decide +kernel) (k_lvl (by omega) (by decide))) (kPV hP hD hK hS hA hE [0, 1] rfl (by decide) 0 6 rfl rfl rfl) rfl rfl hl.1 rfl (lv_room (Nat.le_of_ble_eq_true rfl)) dX6_firstError_2 ⟨Nat.le_of_ble_eq_true rfl, Nat.le_of_ble_eq_true rfl⟩) hP hD hS hA [0, 1] [] [0, 1] rfl rfl (by decide) (by decide) rfl (by decide) (fun H locs hP hD hS => ?_)
  refine lv_bipush (v := 67) hx hb dX6_firstError_5 (by decide) ?_
  refine lv_icmp_eq (tgt := 12) hx hb dX6_firstError_7 (by decide) (fun c_1 => ?_) (fun c_1 => ?_)
  · refine lv_iconst (v := 1) hx hb dX6_firstError_12 (by decide) ?_
    refine lv_istore_n (lv' := [(1, .int 1), (0, .ref t0)]) hx hb dX6_firstError_13 rfl hl (by decide) rfl (fun ls hl => ?_)
    have hloop_14 : ∀ (nn_14 : Nat) (fu : Nat) (a : Nat), fu < nn_14 → ∀ (hf : ln < a + fu) (ha : a ≤ 200) (hr9 : feOut ln sg fu a = (if f_X6_codeAt ln sg 0 = 67 then feOut ln sg ln 1 else 0)) (H : Heap) (locs : List Loc) (ls : Array Slot), va_P D vwCl [(t0, .inr (6, [.ref t1, .int (nI ln)])), (t1, .inl (g 1, 120, .inl sg))] H → va_D A [(t0, .inr (6, [.ref t1, .int (nI ln)])), (t1, .inl (g 1, 120, .inl sg))] → va_S A s.heap H locs → lv_has ls 4 [(1, .int (nI a)), (0, .ref t0)] → W pp l ee (kR 6 0 0) s mm args below meth cc H locs 0 0 Q (F0 mm 14 ls []) := by
      intro nn_14
      induction nn_14 with
      | zero => intro fu a hm9; exact absurd hm9 (Nat.not_lt_zero _)
      | succ nn_14 ih_14 =>
        intro fu a hm_14 hf ha hr9 H locs ls hP hD hS hl
        refine lv_iload_n hx hb dX6_firstError_14 rfl (lv_at hl 0 rfl) ?_
        refine lv_aload_n hx hb dX6_firstError_15 rfl (lv_at hl 1 rfl) ?_
        refine va_get (D := D) (ci := 6) (v := .int (nI ln)) (C := RX6) (T := TX6) (N := 2) hx hb hts (fun w h => (List.mem_cons_of_mem _ (List.mem_append_right _ h))) hown hK hP 0 rfl rfl 1 (by decide) (hts _ qX6_firstError_0) (fun _ h9 => h9) rfl dX6_firstError_16 ?_
        refine lv_icmp_ge (tgt := 83) hx hb dX6_firstError_19 (by decide) (fun c_2 => ?_) (fun c_2 => ?_)
        · have c_2 : ln ≤ a := (nI_leI (a := ln) (b := a) (by omega) (by omega)).mp c_2
          refine lv_sipush (v := (-10000)) hx hb dX6_firstError_83 (by decide) ?_
          subst hQ
          exact k_ri hx hb hr hlocks hP hD hS dX6_firstError_86 (by rw [← hr9, feOut_out (show ¬ a < ln by omega)]) (rfl)
        · have c_2 : ¬ (ln ≤ a) := fun h9 => c_2 ((nI_leI (a := ln) (b := a) (by omega) (by omega)).mpr h9)
          refine lv_aload_n hx hb dX6_firstError_22 rfl (lv_at hl 1 rfl) ?_
          refine lv_iload_n hx hb dX6_firstError_23 rfl (lv_at hl 0 rfl) ?_
          refine k_ai (wr := []) (w2 := [(t0, .inr (6, [.ref t1, .int (nI ln)])), (t1, .inl (g 1, 120, .inl sg))]) (va_runV (As := [.int (nI a)]) (rest := []) ⟨hx, hb, hml, hown, hts⟩ (c_X6_codeAt l D g t0 t1 H.size ln sg a (by omega) (by omega)) (cwV 1 hts gX6_firstError_X6_codeAt rfl rfl rfl (by decide +kernel) (k_lvl (by omega) (by decide))) (kPV hP hD hK hS hA hE [0, 1] rfl (by decide) 0 6 rfl rfl rfl) rfl rfl hl.1 rfl (lv_room (Nat.le_of_ble_eq_true rfl)) dX6_firstError_24 ⟨Nat.le_of_ble_eq_true rfl, Nat.le_of_ble_eq_true rfl⟩) hP hD hS hA [0, 1] [] [0, 1] rfl rfl (by decide) (by decide) rfl (by decide) (fun H locs hP hD hS => ?_)
          refine k_ar (wr := [(t0, .inr (6, [.ref t1, .int (nI ln)])), (t1, .inl (g 1, 120, .inl sg))]) (w2 := [(t0, .inr (6, [.ref t1, .int (nI ln)])), (t1, .inl (g 1, 120, .inl sg))]) (va_runS (As := [.int (f_X6_codeAt ln sg a)]) (rest := []) ⟨hx, hb, hml, hown, hts⟩ (c_X6_shapeAfter l D g H.size (f_X6_codeAt ln sg a)) (va_cwS 1 hts gX6_firstError_X6_shapeAfter rfl rfl rfl (by decide +kernel) (k_lvl (by omega) (by decide))) (kPS hP hD hK hS hA hE [] rfl (by decide)) rfl rfl hl.1 rfl (lv_room (Nat.le_of_ble_eq_true rfl)) dX6_firstError_27 ⟨Nat.le_of_ble_eq_true rfl, Nat.le_of_ble_eq_true rfl⟩) hP hD hS hA [] [0, 1] [0, 1] rfl rfl (by decide) (by decide) rfl (by decide) (fun H locs hP hD hS => ?_)
          refine lv_astore_n (lv' := [(2, .ref (g (10 + fShape (f_X6_codeAt ln sg a)))), (1, .int (nI a)), (0, .ref t0)]) hx hb dX6_firstError_30 rfl hl (by decide) rfl (fun ls hl => ?_)
          refine lv_aload_n hx hb dX6_firstError_31 rfl (lv_at hl 0 rfl) ?_
          refine k_ai (wr := [(t0, .inr (6, [.ref t1, .int (nI ln)])), (t1, .inl (g 1, 120, .inl sg))]) (w2 := [(t0, .inr (6, [.ref t1, .int (nI ln)])), (t1, .inl (g 1, 120, .inl sg))]) (va_runV (As := []) (rest := []) ⟨hx, hb, hml, hown, hts⟩ (c_J0_isEmpty_aae02 l D g H.size (fShape (f_X6_codeAt ln sg a)) (fShape_lt _)) (cwV 0 hts gX6_firstError_J0_isEmpty_aae02 rfl rfl rfl (by decide +kernel) (k_lvl (by omega) (by decide))) (kPVr hP hD hK hS hA hE [] rfl (by decide) (vk_recv (i := fShape (f_X6_codeAt ln sg a)) hE.2.2.1 (fShape_lt _) hS)) rfl rfl hl.1 rfl (lv_room (Nat.le_of_ble_eq_true rfl)) dX6_firstError_32 ⟨Nat.le_of_ble_eq_true rfl, Nat.le_of_ble_eq_true rfl⟩) hP hD hS hA [] [0, 1] [0, 1] rfl rfl (by decide) (by decide) rfl (by decide) (fun H locs hP hD hS => ?_)
          refine lv_if_eq (tgt := 40) hx hb dX6_firstError_35 (by decide) (fun c_3 => ?_) (fun c_3 => ?_)
          · refine lv_iinc (v := (nI (a + 1))) (lv' := [(1, .int (nI (a + 1))), (2, .ref (g (10 + fShape (f_X6_codeAt ln sg a)))), (0, .ref t0)]) hx hb dX6_firstError_40 hl (k := 1) rfl (nI_1 _) (by decide) rfl (fun ls hl => ?_)
            refine lv_iconst (v := 0) hx hb dX6_firstError_43 (by decide) ?_
            refine lv_istore_n (lv' := [(3, .int 0), (1, .int (nI (a + 1))), (2, .ref (g (10 + fShape (f_X6_codeAt ln sg a)))), (0, .ref t0)]) hx hb dX6_firstError_44 rfl hl (by decide) rfl (fun ls hl => ?_)
            have hloop_45 : ∀ (nn_45 : Nat) (k : Nat) (b : Nat), kLen.getD (fShape (f_X6_codeAt ln sg a)) 0 - k < nn_45 → ∀ (hk : k ≤ kLen.getD (fShape (f_X6_codeAt ln sg a)) 0) (hb9 : b = a + 1 + k) (hi9 : feIn ln sg (fShape (f_X6_codeAt ln sg a)) (kLen.getD (fShape (f_X6_codeAt ln sg a)) 0 - k) k b = feIn ln sg (fShape (f_X6_codeAt ln sg a)) (kLen.getD (fShape (f_X6_codeAt ln sg a)) 0) 0 (a + 1)) (H : Heap) (locs : List Loc) (ls : Array Slot), va_P D vwCl [(t0, .inr (6, [.ref t1, .int (nI ln)])), (t1, .inl (g 1, 120, .inl sg))] H → va_D A [(t0, .inr (6, [.ref t1, .int (nI ln)])), (t1, .inl (g 1, 120, .inl sg))] → va_S A s.heap H locs → lv_has ls 4 [(3, .int (nI k)), (1, .int (nI b)), (2, .ref (g (10 + (fShape (f_X6_codeAt ln sg a))))), (0, .ref t0)] → W pp l ee (kR 6 0 0) s mm args below meth cc H locs 0 0 Q (F0 mm 45 ls []) := by
              intro nn_45
              induction nn_45 with
              | zero => intro k b hm9; exact absurd hm9 (Nat.not_lt_zero _)
              | succ nn_45 ih_45 =>
                intro k b hm_45 hk hb9 hi9 H locs ls hP hD hS hl
                have hsm := kLen_small (fShape (f_X6_codeAt ln sg a))
                refine lv_iload_n hx hb dX6_firstError_45 rfl (lv_at hl 0 rfl) ?_
                refine lv_aload_n hx hb dX6_firstError_46 rfl (lv_at hl 2 rfl) ?_
                refine k_ai (wr := [(t0, .inr (6, [.ref t1, .int (nI ln)])), (t1, .inl (g 1, 120, .inl sg))]) (w2 := [(t0, .inr (6, [.ref t1, .int (nI ln)])), (t1, .inl (g 1, 120, .inl sg))]) (va_runV (As := []) (rest := [.int (nI k)]) ⟨hx, hb, hml, hown, hts⟩ (c_J0_length_8abf5 l D g H.size (fShape (f_X6_codeAt ln sg a)) (fShape_lt _)) (cwV 0 hts gX6_firstError_J0_length_8abf5 rfl rfl rfl (by decide +kernel) (k_lvl (by omega) (by decide))) (kPVr hP hD hK hS hA hE [] rfl (by decide) (vk_recv (i := (fShape (f_X6_codeAt ln sg a))) hE.2.2.1 (fShape_lt _) hS)) rfl rfl hl.1 rfl (lv_room (Nat.le_of_ble_eq_true rfl)) dX6_firstError_47 ⟨Nat.le_of_ble_eq_true rfl, Nat.le_of_ble_eq_true rfl⟩) hP hD hS hA [] [0, 1] [0, 1] rfl rfl (by decide) (by decide) rfl (by decide) (fun H locs hP hD hS => ?_)
                refine lv_icmp_ge (tgt := 80) hx hb dX6_firstError_50 (by decide) (fun c_4 => ?_) (fun c_4 => ?_)
                · have c_4 : (kLen.getD (fShape (f_X6_codeAt ln sg a)) 0) ≤ k := (nI_leI (a := (kLen.getD (fShape (f_X6_codeAt ln sg a)) 0)) (b := k) (by omega) (by omega)).mp c_4
                  refine lv_goto (tgt := 14) hx hb dX6_firstError_80 (by decide) ?_
                  exact ih_14 (fu - 1) b (by omega) (by omega) (by have h7 := kLen_small (fShape (f_X6_codeAt ln sg a)); omega) ((feOut_go (show a < ln by omega) hf c_3 (hi9.symm.trans (feIn_end c_4)) (by omega)).trans hr9) H locs ls hP hD hS (lv_sub hl [1, 3] rfl)
                · have c_4 : ¬ ((kLen.getD (fShape (f_X6_codeAt ln sg a)) 0) ≤ k) := fun h9 => c_4 ((nI_leI (a := (kLen.getD (fShape (f_X6_codeAt ln sg a)) 0)) (b := k) (by omega) (by omega)).mpr h9)
                  refine lv_aload_n hx hb dX6_firstError_53 rfl (lv_at hl 3 rfl) ?_
                  refine lv_iload_n hx hb dX6_firstError_54 rfl (lv_at hl 1 rfl) ?_
                  refine k_ai (wr := []) (w2 := [(t0, .inr (6, [.ref t1, .int (nI ln)])), (t1, .inl (g 1, 120, .inl sg))]) (va_runV (As := [.int (nI b)]) (rest := []) ⟨hx, hb, hml, hown, hts⟩ (c_X6_codeAt l D g t0 t1 H.size ln sg b (by omega) (by omega)) (cwV 1 hts gX6_firstError_X6_codeAt rfl rfl rfl (by decide +kernel) (k_lvl (by omega) (by decide))) (kPV hP hD hK hS hA hE [0, 1] rfl (by decide) 0 6 rfl rfl rfl) rfl rfl hl.1 rfl (lv_room (Nat.le_of_ble_eq_true rfl)) dX6_firstError_55 ⟨Nat.le_of_ble_eq_true rfl, Nat.le_of_ble_eq_true rfl⟩) hP hD hS hA [0, 1] [] [0, 1] rfl rfl (by decide) (by decide) rfl (by decide) (fun H locs hP hD hS => ?_)
                  refine lv_aload_n hx hb dX6_firstError_58 rfl (lv_at hl 2 rfl) ?_
                  refine lv_iload_n hx hb dX6_firstError_59 rfl (lv_at hl 0 rfl) ?_
                  refine k_ai (wr := [(t0, .inr (6, [.ref t1, .int (nI ln)])), (t1, .inl (g 1, 120, .inl sg))]) (w2 := [(t0, .inr (6, [.ref t1, .int (nI ln)])), (t1, .inl (g 1, 120, .inl sg))]) (va_runV (As := [.int (nI k)]) (rest := [.int (f_X6_codeAt ln sg b)]) ⟨hx, hb, hml, hown, hts⟩ (c_J0_charAt_5068e l D g H.size (fShape (f_X6_codeAt ln sg a)) k (fShape_lt _) (by omega)) (cwV 1 hts gX6_firstError_J0_charAt_5068e rfl rfl rfl (by decide +kernel) (k_lvl (by omega) (by decide))) (kPVr hP hD hK hS hA hE [] rfl (by decide) (vk_recv (i := (fShape (f_X6_codeAt ln sg a))) hE.2.2.1 (fShape_lt _) hS)) rfl rfl hl.1 rfl (lv_room (Nat.le_of_ble_eq_true rfl)) dX6_firstError_60 ⟨Nat.le_of_ble_eq_true rfl, Nat.le_of_ble_eq_true rfl⟩) hP hD hS hA [] [0, 1] [0, 1] rfl rfl (by decide) (by decide) rfl (by decide) (fun H locs hP hD hS => ?_)
                  refine k_ai (wr := [(t0, .inr (6, [.ref t1, .int (nI ln)])), (t1, .inl (g 1, 120, .inl sg))]) (w2 := [(t0, .inr (6, [.ref t1, .int (nI ln)])), (t1, .inl (g 1, 120, .inl sg))]) (va_runS (As := [.int (f_X6_codeAt ln sg b), .int (kCh (fShape (f_X6_codeAt ln sg a)) k)]) (rest := []) ⟨hx, hb, hml, hown, hts⟩ (c_X6_fits l D g H.size (f_X6_codeAt ln sg b) (kCh (fShape (f_X6_codeAt ln sg a)) k)) (va_cwS 2 hts gX6_firstError_X6_fits rfl rfl rfl (by decide +kernel) (k_lvl (by omega) (by decide))) (kPS hP hD hK hS hA hE [] rfl (by decide)) rfl rfl hl.1 rfl (lv_room (Nat.le_of_ble_eq_true rfl)) dX6_firstError_63 ⟨Nat.le_of_ble_eq_true rfl, Nat.le_of_ble_eq_true rfl⟩) hP hD hS hA [] [0, 1] [0, 1] rfl rfl (by decide) (by decide) rfl (by decide) (fun H locs hP hD hS => ?_)
                  refine lv_if_ne (tgt := 71) hx hb dX6_firstError_66 (by decide) (fun c_5 => ?_) (fun c_5 => ?_)
                  · refine lv_iinc (v := (nI (b + 1))) (lv' := [(1, .int (nI (b + 1))), (3, .int (nI k)), (2, .ref (g (10 + (fShape (f_X6_codeAt ln sg a))))), (0, .ref t0)]) hx hb dX6_firstError_71 hl (k := 1) rfl (nI_1 _) (by decide) rfl (fun ls hl => ?_)
                    refine lv_iinc (v := (nI (k + 1))) (lv' := [(3, .int (nI (k + 1))), (1, .int (nI (b + 1))), (2, .ref (g (10 + (fShape (f_X6_codeAt ln sg a))))), (0, .ref t0)]) hx hb dX6_firstError_74 hl (k := 1) rfl (nI_1 _) (by decide) rfl (fun ls hl => ?_)
                    refine lv_goto (tgt := 45) hx hb dX6_firstError_77 (by decide) ?_
                    exact ih_45 (k + 1) (b + 1) (by omega) (by omega) (by omega) ((feIn_step c_4 c_5).trans hi9) H locs ls hP hD hS (lv_sub hl [0, 1, 2, 3] rfl)
                  · refine lv_iload_n hx hb dX6_firstError_69 rfl (lv_at hl 1 rfl) ?_
                    subst hQ
                    exact k_ri hx hb hr hlocks hP hD hS dX6_firstError_70 (by rw [← hr9, feOut_err (show a < ln by omega) hf c_3 (hi9.symm.trans (feIn_err c_4 c_5))]) (rfl)
            exact hloop_45 ((kLen.getD (fShape (f_X6_codeAt ln sg a)) 0 - 0) + 1) 0 (a + 1) (Nat.lt_succ_self _) (by omega) (by omega) rfl H locs ls hP hD hS (lv_sub hl [0, 1, 2, 3] rfl)
          · refine lv_iload_n hx hb dX6_firstError_38 rfl (lv_at hl 1 rfl) ?_
            subst hQ
            exact k_ri hx hb hr hlocks hP hD hS dX6_firstError_39 (by rw [← hr9, feOut_emp (show a < ln by omega) hf c_3]) (rfl)
    exact hloop_14 (ln + 1) ln 1 (Nat.lt_succ_self _) (by omega) (by omega) (by rw [if_pos c_1]) H locs ls hP hD hS (lv_sub hl [0, 1] rfl)
  · refine lv_iconst (v := 0) hx hb dX6_firstError_10 (by decide) ?_
    subst hQ
    exact k_ri hx hb hr hlocks hP hD hS dX6_firstError_11 (by rw [if_neg c_1]) (rfl)
