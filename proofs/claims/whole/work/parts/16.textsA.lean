-- MODULE: Strings, texts (X6)
theorem qJ0_coder_7d493_0 : Cond.fieldLink RJ0 38 "java/lang/String" "COMPACT_STRINGS" "Z" ∈ wsJ0_coder_7d493 := (List.mem_cons_of_mem _ (List.mem_of_getElem? (i := 0) rfl))
theorem qJ0_coder_7d493_1 : Cond.fieldLink RJ0 15 "java/lang/String" "coder" "B" ∈ wsJ0_coder_7d493 := (List.mem_cons_of_mem _ (List.mem_of_getElem? (i := 1) rfl))
set_option maxHeartbeats 4000000 in
set_option maxRecDepth 100000 in
theorem c_J0_coder_7d493 (l : Launch) (D : va_G) (g : Nat → Nat) (sz : Nat) (i : Nat) (hi : i < 11) : kMi l D g yJ0_coder_7d493 wsJ0_coder_7d493 1 0 0 [.ref (g (10 + i))] [] sz 0 [] := by
  refine k_enter (nm := "coder") (own := RJ0) (bytes := cJ0_coder_7d493) (maxL := 1) (ret := (some .byte)) (Qf := fun A => kQi D [] A 0) (by decide) rfl rfl rfl (Nat.le_of_ble_eq_true rfl) ?_
  rintro pp ee s mm below meth cc A ls args Q H locs hQ ⟨hx, hb, hr, hml, hown, hts, hlocks, hin⟩ hP hK hD hA hS hE hl
  have hl : lv_has ls 1 [(0, .ref (g (10 + i)))] := hl
  refine va_gets hx hb hE.2.2.2.2.2.1 hS hown (hts _ qJ0_coder_7d493_0) (fun _ h9 => h9) dJ0_coder_7d493_0 ?_
  refine lv_if_eq (tgt := 13) hx hb dJ0_coder_7d493_3 (by decide) (fun c_1 => absurd c_1 (by decide)) (fun _ => ?_)
  refine lv_aload_n hx hb dJ0_coder_7d493_6 rfl (lv_at hl 0 rfl) ?_
  refine vk_getf hx hb (hE.2.2.1.1 i (by omega)).2.1 hS hown (hts _ qJ0_coder_7d493_1) (fun _ h9 => h9) dJ0_coder_7d493_7 ?_
  refine lv_goto (tgt := 14) hx hb dJ0_coder_7d493_10 (by decide) ?_
  subst hQ
  exact k_rz hx hb hr hlocks hP hD hS dJ0_coder_7d493_14 (by rfl) (rfl) (rfl)
theorem qJ0_isLatin1_aae02_0 : Cond.fieldLink RJ0 38 "java/lang/String" "COMPACT_STRINGS" "Z" ∈ wsJ0_isLatin1_aae02 := (List.mem_cons_of_mem _ (List.mem_of_getElem? (i := 0) rfl))
theorem qJ0_isLatin1_aae02_1 : Cond.fieldLink RJ0 15 "java/lang/String" "coder" "B" ∈ wsJ0_isLatin1_aae02 := (List.mem_cons_of_mem _ (List.mem_of_getElem? (i := 1) rfl))
set_option maxHeartbeats 4000000 in
set_option maxRecDepth 100000 in
theorem c_J0_isLatin1_aae02 (l : Launch) (D : va_G) (g : Nat → Nat) (sz : Nat) (i : Nat) (hi : i < 11) : kMi l D g yJ0_isLatin1_aae02 wsJ0_isLatin1_aae02 1 0 0 [.ref (g (10 + i))] [] sz 1 [] := by
  refine k_enter (nm := "isLatin1") (own := RJ0) (bytes := cJ0_isLatin1_aae02) (maxL := 1) (ret := (some .boolean)) (Qf := fun A => kQi D [] A 1) (by decide) rfl rfl rfl (Nat.le_of_ble_eq_true rfl) ?_
  rintro pp ee s mm below meth cc A ls args Q H locs hQ ⟨hx, hb, hr, hml, hown, hts, hlocks, hin⟩ hP hK hD hA hS hE hl
  have hl : lv_has ls 1 [(0, .ref (g (10 + i)))] := hl
  refine va_gets hx hb hE.2.2.2.2.2.1 hS hown (hts _ qJ0_isLatin1_aae02_0) (fun _ h9 => h9) dJ0_isLatin1_aae02_0 ?_
  refine lv_if_eq (tgt := 17) hx hb dJ0_isLatin1_aae02_3 (by decide) (fun c_1 => absurd c_1 (by decide)) (fun _ => ?_)
  refine lv_aload_n hx hb dJ0_isLatin1_aae02_6 rfl (lv_at hl 0 rfl) ?_
  refine vk_getf hx hb (hE.2.2.1.1 i (by omega)).2.1 hS hown (hts _ qJ0_isLatin1_aae02_1) (fun _ h9 => h9) dJ0_isLatin1_aae02_7 ?_
  refine lv_if_ne (tgt := 17) hx hb dJ0_isLatin1_aae02_10 (by decide) (fun c_2 => absurd c_2 (by decide)) (fun _ => ?_)
  refine lv_iconst (v := 1) hx hb dJ0_isLatin1_aae02_13 (by decide) ?_
  refine lv_goto (tgt := 18) hx hb dJ0_isLatin1_aae02_14 (by decide) ?_
  subst hQ
  exact k_rz hx hb hr hlocks hP hD hS dJ0_isLatin1_aae02_18 (by rfl) (rfl) (rfl)
theorem kLen_small : ∀ i : Nat, kLen.getD i 0 < 64 := by
  intro i
  by_cases h : i < 11
  · have key : ∀ j : Fin 11, kLen.getD j.val 0 < 64 := by decide +kernel
    exact key ⟨i, h⟩
  · rw [List.getD_eq_getElem?_getD, List.getElem?_eq_none (by have : kLen.length = 11 := by decide +kernel
                                                              omega)]
    decide
theorem qJ0_length_8abf5_0 : Cond.fieldLink RJ0 9 "java/lang/String" "value" "[B" ∈ wsJ0_length_8abf5 := (List.mem_cons_of_mem _ (List.mem_of_getElem? (i := 0) rfl))
set_option maxHeartbeats 4000000 in
set_option maxRecDepth 100000 in
theorem c_J0_length_8abf5 (l : Launch) (D : va_G) (g : Nat → Nat) (sz : Nat) (i : Nat) (hi : i < 11) : kMi l D g yJ0_length_8abf5 wsJ0_length_8abf5 2 0 0 [.ref (g (10 + i))] [] sz (nI (kLen.getD i 0)) [] := by
  refine k_enter (nm := "length") (own := RJ0) (bytes := cJ0_length_8abf5) (maxL := 1) (ret := (some .int)) (Qf := fun A => kQi D [] A (nI (kLen.getD i 0))) (by decide) rfl rfl rfl (Nat.le_of_ble_eq_true rfl) ?_
  rintro pp ee s mm below meth cc A ls args Q H locs hQ ⟨hx, hb, hr, hml, hown, hts, hlocks, hin⟩ hP hK hD hA hS hE hl
  have hl : lv_has ls 1 [(0, .ref (g (10 + i)))] := hl
  refine lv_aload_n hx hb dJ0_length_8abf5_0 rfl (lv_at hl 0 rfl) ?_
  refine vk_getf hx hb (hE.2.2.1.1 i (by omega)).2.2.1 hS hown (hts _ qJ0_length_8abf5_0) (fun _ h9 => h9) dJ0_length_8abf5_1 ?_
  refine va_tlen (v := (nI (kLen.getD i 0))) hx hb (hE.2.2.1.1 i (by omega)).2.2.2 hS rfl dJ0_length_8abf5_4 ?_
  refine lv_aload_n hx hb dJ0_length_8abf5_5 rfl (lv_at hl 0 rfl) ?_
  refine k_ai (wr := []) (w2 := []) (va_runV (As := []) (rest := [.int (nI (kLen.getD i 0))]) ⟨hx, hb, hml, hown, hts⟩ (c_J0_coder_7d493 l D g H.size i (by omega)) (cwV 0 hts gJ0_length_8abf5_J0_coder_7d493 rfl rfl rfl (by decide +kernel) (k_lvl (by omega) (by decide))) (kPVr hP hD hK hS hA hE [] rfl (by decide) (vk_recv (i := i) hE.2.2.1 (by omega) hS)) rfl rfl hl.1 rfl (lv_room (Nat.le_of_ble_eq_true rfl)) dJ0_length_8abf5_6 ⟨Nat.le_of_ble_eq_true rfl, Nat.le_of_ble_eq_true rfl⟩) hP hD hS hA [] [] [] rfl rfl (by decide) (by decide) rfl (by decide) (fun H locs hP hD hS => ?_)
  refine lv_ishr hx hb dJ0_length_8abf5_9 ?_
  refine k_top (y := (nI (kLen.getD i 0))) (sb_shr0 _) ?_
  subst hQ
  exact k_ri hx hb hr hlocks hP hD hS dJ0_length_8abf5_10 (rfl) (rfl)
def f_J0_isEmpty_aae02 (i : Nat) : Int32 :=
  if (kLen.getD i 0) = 0 then
    1
  else
    0
theorem qJ0_isEmpty_aae02_0 : Cond.fieldLink RJ0 9 "java/lang/String" "value" "[B" ∈ wsJ0_isEmpty_aae02 := (List.mem_cons_of_mem _ (List.mem_of_getElem? (i := 0) rfl))
set_option maxHeartbeats 4000000 in
set_option maxRecDepth 100000 in
theorem c_J0_isEmpty_aae02 (l : Launch) (D : va_G) (g : Nat → Nat) (sz : Nat) (i : Nat) (hi : i < 11) : kMi l D g yJ0_isEmpty_aae02 wsJ0_isEmpty_aae02 1 0 0 [.ref (g (10 + i))] [] sz (f_J0_isEmpty_aae02 i) [] := by
  refine k_enter (nm := "isEmpty") (own := RJ0) (bytes := cJ0_isEmpty_aae02) (maxL := 1) (ret := (some .boolean)) (Qf := fun A => kQi D [] A (f_J0_isEmpty_aae02 i)) (by decide) rfl rfl rfl (Nat.le_of_ble_eq_true rfl) ?_
  rintro pp ee s mm below meth cc A ls args Q H locs hQ ⟨hx, hb, hr, hml, hown, hts, hlocks, hin⟩ hP hK hD hA hS hE hl
  have hl : lv_has ls 1 [(0, .ref (g (10 + i)))] := hl
  have hsm := kLen_small i
  refine lv_aload_n hx hb dJ0_isEmpty_aae02_0 rfl (lv_at hl 0 rfl) ?_
  refine vk_getf hx hb (hE.2.2.1.1 i (by omega)).2.2.1 hS hown (hts _ qJ0_isEmpty_aae02_0) (fun _ h9 => h9) dJ0_isEmpty_aae02_1 ?_
  refine va_tlen (v := (nI (kLen.getD i 0))) hx hb (hE.2.2.1.1 i (by omega)).2.2.2 hS rfl dJ0_isEmpty_aae02_4 ?_
  refine lv_if_ne (tgt := 12) hx hb dJ0_isEmpty_aae02_5 (by decide) (fun c_1 => ?_) (fun c_1 => ?_)
  · have c_1 : ¬ ((kLen.getD i 0) = 0) := fun h9 => c_1 ((nI_eq (a := (kLen.getD i 0)) (b := 0) (by omega) (by omega)).mpr h9)
    refine lv_iconst (v := 0) hx hb dJ0_isEmpty_aae02_12 (by decide) ?_
    have hE2 : (f_J0_isEmpty_aae02 i) = 0 := by
      exact (if_neg c_1).trans (rfl)
    subst hQ
    exact k_rz hx hb hr hlocks hP hD hS dJ0_isEmpty_aae02_13 (by rfl) (hE2.symm) (rfl)
  · have c_1 : (kLen.getD i 0) = 0 := (nI_eq (a := (kLen.getD i 0)) (b := 0) (by omega) (by omega)).mp c_1
    refine lv_iconst (v := 1) hx hb dJ0_isEmpty_aae02_8 (by decide) ?_
    refine lv_goto (tgt := 13) hx hb dJ0_isEmpty_aae02_9 (by decide) ?_
    have hE2 : (f_J0_isEmpty_aae02 i) = 1 := by
      exact (if_pos c_1).trans (rfl)
    subst hQ
    exact k_rz hx hb hr hlocks hP hD hS dJ0_isEmpty_aae02_13 (by rfl) (hE2.symm) (rfl)
set_option maxHeartbeats 4000000 in
set_option maxRecDepth 100000 in
theorem c_J3_checkIndex_8e157 (l : Launch) (D : va_G) (g : Nat → Nat) (rq : Nat) (sz : Nat) (ix : Nat) (len : Nat) (hix : ix < len) (hln : len < 2 ^ 31) : kMi l D g yJ3_checkIndex_8e157 wsJ3_checkIndex_8e157 1 0 0 [.int (nI ix), .int (nI len), .ref rq] [] sz (nI ix) [] := by
  refine k_enter (nm := "checkIndex") (own := RJ3) (bytes := cJ3_checkIndex_8e157) (maxL := 3) (ret := (some .int)) (Qf := fun A => kQi D [] A (nI ix)) (by decide) rfl rfl rfl (Nat.le_of_ble_eq_true rfl) ?_
  rintro pp ee s mm below meth cc A ls args Q H locs hQ ⟨hx, hb, hr, hml, hown, hts, hlocks, hin⟩ hP hK hD hA hS hE hl
  have hl : lv_has ls 3 [(0, .int (nI ix)), (1, .int (nI len)), (2, .ref rq)] := hl
  refine lv_iload_n hx hb dJ3_checkIndex_8e157_0 rfl (lv_at hl 0 rfl) ?_
  refine lv_if_lt (tgt := 9) hx hb dJ3_checkIndex_8e157_1 (by decide) (fun c_1 => ?_) (fun c_1 => ?_)
  · have c_1 : ix < 0 := (nI_ltI (a := ix) (b := 0) (by omega) (by omega)).mp c_1
    exfalso; omega
  · have c_1 : ¬ (ix < 0) := fun h9 => c_1 ((nI_ltI (a := ix) (b := 0) (by omega) (by omega)).mpr h9)
    refine lv_iload_n hx hb dJ3_checkIndex_8e157_4 rfl (lv_at hl 0 rfl) ?_
    refine lv_iload_n hx hb dJ3_checkIndex_8e157_5 rfl (lv_at hl 1 rfl) ?_
    refine lv_icmp_lt (tgt := 16) hx hb dJ3_checkIndex_8e157_6 (by decide) (fun c_2 => ?_) (fun c_2 => ?_)
    · have c_2 : ix < len := (nI_ltI (a := ix) (b := len) (by omega) (by omega)).mp c_2
      refine lv_iload_n hx hb dJ3_checkIndex_8e157_16 rfl (lv_at hl 0 rfl) ?_
      subst hQ
      exact k_ri hx hb hr hlocks hP hD hS dJ3_checkIndex_8e157_17 (rfl) (rfl)
    · have c_2 : ¬ (ix < len) := fun h9 => c_2 ((nI_ltI (a := ix) (b := len) (by omega) (by omega)).mpr h9)
      exfalso; omega
set_option maxHeartbeats 4000000 in
set_option maxRecDepth 100000 in
theorem c_J3_null (l : Launch) (D : va_G) (g : Nat → Nat) (sz : Nat) (ix : Nat) (len : Nat) (hix : ix < len) (hln : len < 2 ^ 31) : kMi l D g yJ3_checkIndex_8e157 wsJ3_checkIndex_8e157 1 0 0 [.int (nI ix), .int (nI len), .null] [] sz (nI ix) [] := by
  refine k_enter (nm := "checkIndex") (own := RJ3) (bytes := cJ3_checkIndex_8e157) (maxL := 3) (ret := (some .int)) (Qf := fun A => kQi D [] A (nI ix)) (by decide) rfl rfl rfl (Nat.le_of_ble_eq_true rfl) ?_
  rintro pp ee s mm below meth cc A ls args Q H locs hQ ⟨hx, hb, hr, hml, hown, hts, hlocks, hin⟩ hP hK hD hA hS hE hl
  have hl : lv_has ls 3 [(0, .int (nI ix)), (1, .int (nI len)), (2, .null)] := hl
  refine lv_iload_n hx hb dJ3_checkIndex_8e157_0 rfl (lv_at hl 0 rfl) ?_
  refine lv_if_lt (tgt := 9) hx hb dJ3_checkIndex_8e157_1 (by decide) (fun c_1 => ?_) (fun c_1 => ?_)
  · have c_1 : ix < 0 := (nI_ltI (a := ix) (b := 0) (by omega) (by omega)).mp c_1
    exfalso; omega
  · have c_1 : ¬ (ix < 0) := fun h9 => c_1 ((nI_ltI (a := ix) (b := 0) (by omega) (by omega)).mpr h9)
    refine lv_iload_n hx hb dJ3_checkIndex_8e157_4 rfl (lv_at hl 0 rfl) ?_
    refine lv_iload_n hx hb dJ3_checkIndex_8e157_5 rfl (lv_at hl 1 rfl) ?_
    refine lv_icmp_lt (tgt := 16) hx hb dJ3_checkIndex_8e157_6 (by decide) (fun c_2 => ?_) (fun c_2 => ?_)
    · have c_2 : ix < len := (nI_ltI (a := ix) (b := len) (by omega) (by omega)).mp c_2
      refine lv_iload_n hx hb dJ3_checkIndex_8e157_16 rfl (lv_at hl 0 rfl) ?_
      subst hQ
      exact k_ri hx hb hr hlocks hP hD hS dJ3_checkIndex_8e157_17 (rfl) (rfl)
    · have c_2 : ¬ (ix < len) := fun h9 => c_2 ((nI_ltI (a := ix) (b := len) (by omega) (by omega)).mpr h9)
      exfalso; omega
theorem qJ0_checkIndex_df160_0 : Cond.fieldLink RJ0 1053 "jdk/internal/util/Preconditions" "SIOOBE_FORMATTER" "Ljava/util/function/BiFunction;" ∈ wsJ0_checkIndex_df160 := (List.mem_cons_of_mem _ (List.mem_of_getElem? (i := 0) rfl))
set_option maxHeartbeats 4000000 in
set_option maxRecDepth 100000 in
theorem c_J0_checkIndex_df160 (l : Launch) (D : va_G) (g : Nat → Nat) (sz : Nat) (ix : Nat) (len : Nat) (hix : ix < len) (hln : len < 2 ^ 31) : kMv l D g yJ0_checkIndex_df160 wsJ0_checkIndex_df160 2 0 0 [.int (nI ix), .int (nI len)] [] sz [] := by
  refine k_enter (nm := "checkIndex") (own := RJ0) (bytes := cJ0_checkIndex_df160) (maxL := 2) (ret := none) (Qf := fun A => kQv D [] A) (by decide) rfl rfl rfl (Nat.le_of_ble_eq_true rfl) ?_
  rintro pp ee s mm below meth cc A ls args Q H locs hQ ⟨hx, hb, hr, hml, hown, hts, hlocks, hin⟩ hP hK hD hA hS hE hl
  have hl : lv_has ls 2 [(0, .int (nI ix)), (1, .int (nI len))] := hl
  refine lv_iload_n hx hb dJ0_checkIndex_df160_0 rfl (lv_at hl 0 rfl) ?_
  refine lv_iload_n hx hb dJ0_checkIndex_df160_1 rfl (lv_at hl 1 rfl) ?_
  rcases hE.2.2.2.2.2.2 with hZ9 | ⟨t9, hZ9⟩
  · refine va_gets hx hb hZ9 hS hown (hts _ qJ0_checkIndex_df160_0) (fun _ h9 => h9) dJ0_checkIndex_df160_2 ?_
    refine k_ai (wr := []) (w2 := []) (va_runS (As := [.int (nI ix), .int (nI len), .null]) (rest := []) ⟨hx, hb, hml, hown, hts⟩ (c_J3_null l D g H.size ix len (by omega) (by omega)) (va_cwS 3 hts gJ0_checkIndex_df160_J3_checkIndex_8e157 rfl rfl rfl (by decide +kernel) (k_lvl (by omega) (by decide))) (kPS hP hD hK hS hA hE [] rfl (by decide)) rfl rfl hl.1 rfl (lv_room (Nat.le_of_ble_eq_true rfl)) dJ0_checkIndex_df160_5 ⟨Nat.le_of_ble_eq_true rfl, Nat.le_of_ble_eq_true rfl⟩) hP hD hS hA [] [] [] rfl rfl (by decide) (by decide) rfl (by decide) (fun H locs hP hD hS => ?_)
    refine lv_pop hx hb dJ0_checkIndex_df160_8 rfl ?_
    subst hQ
    exact k_rv hx hb hr hlocks hP hD hS dJ0_checkIndex_df160_9 rfl
  · refine va_gets hx hb hZ9 hS hown (hts _ qJ0_checkIndex_df160_0) (fun _ h9 => h9) dJ0_checkIndex_df160_2 ?_
    refine k_ai (wr := []) (w2 := []) (va_runS (As := [.int (nI ix), .int (nI len), .ref t9]) (rest := []) ⟨hx, hb, hml, hown, hts⟩ (c_J3_checkIndex_8e157 l D g t9 H.size ix len (by omega) (by omega)) (va_cwS 3 hts gJ0_checkIndex_df160_J3_checkIndex_8e157 rfl rfl rfl (by decide +kernel) (k_lvl (by omega) (by decide))) (kPS hP hD hK hS hA hE [] rfl (by decide)) rfl rfl hl.1 rfl (lv_room (Nat.le_of_ble_eq_true rfl)) dJ0_checkIndex_df160_5 ⟨Nat.le_of_ble_eq_true rfl, Nat.le_of_ble_eq_true rfl⟩) hP hD hS hA [] [] [] rfl rfl (by decide) (by decide) rfl (by decide) (fun H locs hP hD hS => ?_)
    refine lv_pop hx hb dJ0_checkIndex_df160_8 rfl ?_
    subst hQ
    exact k_rv hx hb hr hlocks hP hD hS dJ0_checkIndex_df160_9 rfl
set_option maxHeartbeats 4000000 in
set_option maxRecDepth 100000 in
theorem c_J1_charAt_3b067 (l : Launch) (D : va_G) (g : Nat → Nat) (sz : Nat) (i : Nat) (ix : Nat) (hi : i < 11) (hix : ix < kLen.getD i 0) : kMi l D g yJ1_charAt_3b067 wsJ1_charAt_3b067 3 0 0 [.ref (g (30 + i)), .int (nI ix)] [] sz (kCh i ix) [] := by
  refine k_enter (nm := "charAt") (own := RJ1) (bytes := cJ1_charAt_3b067) (maxL := 2) (ret := (some .char)) (Qf := fun A => kQi D [] A (kCh i ix)) (by decide) rfl rfl rfl (Nat.le_of_ble_eq_true rfl) ?_
  rintro pp ee s mm below meth cc A ls args Q H locs hQ ⟨hx, hb, hr, hml, hown, hts, hlocks, hin⟩ hP hK hD hA hS hE hl
  have hl : lv_has ls 2 [(0, .ref (g (30 + i))), (1, .int (nI ix))] := hl
  have hsm := kLen_small i
  refine lv_iload_n hx hb dJ1_charAt_3b067_0 rfl (lv_at hl 1 rfl) ?_
  refine lv_aload_n hx hb dJ1_charAt_3b067_1 rfl (lv_at hl 0 rfl) ?_
  refine va_tlen (v := (nI (kLen.getD i 0))) hx hb (hE.2.2.1.1 i (by omega)).2.2.2 hS rfl dJ1_charAt_3b067_2 ?_
  refine k_av (wr := []) (w2 := []) (va_runS (As := [.int (nI ix), .int (nI (kLen.getD i 0))]) (rest := []) ⟨hx, hb, hml, hown, hts⟩ (c_J0_checkIndex_df160 l D g H.size ix (kLen.getD i 0) (by omega) (by omega)) (va_cwS 2 hts gJ1_charAt_3b067_J0_checkIndex_df160 rfl rfl rfl (by decide +kernel) (k_lvl (by omega) (by decide))) (kPS hP hD hK hS hA hE [] rfl (by decide)) rfl rfl hl.1 rfl (lv_room (Nat.le_of_ble_eq_true rfl)) dJ1_charAt_3b067_3 ⟨Nat.le_of_ble_eq_true rfl, Nat.le_of_ble_eq_true rfl⟩) hP hD hS hA [] [] [] rfl rfl (by decide) (by decide) rfl (by decide) (fun H locs hP hD hS => ?_)
  refine lv_aload_n hx hb dJ1_charAt_3b067_6 rfl (lv_at hl 0 rfl) ?_
  refine lv_iload_n hx hb dJ1_charAt_3b067_7 rfl (lv_at hl 1 rfl) ?_
  refine va_tb (i := (nI ix)) (v := .int ((kByt.getD i []).getD ((nI ix)).toNatClampNeg 0)) hx hb (hE.2.2.1.1 i (by omega)).2.2.2 hS (vp_in_nI (n := ix) (by omega) (by omega)) rfl dJ1_charAt_3b067_8 ?_
  refine k_top (y := (kByt.getD i []).getD ix 0) (by rw [nI_clamp (by omega)]) ?_
  refine lv_sipush (v := 255) hx hb dJ1_charAt_3b067_9 (by decide) ?_
  refine lv_iand hx hb dJ1_charAt_3b067_12 ?_
  refine lv_i2c (v := (Int32.toUInt32 (((kByt.getD i []).getD ix 0) &&& 255) % 65536).toInt32) hx hb dJ1_charAt_3b067_13 rfl ?_
  subst hQ
  exact k_rz hx hb hr hlocks hP hD hS dJ1_charAt_3b067_14 (pk_nc _) (rfl) (rfl)
theorem qJ0_charAt_5068e_0 : Cond.fieldLink RJ0 9 "java/lang/String" "value" "[B" ∈ wsJ0_charAt_5068e := (List.mem_cons_of_mem _ (List.mem_append_left _ (List.mem_of_getElem? (i := 0) rfl)))
set_option maxHeartbeats 4000000 in
set_option maxRecDepth 100000 in
theorem c_J0_charAt_5068e (l : Launch) (D : va_G) (g : Nat → Nat) (sz : Nat) (i : Nat) (ix : Nat) (hi : i < 11) (hix : ix < kLen.getD i 0) : kMi l D g yJ0_charAt_5068e wsJ0_charAt_5068e 5 0 0 [.ref (g (10 + i)), .int (nI ix)] [] sz (kCh i ix) [] := by
  refine k_enter (nm := "charAt") (own := RJ0) (bytes := cJ0_charAt_5068e) (maxL := 2) (ret := (some .char)) (Qf := fun A => kQi D [] A (kCh i ix)) (by decide) rfl rfl rfl (Nat.le_of_ble_eq_true rfl) ?_
  rintro pp ee s mm below meth cc A ls args Q H locs hQ ⟨hx, hb, hr, hml, hown, hts, hlocks, hin⟩ hP hK hD hA hS hE hl
  have hl : lv_has ls 2 [(0, .ref (g (10 + i))), (1, .int (nI ix))] := hl
  have hsm := kLen_small i
  refine lv_aload_n hx hb dJ0_charAt_5068e_0 rfl (lv_at hl 0 rfl) ?_
  refine k_ai (wr := []) (w2 := []) (va_runV (As := []) (rest := []) ⟨hx, hb, hml, hown, hts⟩ (c_J0_isLatin1_aae02 l D g H.size i (by omega)) (cwV 0 hts gJ0_charAt_5068e_J0_isLatin1_aae02 rfl rfl rfl (by decide +kernel) (k_lvl (by omega) (by decide))) (kPVr hP hD hK hS hA hE [] rfl (by decide) (vk_recv (i := i) hE.2.2.1 (by omega) hS)) rfl rfl hl.1 rfl (lv_room (Nat.le_of_ble_eq_true rfl)) dJ0_charAt_5068e_1 ⟨Nat.le_of_ble_eq_true rfl, Nat.le_of_ble_eq_true rfl⟩) hP hD hS hA [] [] [] rfl rfl (by decide) (by decide) rfl (by decide) (fun H locs hP hD hS => ?_)
  refine lv_if_eq (tgt := 16) hx hb dJ0_charAt_5068e_4 (by decide) (fun c_1 => absurd c_1 (by decide)) (fun _ => ?_)
  refine lv_aload_n hx hb dJ0_charAt_5068e_7 rfl (lv_at hl 0 rfl) ?_
  refine vk_getf hx hb (hE.2.2.1.1 i (by omega)).2.2.1 hS hown (hts _ qJ0_charAt_5068e_0) (fun _ h9 => h9) dJ0_charAt_5068e_8 ?_
  refine lv_iload_n hx hb dJ0_charAt_5068e_11 rfl (lv_at hl 1 rfl) ?_
  refine k_ai (wr := []) (w2 := []) (va_runS (As := [.ref (g (30 + i)), .int (nI ix)]) (rest := []) ⟨hx, hb, hml, hown, hts⟩ (c_J1_charAt_3b067 l D g H.size i ix (by omega) (by omega)) (va_cwS 2 hts gJ0_charAt_5068e_J1_charAt_3b067 rfl rfl rfl (by decide +kernel) (k_lvl (by omega) (by decide))) (kPS hP hD hK hS hA hE [] rfl (by decide)) rfl rfl hl.1 rfl (lv_room (Nat.le_of_ble_eq_true rfl)) dJ0_charAt_5068e_12 ⟨Nat.le_of_ble_eq_true rfl, Nat.le_of_ble_eq_true rfl⟩) hP hD hS hA [] [] [] rfl rfl (by decide) (by decide) rfl (by decide) (fun H locs hP hD hS => ?_)
  subst hQ
  exact k_rz hx hb hr hlocks hP hD hS dJ0_charAt_5068e_15 (pk_nc _) (rfl) (rfl)
theorem qX6_size_0 : Cond.fieldLink RX6 15 "BlameChains$Text" "length" "I" ∈ wsX6_size := (List.mem_cons_of_mem _ (List.mem_append_left _ (List.mem_of_getElem? (i := 0) rfl)))
set_option maxHeartbeats 4000000 in
set_option maxRecDepth 100000 in
theorem c_X6_size (l : Launch) (D : va_G) (g : Nat → Nat) (t0 t1 : Nat) (sz : Nat) (ln : Nat) : kMi l D g yX6_size wsX6_size 1 0 0 [.ref t0] [(t0, .inr (6, [.ref t1, .int (nI ln)]))] sz (nI ln) [(t0, .inr (6, [.ref t1, .int (nI ln)]))] := by
  refine k_enter (nm := "size") (own := RX6) (bytes := cX6_size) (maxL := 1) (ret := (some .int)) (Qf := fun A => kQi D [(t0, .inr (6, [.ref t1, .int (nI ln)]))] A (nI ln)) (by decide) rfl rfl rfl (Nat.le_of_ble_eq_true rfl) ?_
  rintro pp ee s mm below meth cc A ls args Q H locs hQ ⟨hx, hb, hr, hml, hown, hts, hlocks, hin⟩ hP hK hD hA hS hE hl
  have hl : lv_has ls 1 [(0, .ref t0)] := hl
  refine lv_aload_n hx hb dX6_size_0 rfl (lv_at hl 0 rfl) ?_
  refine va_get (D := D) (ci := 6) (v := .int (nI ln)) (C := RX6) (T := TX6) (N := 2) hx hb hts (fun w h => (List.mem_cons_of_mem _ (List.mem_append_right _ h))) hown hK hP 0 rfl rfl 1 (by decide) (hts _ qX6_size_0) (fun _ h9 => h9) rfl dX6_size_1 ?_
  subst hQ
  exact k_ri hx hb hr hlocks hP hD hS dX6_size_4 (rfl) (rfl)
def f_X6_isFull (ln : Nat) : Int32 :=
  if ln < 120 then
    0
  else
    1
theorem qX6_isFull_0 : Cond.fieldLink RX6 15 "BlameChains$Text" "length" "I" ∈ wsX6_isFull := (List.mem_cons_of_mem _ (List.mem_append_left _ (List.mem_of_getElem? (i := 0) rfl)))
set_option maxHeartbeats 4000000 in
set_option maxRecDepth 100000 in
theorem c_X6_isFull (l : Launch) (D : va_G) (g : Nat → Nat) (t0 t1 : Nat) (sz : Nat) (ln : Nat) (hln : ln ≤ 120) : kMi l D g yX6_isFull wsX6_isFull 1 0 0 [.ref t0] [(t0, .inr (6, [.ref t1, .int (nI ln)]))] sz (f_X6_isFull ln) [(t0, .inr (6, [.ref t1, .int (nI ln)]))] := by
  refine k_enter (nm := "isFull") (own := RX6) (bytes := cX6_isFull) (maxL := 1) (ret := (some .boolean)) (Qf := fun A => kQi D [(t0, .inr (6, [.ref t1, .int (nI ln)]))] A (f_X6_isFull ln)) (by decide) rfl rfl rfl (Nat.le_of_ble_eq_true rfl) ?_
  rintro pp ee s mm below meth cc A ls args Q H locs hQ ⟨hx, hb, hr, hml, hown, hts, hlocks, hin⟩ hP hK hD hA hS hE hl
  have hl : lv_has ls 1 [(0, .ref t0)] := hl
  refine lv_aload_n hx hb dX6_isFull_0 rfl (lv_at hl 0 rfl) ?_
  refine va_get (D := D) (ci := 6) (v := .int (nI ln)) (C := RX6) (T := TX6) (N := 2) hx hb hts (fun w h => (List.mem_cons_of_mem _ (List.mem_append_right _ h))) hown hK hP 0 rfl rfl 1 (by decide) (hts _ qX6_isFull_0) (fun _ h9 => h9) rfl dX6_isFull_1 ?_
  refine lv_bipush (v := 120) hx hb dX6_isFull_4 (by decide) ?_
  refine lv_icmp_lt (tgt := 13) hx hb dX6_isFull_6 (by decide) (fun c_1 => ?_) (fun c_1 => ?_)
  · have c_1 : ln < 120 := (nI_ltI (a := ln) (b := 120) (by omega) (by omega)).mp c_1
    refine lv_iconst (v := 0) hx hb dX6_isFull_13 (by decide) ?_
    have hE2 : (f_X6_isFull ln) = 0 := by
      exact (if_pos c_1).trans (rfl)
    subst hQ
    exact k_rz hx hb hr hlocks hP hD hS dX6_isFull_14 (by rfl) (hE2.symm) (rfl)
  · have c_1 : ¬ (ln < 120) := fun h9 => c_1 ((nI_ltI (a := ln) (b := 120) (by omega) (by omega)).mpr h9)
    refine lv_iconst (v := 1) hx hb dX6_isFull_9 (by decide) ?_
    refine lv_goto (tgt := 14) hx hb dX6_isFull_10 (by decide) ?_
    have hE2 : (f_X6_isFull ln) = 1 := by
      exact (if_neg c_1).trans (rfl)
    subst hQ
    exact k_rz hx hb hr hlocks hP hD hS dX6_isFull_14 (by rfl) (hE2.symm) (rfl)
theorem qX6_empty_0 : Cond.fieldLink RX6 15 "BlameChains$Text" "length" "I" ∈ wsX6_empty := (List.mem_cons_of_mem _ (List.mem_append_left _ (List.mem_of_getElem? (i := 0) rfl)))
set_option maxHeartbeats 4000000 in
set_option maxRecDepth 100000 in
theorem c_X6_empty (l : Launch) (D : va_G) (g : Nat → Nat) (t0 t1 : Nat) (sz : Nat) (ln : Nat) : kMv l D g yX6_empty wsX6_empty 1 0 0 [.ref t0] [(t0, .inr (6, [.ref t1, .int (nI ln)]))] sz [(t0, .inr (6, [.ref t1, .int 0]))] := by
  refine k_enter (nm := "empty") (own := RX6) (bytes := cX6_empty) (maxL := 1) (ret := none) (Qf := fun A => kQv D [(t0, .inr (6, [.ref t1, .int 0]))] A) (by decide) rfl rfl rfl (Nat.le_of_ble_eq_true rfl) ?_
  rintro pp ee s mm below meth cc A ls args Q H locs hQ ⟨hx, hb, hr, hml, hown, hts, hlocks, hin⟩ hP hK hD hA hS hE hl
  have hl : lv_has ls 1 [(0, .ref t0)] := hl
  refine lv_aload_n hx hb dX6_empty_0 rfl (lv_at hl 0 rfl) ?_
  refine lv_iconst (v := 0) hx hb dX6_empty_1 (by decide) ?_
  refine va_put (D := D) (ci := 6) (v := .int 0) (ty := .int) (C := RX6) (T := TX6) (N := 2) hx hb hts (fun w h => (List.mem_cons_of_mem _ (List.mem_append_right _ h))) tyX6 tyX6_ok nmX6 hown hK hP hD hS 0 rfl rfl 1 (by decide) (hts _ qX6_empty_0) (fun _ h9 => h9) rfl (by decide +kernel) rfl rfl (Nat.le_of_ble_eq_true rfl) dX6_empty_2 (fun H locs hP hD hS => ?_)
  have hP : va_P D vwCl [(t0, .inr (6, [.ref t1, .int 0]))] H := hP
  have hD : va_D A [(t0, .inr (6, [.ref t1, .int 0]))] := hD
  subst hQ
  exact k_rv hx hb hr hlocks hP hD hS dX6_empty_5 (rfl)
theorem k_ch {x : Int32} (h0 : ¬ x < 0) (h : ¬ 255 < x) : (x.toUInt32 % 65536).toInt32 = x ∧ vp_nar .char x = x := by
  have h3 : ¬ (256 : Int32) ≤ x := by
    intro h9
    have h4 := Int32.le_iff_toInt_le.mp h9
    have h5 : (256 : Int32).toInt = 256 := by decide
    have h6 : (255 : Int32).toInt = 255 := by decide
    exact h (Int32.lt_iff_toInt_lt.mpr (by omega))
  obtain ⟨j, hj, e⟩ := k_nI4 (M := 256) (n := 256) (by decide) h0 h3
  subst e
  have h1 : ((nI j).toUInt32 % 65536).toInt32 = nI j := by
    rw [pk_char, pk_tn (by omega), Nat.mod_eq_of_lt (by omega)]
  refine ⟨h1, ?_⟩
  have h2 : vp_nar .char (nI j) = ((nI j).toUInt32 % 65536).toInt32 := by
    rw [vp_nar_char]
    congr 1
  rw [h2, h1]
theorem qX6_put_0 : Cond.fieldLink RX6 11 "BlameChains$Text" "signs" "[C" ∈ wsX6_put := (List.mem_cons_of_mem _ (List.mem_append_left _ (List.mem_of_getElem? (i := 0) rfl)))
theorem qX6_put_1 : Cond.fieldLink RX6 15 "BlameChains$Text" "length" "I" ∈ wsX6_put := (List.mem_cons_of_mem _ (List.mem_append_left _ (List.mem_of_getElem? (i := 1) rfl)))
set_option maxHeartbeats 4000000 in
set_option maxRecDepth 100000 in
theorem c_X6_put (l : Launch) (D : va_G) (g : Nat → Nat) (t0 t1 : Nat) (sz : Nat) (ln : Nat) (sg : Nat → Int32) (code : Int32) (h0 : ¬ code < 0) (h2 : ¬ 255 < code) (hln : ln < 120) : kMv l D g yX6_put wsX6_put 2 0 0 [.ref t0, .int code] [(t0, .inr (6, [.ref t1, .int (nI ln)])), (t1, .inl (g 1, 120, .inl sg))] sz [(t0, .inr (6, [.ref t1, .int (nI (ln + 1))])), (t1, .inl (g 1, 120, .inl (upd sg ln code)))] := by
  refine k_enter (nm := "put") (own := RX6) (bytes := cX6_put) (maxL := 2) (ret := none) (Qf := fun A => kQv D [(t0, .inr (6, [.ref t1, .int (nI (ln + 1))])), (t1, .inl (g 1, 120, .inl (upd sg ln code)))] A) (by decide) rfl rfl rfl (Nat.le_of_ble_eq_true rfl) ?_
  rintro pp ee s mm below meth cc A ls args Q H locs hQ ⟨hx, hb, hr, hml, hown, hts, hlocks, hin⟩ hP hK hD hA hS hE hl
  have hl : lv_has ls 2 [(0, .ref t0), (1, .int code)] := hl
  refine lv_aload_n hx hb dX6_put_0 rfl (lv_at hl 0 rfl) ?_
  refine k_ai (wr := [(t1, .inl (g 1, 120, .inl sg))]) (w2 := [(t0, .inr (6, [.ref t1, .int (nI ln)])), (t1, .inl (g 1, 120, .inl sg))]) (va_runV (As := []) (rest := []) ⟨hx, hb, hml, hown, hts⟩ (c_X6_isFull l D g t0 t1 H.size ln (by omega)) (cwV 0 hts gX6_put_X6_isFull rfl rfl rfl (by decide +kernel) (k_lvl (by omega) (by decide))) (kPV hP hD hK hS hA hE [0] rfl (by decide) 0 6 rfl rfl rfl) rfl rfl hl.1 rfl (lv_room (Nat.le_of_ble_eq_true rfl)) dX6_put_1 ⟨Nat.le_of_ble_eq_true rfl, Nat.le_of_ble_eq_true rfl⟩) hP hD hS hA [0] [1] [1, 0] rfl rfl (by decide) (by decide) rfl (by decide) (fun H locs hP hD hS => ?_)
  refine k_top (y := 0) (by unfold f_X6_isFull; first | rw [if_pos (by omega)] | rw [if_neg (by omega)]) ?_
  refine lv_if_ne (tgt := 28) hx hb dX6_put_4 (by decide) (fun c_1 => absurd c_1 (by decide)) (fun _ => ?_)
  refine lv_aload_n hx hb dX6_put_7 rfl (lv_at hl 0 rfl) ?_
  refine va_get (D := D) (ci := 6) (v := .ref t1) (C := RX6) (T := TX6) (N := 2) hx hb hts (fun w h => (List.mem_cons_of_mem _ (List.mem_append_right _ h))) hown hK hP 0 rfl rfl 0 (by decide) (hts _ qX6_put_0) (fun _ h9 => h9) rfl dX6_put_8 ?_
  refine lv_aload_n hx hb dX6_put_11 rfl (lv_at hl 0 rfl) ?_
  refine va_get (D := D) (ci := 6) (v := .int (nI ln)) (C := RX6) (T := TX6) (N := 2) hx hb hts (fun w h => (List.mem_cons_of_mem _ (List.mem_append_right _ h))) hown hK hP 0 rfl rfl 1 (by decide) (hts _ qX6_put_1) (fun _ h9 => h9) rfl dX6_put_12 ?_
  refine lv_iload_n hx hb dX6_put_15 rfl (lv_at hl 1 rfl) ?_
  refine lv_i2c (v := (Int32.toUInt32 code % 65536).toInt32) hx hb dX6_put_16 rfl ?_
  refine k_top (y := code) ((k_ch h0 h2).1) ?_
  refine va_cast (i := (nI ln)) (x := code) hx hb hK hP hD hS 1 1 rfl rfl (vp_in_nI (n := ln) (by omega) (by omega)) dX6_put_17 (fun H locs hP hD hS => ?_)
  rw [nI_clamp (n := ln) (by omega)] at hP hD
  rw [show vp_nar .char code = code from (k_ch h0 h2).2] at hP hD
  have hP : va_P D vwCl [(t0, .inr (6, [.ref t1, .int (nI ln)])), (t1, .inl (g 1, 120, .inl (upd sg ln code)))] H := hP
  have hD : va_D A [(t0, .inr (6, [.ref t1, .int (nI ln)])), (t1, .inl (g 1, 120, .inl (upd sg ln code)))] := hD
  refine lv_aload_n hx hb dX6_put_18 rfl (lv_at hl 0 rfl) ?_
  refine lv_dup hx hb dX6_put_19 rfl ?_
  refine va_get (D := D) (ci := 6) (v := .int (nI ln)) (C := RX6) (T := TX6) (N := 2) hx hb hts (fun w h => (List.mem_cons_of_mem _ (List.mem_append_right _ h))) hown hK hP 0 rfl rfl 1 (by decide) (hts _ qX6_put_1) (fun _ h9 => h9) rfl dX6_put_20 ?_
  refine lv_iconst (v := 1) hx hb dX6_put_23 (by decide) ?_
  refine lv_iadd hx hb dX6_put_24 ?_
  refine k_top (y := (nI (ln + 1))) (nI_add ln 1) ?_
  refine va_put (D := D) (ci := 6) (v := .int (nI (ln + 1))) (ty := .int) (C := RX6) (T := TX6) (N := 2) hx hb hts (fun w h => (List.mem_cons_of_mem _ (List.mem_append_right _ h))) tyX6 tyX6_ok nmX6 hown hK hP hD hS 0 rfl rfl 1 (by decide) (hts _ qX6_put_1) (fun _ h9 => h9) rfl (by decide +kernel) rfl rfl (Nat.le_of_ble_eq_true rfl) dX6_put_25 (fun H locs hP hD hS => ?_)
  have hP : va_P D vwCl [(t0, .inr (6, [.ref t1, .int (nI (ln + 1))])), (t1, .inl (g 1, 120, .inl (upd sg ln code)))] H := hP
  have hD : va_D A [(t0, .inr (6, [.ref t1, .int (nI (ln + 1))])), (t1, .inl (g 1, 120, .inl (upd sg ln code)))] := hD
  subst hQ
  exact k_rv hx hb hr hlocks hP hD hS dX6_put_28 (rfl)
def f_X6_codeAt (ln : Nat) (sg : Nat → Int32) (ax : Nat) : Int32 :=
  if ln ≤ ax then
    (-1)
  else
    (sg ax)
theorem qX6_codeAt_0 : Cond.fieldLink RX6 15 "BlameChains$Text" "length" "I" ∈ wsX6_codeAt := (List.mem_cons_of_mem _ (List.mem_append_left _ (List.mem_of_getElem? (i := 0) rfl)))
theorem qX6_codeAt_1 : Cond.fieldLink RX6 11 "BlameChains$Text" "signs" "[C" ∈ wsX6_codeAt := (List.mem_cons_of_mem _ (List.mem_append_left _ (List.mem_of_getElem? (i := 1) rfl)))
set_option maxHeartbeats 4000000 in
set_option maxRecDepth 100000 in
theorem c_X6_codeAt (l : Launch) (D : va_G) (g : Nat → Nat) (t0 t1 : Nat) (sz : Nat) (ln : Nat) (sg : Nat → Int32) (ax : Nat) (hln : ln ≤ 120) (hat : ax ≤ 1000) : kMi l D g yX6_codeAt wsX6_codeAt 1 0 0 [.ref t0, .int (nI ax)] [(t0, .inr (6, [.ref t1, .int (nI ln)])), (t1, .inl (g 1, 120, .inl sg))] sz (f_X6_codeAt ln sg ax) [(t0, .inr (6, [.ref t1, .int (nI ln)])), (t1, .inl (g 1, 120, .inl sg))] := by
  refine k_enter (nm := "codeAt") (own := RX6) (bytes := cX6_codeAt) (maxL := 2) (ret := (some .int)) (Qf := fun A => kQi D [(t0, .inr (6, [.ref t1, .int (nI ln)])), (t1, .inl (g 1, 120, .inl sg))] A (f_X6_codeAt ln sg ax)) (by decide) rfl rfl rfl (Nat.le_of_ble_eq_true rfl) ?_
  rintro pp ee s mm below meth cc A ls args Q H locs hQ ⟨hx, hb, hr, hml, hown, hts, hlocks, hin⟩ hP hK hD hA hS hE hl
  have hl : lv_has ls 2 [(0, .ref t0), (1, .int (nI ax))] := hl
  refine lv_iload_n hx hb dX6_codeAt_0 rfl (lv_at hl 1 rfl) ?_
  refine lv_if_lt (tgt := 21) hx hb dX6_codeAt_1 (by decide) (fun c_1 => ?_) (fun c_1 => ?_)
  · have c_1 : ax < 0 := (nI_ltI (a := ax) (b := 0) (by omega) (by omega)).mp c_1
    exfalso; omega
  · have c_1 : ¬ (ax < 0) := fun h9 => c_1 ((nI_ltI (a := ax) (b := 0) (by omega) (by omega)).mpr h9)
    refine lv_iload_n hx hb dX6_codeAt_4 rfl (lv_at hl 1 rfl) ?_
    refine lv_aload_n hx hb dX6_codeAt_5 rfl (lv_at hl 0 rfl) ?_
    refine va_get (D := D) (ci := 6) (v := .int (nI ln)) (C := RX6) (T := TX6) (N := 2) hx hb hts (fun w h => (List.mem_cons_of_mem _ (List.mem_append_right _ h))) hown hK hP 0 rfl rfl 1 (by decide) (hts _ qX6_codeAt_0) (fun _ h9 => h9) rfl dX6_codeAt_6 ?_
    refine lv_icmp_ge (tgt := 21) hx hb dX6_codeAt_9 (by decide) (fun c_2 => ?_) (fun c_2 => ?_)
    · have c_2 : ln ≤ ax := (nI_leI (a := ln) (b := ax) (by omega) (by omega)).mp c_2
      refine lv_iconst (v := (-1)) hx hb dX6_codeAt_21 (by decide) ?_
      have hE2 : (f_X6_codeAt ln sg ax) = (-1) := by
        exact (if_pos c_2).trans (rfl)
      subst hQ
      exact k_ri hx hb hr hlocks hP hD hS dX6_codeAt_22 (hE2.symm) (rfl)
    · have c_2 : ¬ (ln ≤ ax) := fun h9 => c_2 ((nI_leI (a := ln) (b := ax) (by omega) (by omega)).mpr h9)
      refine lv_aload_n hx hb dX6_codeAt_12 rfl (lv_at hl 0 rfl) ?_
      refine va_get (D := D) (ci := 6) (v := .ref t1) (C := RX6) (T := TX6) (N := 2) hx hb hts (fun w h => (List.mem_cons_of_mem _ (List.mem_append_right _ h))) hown hK hP 0 rfl rfl 0 (by decide) (hts _ qX6_codeAt_1) (fun _ h9 => h9) rfl dX6_codeAt_13 ?_
      refine lv_iload_n hx hb dX6_codeAt_16 rfl (lv_at hl 1 rfl) ?_
      refine va_cald (i := (nI ax)) hx hb hK hP 1 1 rfl rfl (vp_in_nI (n := ax) (by omega) (by omega)) dX6_codeAt_17 ?_
      refine k_top (y := (sg ax)) (by rw [nI_clamp (by omega)]) ?_
      refine lv_goto (tgt := 22) hx hb dX6_codeAt_18 (by decide) ?_
      have hE2 : (f_X6_codeAt ln sg ax) = (sg ax) := by
        exact (if_neg c_2).trans (rfl)
      subst hQ
      exact k_ri hx hb hr hlocks hP hD hS dX6_codeAt_22 (hE2.symm) (rfl)
def f_X6_fits (code : Int32) (shape : Int32) : Int32 :=
  if shape = 48 then
    if code = 48 then
      1
    else
      0
  else
    if shape = 115 then
      if code = 43 then
        1
      else
        if code = 45 then
          1
        else
          0
    else
      if code < 48 then
        0
      else
        if 57 < code then
          0
        else
          1
set_option maxHeartbeats 4000000 in
set_option maxRecDepth 100000 in
theorem c_X6_fits (l : Launch) (D : va_G) (g : Nat → Nat) (sz : Nat) (code : Int32) (shape : Int32) : kMi l D g yX6_fits wsX6_fits 1 0 0 [.int code, .int shape] [] sz (f_X6_fits code shape) [] := by
  refine k_enter (nm := "fits") (own := RX6) (bytes := cX6_fits) (maxL := 2) (ret := (some .boolean)) (Qf := fun A => kQi D [] A (f_X6_fits code shape)) (by decide) rfl rfl rfl (Nat.le_of_ble_eq_true rfl) ?_
  rintro pp ee s mm below meth cc A ls args Q H locs hQ ⟨hx, hb, hr, hml, hown, hts, hlocks, hin⟩ hP hK hD hA hS hE hl
  have hl : lv_has ls 2 [(0, .int code), (1, .int shape)] := hl
  refine lv_iload_n hx hb dX6_fits_0 rfl (lv_at hl 1 rfl) ?_
  by_cases c_1 : shape = 48
  · refine k_lookIn (v := 48) (off := (45)) (tgt := 46) hx hb dX6_fits_1 c_1 (by decide) (by decide) (by decide) ?_
    refine lv_iload_n hx hb dX6_fits_46 rfl (lv_at hl 0 rfl) ?_
    refine lv_bipush (v := 48) hx hb dX6_fits_47 (by decide) ?_
    refine lv_icmp_ne (tgt := 56) hx hb dX6_fits_49 (by decide) (fun c_2 => ?_) (fun c_2 => ?_)
    · refine lv_iconst (v := 0) hx hb dX6_fits_56 (by decide) ?_
      have hE2 : (f_X6_fits code shape) = 0 := by
        exact (if_pos c_1).trans ((if_neg c_2).trans (rfl))
      subst hQ
      exact k_rz hx hb hr hlocks hP hD hS dX6_fits_57 (by rfl) (hE2.symm) (rfl)
    · refine lv_iconst (v := 1) hx hb dX6_fits_52 (by decide) ?_
      refine lv_goto (tgt := 57) hx hb dX6_fits_53 (by decide) ?_
      have hE2 : (f_X6_fits code shape) = 1 := by
        exact (if_pos c_1).trans ((if_pos c_2).trans (rfl))
      subst hQ
      exact k_rz hx hb hr hlocks hP hD hS dX6_fits_57 (by rfl) (hE2.symm) (rfl)
  by_cases c_3 : shape = 115
  · refine k_lookIn (v := 115) (off := (27)) (tgt := 28) hx hb dX6_fits_1 c_3 (by decide) (by decide) (by decide) ?_
    refine lv_iload_n hx hb dX6_fits_28 rfl (lv_at hl 0 rfl) ?_
    refine lv_bipush (v := 43) hx hb dX6_fits_29 (by decide) ?_
    refine lv_icmp_eq (tgt := 40) hx hb dX6_fits_31 (by decide) (fun c_4 => ?_) (fun c_4 => ?_)
    · refine lv_iconst (v := 1) hx hb dX6_fits_40 (by decide) ?_
      refine lv_goto (tgt := 45) hx hb dX6_fits_41 (by decide) ?_
      have hE2 : (f_X6_fits code shape) = 1 := by
        exact (if_neg c_1).trans ((if_pos c_3).trans ((if_pos c_4).trans (rfl)))
      subst hQ
      exact k_rz hx hb hr hlocks hP hD hS dX6_fits_45 (by rfl) (hE2.symm) (rfl)
    · refine lv_iload_n hx hb dX6_fits_34 rfl (lv_at hl 0 rfl) ?_
      refine lv_bipush (v := 45) hx hb dX6_fits_35 (by decide) ?_
      refine lv_icmp_ne (tgt := 44) hx hb dX6_fits_37 (by decide) (fun c_5 => ?_) (fun c_5 => ?_)
      · refine lv_iconst (v := 0) hx hb dX6_fits_44 (by decide) ?_
        have hE2 : (f_X6_fits code shape) = 0 := by
          exact (if_neg c_1).trans ((if_pos c_3).trans ((if_neg c_4).trans ((if_neg c_5).trans (rfl))))
        subst hQ
        exact k_rz hx hb hr hlocks hP hD hS dX6_fits_45 (by rfl) (hE2.symm) (rfl)
      · refine lv_iconst (v := 1) hx hb dX6_fits_40 (by decide) ?_
        refine lv_goto (tgt := 45) hx hb dX6_fits_41 (by decide) ?_
        have hE2 : (f_X6_fits code shape) = 1 := by
          exact (if_neg c_1).trans ((if_pos c_3).trans ((if_neg c_4).trans ((if_pos c_5).trans (rfl))))
        subst hQ
        exact k_rz hx hb hr hlocks hP hD hS dX6_fits_45 (by rfl) (hE2.symm) (rfl)
  refine lv_lookup (off := (57)) (tgt := 58) hx hb dX6_fits_1 (by decide) (by rw [lv_osw c_1 (by decide), lv_osw c_3 (by decide)]; rfl) (by decide) ?_
  refine lv_iload_n hx hb dX6_fits_58 rfl (lv_at hl 0 rfl) ?_
  refine lv_bipush (v := 48) hx hb dX6_fits_59 (by decide) ?_
  refine lv_icmp_lt (tgt := 74) hx hb dX6_fits_61 (by decide) (fun c_6 => ?_) (fun c_6 => ?_)
  · refine lv_iconst (v := 0) hx hb dX6_fits_74 (by decide) ?_
    have hE2 : (f_X6_fits code shape) = 0 := by
      exact (if_neg c_1).trans ((if_neg c_3).trans ((if_pos c_6).trans (rfl)))
    subst hQ
    exact k_rz hx hb hr hlocks hP hD hS dX6_fits_75 (by rfl) (hE2.symm) (rfl)
  · refine lv_iload_n hx hb dX6_fits_64 rfl (lv_at hl 0 rfl) ?_
    refine lv_bipush (v := 57) hx hb dX6_fits_65 (by decide) ?_
    refine lv_icmp_gt (tgt := 74) hx hb dX6_fits_67 (by decide) (fun c_7 => ?_) (fun c_7 => ?_)
    · refine lv_iconst (v := 0) hx hb dX6_fits_74 (by decide) ?_
      have hE2 : (f_X6_fits code shape) = 0 := by
        exact (if_neg c_1).trans ((if_neg c_3).trans ((if_neg c_6).trans ((if_pos c_7).trans (rfl))))
      subst hQ
      exact k_rz hx hb hr hlocks hP hD hS dX6_fits_75 (by rfl) (hE2.symm) (rfl)
    · refine lv_iconst (v := 1) hx hb dX6_fits_70 (by decide) ?_
      refine lv_goto (tgt := 75) hx hb dX6_fits_71 (by decide) ?_
      have hE2 : (f_X6_fits code shape) = 1 := by
        exact (if_neg c_1).trans ((if_neg c_3).trans ((if_neg c_6).trans ((if_neg c_7).trans (rfl))))
      subst hQ
      exact k_rz hx hb hr hlocks hP hD hS dX6_fits_75 (by rfl) (hE2.symm) (rfl)
