-- MODULE: the reference, its methods, 3
noncomputable section
def f_X8_standsIn (rw : Nat → Int32) (sd : Nat) (pa : Nat) (so : Nat) (qa : Nat) : Int32 :=
  if (rw (81 + 5 * (10 * so + qa) + 1)) < (rw (81 + 5 * (10 * sd + pa) + 1)) then
    if (rw (81 + 5 * (10 * sd + pa) + 3)) < (rw (81 + 5 * (10 * so + qa) + 3)) then
      0
    else
      if (rw (81 + 5 * (10 * so + qa) + 4)) < (rw (81 + 5 * (10 * sd + pa) + 4)) then
        0
      else
        0
  else
    if (rw (81 + 5 * (10 * sd + pa) + 2)) < (rw (81 + 5 * (10 * so + qa) + 2)) then
      if (rw (81 + 5 * (10 * sd + pa) + 3)) < (rw (81 + 5 * (10 * so + qa) + 3)) then
        0
      else
        if (rw (81 + 5 * (10 * so + qa) + 4)) < (rw (81 + 5 * (10 * sd + pa) + 4)) then
          0
        else
          0
    else
      if (rw (81 + 5 * (10 * sd + pa) + 3)) < (rw (81 + 5 * (10 * so + qa) + 3)) then
        0
      else
        if (rw (81 + 5 * (10 * so + qa) + 4)) < (rw (81 + 5 * (10 * sd + pa) + 4)) then
          0
        else
          1
set_option maxHeartbeats 4000000 in
set_option maxRecDepth 100000 in
theorem c_X8_standsIn (l : Launch) (D : va_G) (g : Nat → Nat) (r0 : Nat) (sz : Nat) (rw : Nat → Int32) (sd : Nat) (pa : Nat) (so : Nat) (qa : Nat) (hsd : sd < 12) (hpa : pa < 10) (hso : so < 12) (hqa : qa < 10) : kMi l D g yX8_standsIn wsX8_standsIn 2 0 0 [.ref r0, .int (nI sd), .int (nI pa), .int (nI so), .int (nI qa)] [(r0, .inl (g 0, 748, .inl rw))] sz (f_X8_standsIn rw sd pa so qa) [(r0, .inl (g 0, 748, .inl rw))] := by
  refine k_enter (nm := "standsIn") (own := RX8) (bytes := cX8_standsIn) (maxL := 7) (ret := (some .boolean)) (Qf := fun A => kQi D [(r0, .inl (g 0, 748, .inl rw))] A (f_X8_standsIn rw sd pa so qa)) (by decide) rfl rfl rfl (Nat.le_of_ble_eq_true rfl) ?_
  rintro pp ee s mm below meth cc A ls args Q H locs hQ ⟨hx, hb, hr, hml, hown, hts, hlocks, hin⟩ hP hK hD hA hS hE hl
  have hl : lv_has ls 7 [(0, .ref r0), (1, .int (nI sd)), (2, .int (nI pa)), (3, .int (nI so)), (4, .int (nI qa))] := hl
  refine lv_aload_n hx hb dX8_standsIn_0 rfl (lv_at hl 0 rfl) ?_
  refine lv_iload_n hx hb dX8_standsIn_1 rfl (lv_at hl 1 rfl) ?_
  refine lv_iload_n hx hb dX8_standsIn_2 rfl (lv_at hl 2 rfl) ?_
  refine lv_iconst (v := 1) hx hb dX8_standsIn_3 (by decide) ?_
  refine k_ai (wr := [(r0, .inl (g 0, 748, .inl rw))]) (w2 := [(r0, .inl (g 0, 748, .inl rw))]) (va_runS (As := [.int (nI sd), .int (nI pa), .int 1]) (rest := [.ref r0]) ⟨hx, hb, hml, hown, hts⟩ (c_X8_contractAt l D g H.size sd pa 1) (va_cwS 3 hts gX8_standsIn_X8_contractAt rfl rfl rfl (by decide +kernel) (k_lvl (by omega) (by decide))) (kPS hP hD hK hS hA hE [] rfl (by decide)) rfl rfl hl.1 rfl (lv_room (Nat.le_of_ble_eq_true rfl)) dX8_standsIn_4 ⟨Nat.le_of_ble_eq_true rfl, Nat.le_of_ble_eq_true rfl⟩) hP hD hS hA [] [0] [0] rfl rfl (by decide) (by decide) rfl (by decide) (fun H locs hP hD hS => ?_)
  refine va_iald (i := (nI (81 + 5 * (10 * sd + pa) + 1))) hx hb hK hP 0 0 rfl rfl (vp_in_nI (n := (81 + 5 * (10 * sd + pa) + 1)) (by omega) (by omega)) dX8_standsIn_7 ?_
  refine k_top (y := (rw (81 + 5 * (10 * sd + pa) + 1))) (by rw [nI_clamp (by omega)]) ?_
  refine lv_aload_n hx hb dX8_standsIn_8 rfl (lv_at hl 0 rfl) ?_
  refine lv_iload_n hx hb dX8_standsIn_9 rfl (lv_at hl 3 rfl) ?_
  refine lv_iload hx hb dX8_standsIn_10 (lv_at hl 4 rfl) ?_
  refine lv_iconst (v := 1) hx hb dX8_standsIn_12 (by decide) ?_
  refine k_ai (wr := [(r0, .inl (g 0, 748, .inl rw))]) (w2 := [(r0, .inl (g 0, 748, .inl rw))]) (va_runS (As := [.int (nI so), .int (nI qa), .int 1]) (rest := [.ref r0, .int (rw (81 + 5 * (10 * sd + pa) + 1))]) ⟨hx, hb, hml, hown, hts⟩ (c_X8_contractAt l D g H.size so qa 1) (va_cwS 3 hts gX8_standsIn_X8_contractAt rfl rfl rfl (by decide +kernel) (k_lvl (by omega) (by decide))) (kPS hP hD hK hS hA hE [] rfl (by decide)) rfl rfl hl.1 rfl (lv_room (Nat.le_of_ble_eq_true rfl)) dX8_standsIn_13 ⟨Nat.le_of_ble_eq_true rfl, Nat.le_of_ble_eq_true rfl⟩) hP hD hS hA [] [0] [0] rfl rfl (by decide) (by decide) rfl (by decide) (fun H locs hP hD hS => ?_)
  refine va_iald (i := (nI (81 + 5 * (10 * so + qa) + 1))) hx hb hK hP 0 0 rfl rfl (vp_in_nI (n := (81 + 5 * (10 * so + qa) + 1)) (by omega) (by omega)) dX8_standsIn_16 ?_
  refine k_top (y := (rw (81 + 5 * (10 * so + qa) + 1))) (by rw [nI_clamp (by omega)]) ?_
  refine lv_icmp_gt (tgt := 44) hx hb dX8_standsIn_17 (by decide) (fun c_1 => ?_) (fun c_1 => ?_)
  · refine lv_iconst (v := 0) hx hb dX8_standsIn_44 (by decide) ?_
    refine lv_istore (lv' := [(5, .int 0), (0, .ref r0), (1, .int (nI sd)), (2, .int (nI pa)), (3, .int (nI so)), (4, .int (nI qa))]) hx hb dX8_standsIn_45 hl (by decide) rfl (fun ls hl => ?_)
    refine lv_aload_n hx hb dX8_standsIn_47 rfl (lv_at hl 1 rfl) ?_
    refine lv_iload_n hx hb dX8_standsIn_48 rfl (lv_at hl 2 rfl) ?_
    refine lv_iload_n hx hb dX8_standsIn_49 rfl (lv_at hl 3 rfl) ?_
    refine lv_iconst (v := 3) hx hb dX8_standsIn_50 (by decide) ?_
    refine k_ai (wr := [(r0, .inl (g 0, 748, .inl rw))]) (w2 := [(r0, .inl (g 0, 748, .inl rw))]) (va_runS (As := [.int (nI sd), .int (nI pa), .int 3]) (rest := [.ref r0]) ⟨hx, hb, hml, hown, hts⟩ (c_X8_contractAt l D g H.size sd pa 3) (va_cwS 3 hts gX8_standsIn_X8_contractAt rfl rfl rfl (by decide +kernel) (k_lvl (by omega) (by decide))) (kPS hP hD hK hS hA hE [] rfl (by decide)) rfl rfl hl.1 rfl (lv_room (Nat.le_of_ble_eq_true rfl)) dX8_standsIn_51 ⟨Nat.le_of_ble_eq_true rfl, Nat.le_of_ble_eq_true rfl⟩) hP hD hS hA [] [0] [0] rfl rfl (by decide) (by decide) rfl (by decide) (fun H locs hP hD hS => ?_)
    refine va_iald (i := (nI (81 + 5 * (10 * sd + pa) + 3))) hx hb hK hP 0 0 rfl rfl (vp_in_nI (n := (81 + 5 * (10 * sd + pa) + 3)) (by omega) (by omega)) dX8_standsIn_54 ?_
    refine k_top (y := (rw (81 + 5 * (10 * sd + pa) + 3))) (by rw [nI_clamp (by omega)]) ?_
    refine lv_aload_n hx hb dX8_standsIn_55 rfl (lv_at hl 1 rfl) ?_
    refine lv_iload_n hx hb dX8_standsIn_56 rfl (lv_at hl 4 rfl) ?_
    refine lv_iload hx hb dX8_standsIn_57 (lv_at hl 5 rfl) ?_
    refine lv_iconst (v := 3) hx hb dX8_standsIn_59 (by decide) ?_
    refine k_ai (wr := [(r0, .inl (g 0, 748, .inl rw))]) (w2 := [(r0, .inl (g 0, 748, .inl rw))]) (va_runS (As := [.int (nI so), .int (nI qa), .int 3]) (rest := [.ref r0, .int (rw (81 + 5 * (10 * sd + pa) + 3))]) ⟨hx, hb, hml, hown, hts⟩ (c_X8_contractAt l D g H.size so qa 3) (va_cwS 3 hts gX8_standsIn_X8_contractAt rfl rfl rfl (by decide +kernel) (k_lvl (by omega) (by decide))) (kPS hP hD hK hS hA hE [] rfl (by decide)) rfl rfl hl.1 rfl (lv_room (Nat.le_of_ble_eq_true rfl)) dX8_standsIn_60 ⟨Nat.le_of_ble_eq_true rfl, Nat.le_of_ble_eq_true rfl⟩) hP hD hS hA [] [0] [0] rfl rfl (by decide) (by decide) rfl (by decide) (fun H locs hP hD hS => ?_)
    refine va_iald (i := (nI (81 + 5 * (10 * so + qa) + 3))) hx hb hK hP 0 0 rfl rfl (vp_in_nI (n := (81 + 5 * (10 * so + qa) + 3)) (by omega) (by omega)) dX8_standsIn_63 ?_
    refine k_top (y := (rw (81 + 5 * (10 * so + qa) + 3))) (by rw [nI_clamp (by omega)]) ?_
    refine lv_icmp_lt (tgt := 91) hx hb dX8_standsIn_64 (by decide) (fun c_2 => ?_) (fun c_2 => ?_)
    · refine lv_iconst (v := 0) hx hb dX8_standsIn_91 (by decide) ?_
      refine lv_istore (lv' := [(6, .int 0), (5, .int 0), (0, .ref r0), (1, .int (nI sd)), (2, .int (nI pa)), (3, .int (nI so)), (4, .int (nI qa))]) hx hb dX8_standsIn_92 hl (by decide) rfl (fun ls hl => ?_)
      refine lv_iload hx hb dX8_standsIn_94 (lv_at hl 1 rfl) ?_
      refine lv_if_eq (tgt := 108) hx hb dX8_standsIn_96 (by decide) (fun _ => ?_) (fun c_3 => absurd c_3 (by decide))
      refine lv_iconst (v := 0) hx hb dX8_standsIn_108 (by decide) ?_
      have hE2 : (f_X8_standsIn rw sd pa so qa) = 0 := by
        exact (if_pos c_1).trans ((if_pos c_2).trans (rfl))
      subst hQ
      exact k_rz hx hb hr hlocks hP hD hS dX8_standsIn_109 (by rfl) (hE2.symm) (rfl)
    · refine lv_aload_n hx hb dX8_standsIn_67 rfl (lv_at hl 1 rfl) ?_
      refine lv_iload_n hx hb dX8_standsIn_68 rfl (lv_at hl 2 rfl) ?_
      refine lv_iload_n hx hb dX8_standsIn_69 rfl (lv_at hl 3 rfl) ?_
      refine lv_iconst (v := 4) hx hb dX8_standsIn_70 (by decide) ?_
      refine k_ai (wr := [(r0, .inl (g 0, 748, .inl rw))]) (w2 := [(r0, .inl (g 0, 748, .inl rw))]) (va_runS (As := [.int (nI sd), .int (nI pa), .int 4]) (rest := [.ref r0]) ⟨hx, hb, hml, hown, hts⟩ (c_X8_contractAt l D g H.size sd pa 4) (va_cwS 3 hts gX8_standsIn_X8_contractAt rfl rfl rfl (by decide +kernel) (k_lvl (by omega) (by decide))) (kPS hP hD hK hS hA hE [] rfl (by decide)) rfl rfl hl.1 rfl (lv_room (Nat.le_of_ble_eq_true rfl)) dX8_standsIn_71 ⟨Nat.le_of_ble_eq_true rfl, Nat.le_of_ble_eq_true rfl⟩) hP hD hS hA [] [0] [0] rfl rfl (by decide) (by decide) rfl (by decide) (fun H locs hP hD hS => ?_)
      refine va_iald (i := (nI (81 + 5 * (10 * sd + pa) + 4))) hx hb hK hP 0 0 rfl rfl (vp_in_nI (n := (81 + 5 * (10 * sd + pa) + 4)) (by omega) (by omega)) dX8_standsIn_74 ?_
      refine k_top (y := (rw (81 + 5 * (10 * sd + pa) + 4))) (by rw [nI_clamp (by omega)]) ?_
      refine lv_aload_n hx hb dX8_standsIn_75 rfl (lv_at hl 1 rfl) ?_
      refine lv_iload_n hx hb dX8_standsIn_76 rfl (lv_at hl 4 rfl) ?_
      refine lv_iload hx hb dX8_standsIn_77 (lv_at hl 5 rfl) ?_
      refine lv_iconst (v := 4) hx hb dX8_standsIn_79 (by decide) ?_
      refine k_ai (wr := [(r0, .inl (g 0, 748, .inl rw))]) (w2 := [(r0, .inl (g 0, 748, .inl rw))]) (va_runS (As := [.int (nI so), .int (nI qa), .int 4]) (rest := [.ref r0, .int (rw (81 + 5 * (10 * sd + pa) + 4))]) ⟨hx, hb, hml, hown, hts⟩ (c_X8_contractAt l D g H.size so qa 4) (va_cwS 3 hts gX8_standsIn_X8_contractAt rfl rfl rfl (by decide +kernel) (k_lvl (by omega) (by decide))) (kPS hP hD hK hS hA hE [] rfl (by decide)) rfl rfl hl.1 rfl (lv_room (Nat.le_of_ble_eq_true rfl)) dX8_standsIn_80 ⟨Nat.le_of_ble_eq_true rfl, Nat.le_of_ble_eq_true rfl⟩) hP hD hS hA [] [0] [0] rfl rfl (by decide) (by decide) rfl (by decide) (fun H locs hP hD hS => ?_)
      refine va_iald (i := (nI (81 + 5 * (10 * so + qa) + 4))) hx hb hK hP 0 0 rfl rfl (vp_in_nI (n := (81 + 5 * (10 * so + qa) + 4)) (by omega) (by omega)) dX8_standsIn_83 ?_
      refine k_top (y := (rw (81 + 5 * (10 * so + qa) + 4))) (by rw [nI_clamp (by omega)]) ?_
      refine lv_icmp_gt (tgt := 91) hx hb dX8_standsIn_84 (by decide) (fun c_4 => ?_) (fun c_4 => ?_)
      · refine lv_iconst (v := 0) hx hb dX8_standsIn_91 (by decide) ?_
        refine lv_istore (lv' := [(6, .int 0), (5, .int 0), (0, .ref r0), (1, .int (nI sd)), (2, .int (nI pa)), (3, .int (nI so)), (4, .int (nI qa))]) hx hb dX8_standsIn_92 hl (by decide) rfl (fun ls hl => ?_)
        refine lv_iload hx hb dX8_standsIn_94 (lv_at hl 1 rfl) ?_
        refine lv_if_eq (tgt := 108) hx hb dX8_standsIn_96 (by decide) (fun _ => ?_) (fun c_5 => absurd c_5 (by decide))
        refine lv_iconst (v := 0) hx hb dX8_standsIn_108 (by decide) ?_
        have hE2 : (f_X8_standsIn rw sd pa so qa) = 0 := by
          exact (if_pos c_1).trans ((if_neg c_2).trans ((if_pos c_4).trans (rfl)))
        subst hQ
        exact k_rz hx hb hr hlocks hP hD hS dX8_standsIn_109 (by rfl) (hE2.symm) (rfl)
      · refine lv_iconst (v := 1) hx hb dX8_standsIn_87 (by decide) ?_
        refine lv_goto (tgt := 92) hx hb dX8_standsIn_88 (by decide) ?_
        refine lv_istore (lv' := [(6, .int 1), (5, .int 0), (0, .ref r0), (1, .int (nI sd)), (2, .int (nI pa)), (3, .int (nI so)), (4, .int (nI qa))]) hx hb dX8_standsIn_92 hl (by decide) rfl (fun ls hl => ?_)
        refine lv_iload hx hb dX8_standsIn_94 (lv_at hl 1 rfl) ?_
        refine lv_if_eq (tgt := 108) hx hb dX8_standsIn_96 (by decide) (fun _ => ?_) (fun c_6 => absurd c_6 (by decide))
        refine lv_iconst (v := 0) hx hb dX8_standsIn_108 (by decide) ?_
        have hE2 : (f_X8_standsIn rw sd pa so qa) = 0 := by
          exact (if_pos c_1).trans ((if_neg c_2).trans ((if_neg c_4).trans (rfl)))
        subst hQ
        exact k_rz hx hb hr hlocks hP hD hS dX8_standsIn_109 (by rfl) (hE2.symm) (rfl)
  · refine lv_aload_n hx hb dX8_standsIn_20 rfl (lv_at hl 0 rfl) ?_
    refine lv_iload_n hx hb dX8_standsIn_21 rfl (lv_at hl 1 rfl) ?_
    refine lv_iload_n hx hb dX8_standsIn_22 rfl (lv_at hl 2 rfl) ?_
    refine lv_iconst (v := 2) hx hb dX8_standsIn_23 (by decide) ?_
    refine k_ai (wr := [(r0, .inl (g 0, 748, .inl rw))]) (w2 := [(r0, .inl (g 0, 748, .inl rw))]) (va_runS (As := [.int (nI sd), .int (nI pa), .int 2]) (rest := [.ref r0]) ⟨hx, hb, hml, hown, hts⟩ (c_X8_contractAt l D g H.size sd pa 2) (va_cwS 3 hts gX8_standsIn_X8_contractAt rfl rfl rfl (by decide +kernel) (k_lvl (by omega) (by decide))) (kPS hP hD hK hS hA hE [] rfl (by decide)) rfl rfl hl.1 rfl (lv_room (Nat.le_of_ble_eq_true rfl)) dX8_standsIn_24 ⟨Nat.le_of_ble_eq_true rfl, Nat.le_of_ble_eq_true rfl⟩) hP hD hS hA [] [0] [0] rfl rfl (by decide) (by decide) rfl (by decide) (fun H locs hP hD hS => ?_)
    refine va_iald (i := (nI (81 + 5 * (10 * sd + pa) + 2))) hx hb hK hP 0 0 rfl rfl (vp_in_nI (n := (81 + 5 * (10 * sd + pa) + 2)) (by omega) (by omega)) dX8_standsIn_27 ?_
    refine k_top (y := (rw (81 + 5 * (10 * sd + pa) + 2))) (by rw [nI_clamp (by omega)]) ?_
    refine lv_aload_n hx hb dX8_standsIn_28 rfl (lv_at hl 0 rfl) ?_
    refine lv_iload_n hx hb dX8_standsIn_29 rfl (lv_at hl 3 rfl) ?_
    refine lv_iload hx hb dX8_standsIn_30 (lv_at hl 4 rfl) ?_
    refine lv_iconst (v := 2) hx hb dX8_standsIn_32 (by decide) ?_
    refine k_ai (wr := [(r0, .inl (g 0, 748, .inl rw))]) (w2 := [(r0, .inl (g 0, 748, .inl rw))]) (va_runS (As := [.int (nI so), .int (nI qa), .int 2]) (rest := [.ref r0, .int (rw (81 + 5 * (10 * sd + pa) + 2))]) ⟨hx, hb, hml, hown, hts⟩ (c_X8_contractAt l D g H.size so qa 2) (va_cwS 3 hts gX8_standsIn_X8_contractAt rfl rfl rfl (by decide +kernel) (k_lvl (by omega) (by decide))) (kPS hP hD hK hS hA hE [] rfl (by decide)) rfl rfl hl.1 rfl (lv_room (Nat.le_of_ble_eq_true rfl)) dX8_standsIn_33 ⟨Nat.le_of_ble_eq_true rfl, Nat.le_of_ble_eq_true rfl⟩) hP hD hS hA [] [0] [0] rfl rfl (by decide) (by decide) rfl (by decide) (fun H locs hP hD hS => ?_)
    refine va_iald (i := (nI (81 + 5 * (10 * so + qa) + 2))) hx hb hK hP 0 0 rfl rfl (vp_in_nI (n := (81 + 5 * (10 * so + qa) + 2)) (by omega) (by omega)) dX8_standsIn_36 ?_
    refine k_top (y := (rw (81 + 5 * (10 * so + qa) + 2))) (by rw [nI_clamp (by omega)]) ?_
    refine lv_icmp_lt (tgt := 44) hx hb dX8_standsIn_37 (by decide) (fun c_7 => ?_) (fun c_7 => ?_)
    · refine lv_iconst (v := 0) hx hb dX8_standsIn_44 (by decide) ?_
      refine lv_istore (lv' := [(5, .int 0), (0, .ref r0), (1, .int (nI sd)), (2, .int (nI pa)), (3, .int (nI so)), (4, .int (nI qa))]) hx hb dX8_standsIn_45 hl (by decide) rfl (fun ls hl => ?_)
      refine lv_aload_n hx hb dX8_standsIn_47 rfl (lv_at hl 1 rfl) ?_
      refine lv_iload_n hx hb dX8_standsIn_48 rfl (lv_at hl 2 rfl) ?_
      refine lv_iload_n hx hb dX8_standsIn_49 rfl (lv_at hl 3 rfl) ?_
      refine lv_iconst (v := 3) hx hb dX8_standsIn_50 (by decide) ?_
      refine k_ai (wr := [(r0, .inl (g 0, 748, .inl rw))]) (w2 := [(r0, .inl (g 0, 748, .inl rw))]) (va_runS (As := [.int (nI sd), .int (nI pa), .int 3]) (rest := [.ref r0]) ⟨hx, hb, hml, hown, hts⟩ (c_X8_contractAt l D g H.size sd pa 3) (va_cwS 3 hts gX8_standsIn_X8_contractAt rfl rfl rfl (by decide +kernel) (k_lvl (by omega) (by decide))) (kPS hP hD hK hS hA hE [] rfl (by decide)) rfl rfl hl.1 rfl (lv_room (Nat.le_of_ble_eq_true rfl)) dX8_standsIn_51 ⟨Nat.le_of_ble_eq_true rfl, Nat.le_of_ble_eq_true rfl⟩) hP hD hS hA [] [0] [0] rfl rfl (by decide) (by decide) rfl (by decide) (fun H locs hP hD hS => ?_)
      refine va_iald (i := (nI (81 + 5 * (10 * sd + pa) + 3))) hx hb hK hP 0 0 rfl rfl (vp_in_nI (n := (81 + 5 * (10 * sd + pa) + 3)) (by omega) (by omega)) dX8_standsIn_54 ?_
      refine k_top (y := (rw (81 + 5 * (10 * sd + pa) + 3))) (by rw [nI_clamp (by omega)]) ?_
      refine lv_aload_n hx hb dX8_standsIn_55 rfl (lv_at hl 1 rfl) ?_
      refine lv_iload_n hx hb dX8_standsIn_56 rfl (lv_at hl 4 rfl) ?_
      refine lv_iload hx hb dX8_standsIn_57 (lv_at hl 5 rfl) ?_
      refine lv_iconst (v := 3) hx hb dX8_standsIn_59 (by decide) ?_
      refine k_ai (wr := [(r0, .inl (g 0, 748, .inl rw))]) (w2 := [(r0, .inl (g 0, 748, .inl rw))]) (va_runS (As := [.int (nI so), .int (nI qa), .int 3]) (rest := [.ref r0, .int (rw (81 + 5 * (10 * sd + pa) + 3))]) ⟨hx, hb, hml, hown, hts⟩ (c_X8_contractAt l D g H.size so qa 3) (va_cwS 3 hts gX8_standsIn_X8_contractAt rfl rfl rfl (by decide +kernel) (k_lvl (by omega) (by decide))) (kPS hP hD hK hS hA hE [] rfl (by decide)) rfl rfl hl.1 rfl (lv_room (Nat.le_of_ble_eq_true rfl)) dX8_standsIn_60 ⟨Nat.le_of_ble_eq_true rfl, Nat.le_of_ble_eq_true rfl⟩) hP hD hS hA [] [0] [0] rfl rfl (by decide) (by decide) rfl (by decide) (fun H locs hP hD hS => ?_)
      refine va_iald (i := (nI (81 + 5 * (10 * so + qa) + 3))) hx hb hK hP 0 0 rfl rfl (vp_in_nI (n := (81 + 5 * (10 * so + qa) + 3)) (by omega) (by omega)) dX8_standsIn_63 ?_
      refine k_top (y := (rw (81 + 5 * (10 * so + qa) + 3))) (by rw [nI_clamp (by omega)]) ?_
      refine lv_icmp_lt (tgt := 91) hx hb dX8_standsIn_64 (by decide) (fun c_8 => ?_) (fun c_8 => ?_)
      · refine lv_iconst (v := 0) hx hb dX8_standsIn_91 (by decide) ?_
        refine lv_istore (lv' := [(6, .int 0), (5, .int 0), (0, .ref r0), (1, .int (nI sd)), (2, .int (nI pa)), (3, .int (nI so)), (4, .int (nI qa))]) hx hb dX8_standsIn_92 hl (by decide) rfl (fun ls hl => ?_)
        refine lv_iload hx hb dX8_standsIn_94 (lv_at hl 1 rfl) ?_
        refine lv_if_eq (tgt := 108) hx hb dX8_standsIn_96 (by decide) (fun _ => ?_) (fun c_9 => absurd c_9 (by decide))
        refine lv_iconst (v := 0) hx hb dX8_standsIn_108 (by decide) ?_
        have hE2 : (f_X8_standsIn rw sd pa so qa) = 0 := by
          exact (if_neg c_1).trans ((if_pos c_7).trans ((if_pos c_8).trans (rfl)))
        subst hQ
        exact k_rz hx hb hr hlocks hP hD hS dX8_standsIn_109 (by rfl) (hE2.symm) (rfl)
      · refine lv_aload_n hx hb dX8_standsIn_67 rfl (lv_at hl 1 rfl) ?_
        refine lv_iload_n hx hb dX8_standsIn_68 rfl (lv_at hl 2 rfl) ?_
        refine lv_iload_n hx hb dX8_standsIn_69 rfl (lv_at hl 3 rfl) ?_
        refine lv_iconst (v := 4) hx hb dX8_standsIn_70 (by decide) ?_
        refine k_ai (wr := [(r0, .inl (g 0, 748, .inl rw))]) (w2 := [(r0, .inl (g 0, 748, .inl rw))]) (va_runS (As := [.int (nI sd), .int (nI pa), .int 4]) (rest := [.ref r0]) ⟨hx, hb, hml, hown, hts⟩ (c_X8_contractAt l D g H.size sd pa 4) (va_cwS 3 hts gX8_standsIn_X8_contractAt rfl rfl rfl (by decide +kernel) (k_lvl (by omega) (by decide))) (kPS hP hD hK hS hA hE [] rfl (by decide)) rfl rfl hl.1 rfl (lv_room (Nat.le_of_ble_eq_true rfl)) dX8_standsIn_71 ⟨Nat.le_of_ble_eq_true rfl, Nat.le_of_ble_eq_true rfl⟩) hP hD hS hA [] [0] [0] rfl rfl (by decide) (by decide) rfl (by decide) (fun H locs hP hD hS => ?_)
        refine va_iald (i := (nI (81 + 5 * (10 * sd + pa) + 4))) hx hb hK hP 0 0 rfl rfl (vp_in_nI (n := (81 + 5 * (10 * sd + pa) + 4)) (by omega) (by omega)) dX8_standsIn_74 ?_
        refine k_top (y := (rw (81 + 5 * (10 * sd + pa) + 4))) (by rw [nI_clamp (by omega)]) ?_
        refine lv_aload_n hx hb dX8_standsIn_75 rfl (lv_at hl 1 rfl) ?_
        refine lv_iload_n hx hb dX8_standsIn_76 rfl (lv_at hl 4 rfl) ?_
        refine lv_iload hx hb dX8_standsIn_77 (lv_at hl 5 rfl) ?_
        refine lv_iconst (v := 4) hx hb dX8_standsIn_79 (by decide) ?_
        refine k_ai (wr := [(r0, .inl (g 0, 748, .inl rw))]) (w2 := [(r0, .inl (g 0, 748, .inl rw))]) (va_runS (As := [.int (nI so), .int (nI qa), .int 4]) (rest := [.ref r0, .int (rw (81 + 5 * (10 * sd + pa) + 4))]) ⟨hx, hb, hml, hown, hts⟩ (c_X8_contractAt l D g H.size so qa 4) (va_cwS 3 hts gX8_standsIn_X8_contractAt rfl rfl rfl (by decide +kernel) (k_lvl (by omega) (by decide))) (kPS hP hD hK hS hA hE [] rfl (by decide)) rfl rfl hl.1 rfl (lv_room (Nat.le_of_ble_eq_true rfl)) dX8_standsIn_80 ⟨Nat.le_of_ble_eq_true rfl, Nat.le_of_ble_eq_true rfl⟩) hP hD hS hA [] [0] [0] rfl rfl (by decide) (by decide) rfl (by decide) (fun H locs hP hD hS => ?_)
        refine va_iald (i := (nI (81 + 5 * (10 * so + qa) + 4))) hx hb hK hP 0 0 rfl rfl (vp_in_nI (n := (81 + 5 * (10 * so + qa) + 4)) (by omega) (by omega)) dX8_standsIn_83 ?_
        refine k_top (y := (rw (81 + 5 * (10 * so + qa) + 4))) (by rw [nI_clamp (by omega)]) ?_
        refine lv_icmp_gt (tgt := 91) hx hb dX8_standsIn_84 (by decide) (fun c_10 => ?_) (fun c_10 => ?_)
        · refine lv_iconst (v := 0) hx hb dX8_standsIn_91 (by decide) ?_
          refine lv_istore (lv' := [(6, .int 0), (5, .int 0), (0, .ref r0), (1, .int (nI sd)), (2, .int (nI pa)), (3, .int (nI so)), (4, .int (nI qa))]) hx hb dX8_standsIn_92 hl (by decide) rfl (fun ls hl => ?_)
          refine lv_iload hx hb dX8_standsIn_94 (lv_at hl 1 rfl) ?_
          refine lv_if_eq (tgt := 108) hx hb dX8_standsIn_96 (by decide) (fun _ => ?_) (fun c_11 => absurd c_11 (by decide))
          refine lv_iconst (v := 0) hx hb dX8_standsIn_108 (by decide) ?_
          have hE2 : (f_X8_standsIn rw sd pa so qa) = 0 := by
            exact (if_neg c_1).trans ((if_pos c_7).trans ((if_neg c_8).trans ((if_pos c_10).trans (rfl))))
          subst hQ
          exact k_rz hx hb hr hlocks hP hD hS dX8_standsIn_109 (by rfl) (hE2.symm) (rfl)
        · refine lv_iconst (v := 1) hx hb dX8_standsIn_87 (by decide) ?_
          refine lv_goto (tgt := 92) hx hb dX8_standsIn_88 (by decide) ?_
          refine lv_istore (lv' := [(6, .int 1), (5, .int 0), (0, .ref r0), (1, .int (nI sd)), (2, .int (nI pa)), (3, .int (nI so)), (4, .int (nI qa))]) hx hb dX8_standsIn_92 hl (by decide) rfl (fun ls hl => ?_)
          refine lv_iload hx hb dX8_standsIn_94 (lv_at hl 1 rfl) ?_
          refine lv_if_eq (tgt := 108) hx hb dX8_standsIn_96 (by decide) (fun _ => ?_) (fun c_12 => absurd c_12 (by decide))
          refine lv_iconst (v := 0) hx hb dX8_standsIn_108 (by decide) ?_
          have hE2 : (f_X8_standsIn rw sd pa so qa) = 0 := by
            exact (if_neg c_1).trans ((if_pos c_7).trans ((if_neg c_8).trans ((if_neg c_10).trans (rfl))))
          subst hQ
          exact k_rz hx hb hr hlocks hP hD hS dX8_standsIn_109 (by rfl) (hE2.symm) (rfl)
    · refine lv_iconst (v := 1) hx hb dX8_standsIn_40 (by decide) ?_
      refine lv_goto (tgt := 45) hx hb dX8_standsIn_41 (by decide) ?_
      refine lv_istore (lv' := [(5, .int 1), (0, .ref r0), (1, .int (nI sd)), (2, .int (nI pa)), (3, .int (nI so)), (4, .int (nI qa))]) hx hb dX8_standsIn_45 hl (by decide) rfl (fun ls hl => ?_)
      refine lv_aload_n hx hb dX8_standsIn_47 rfl (lv_at hl 1 rfl) ?_
      refine lv_iload_n hx hb dX8_standsIn_48 rfl (lv_at hl 2 rfl) ?_
      refine lv_iload_n hx hb dX8_standsIn_49 rfl (lv_at hl 3 rfl) ?_
      refine lv_iconst (v := 3) hx hb dX8_standsIn_50 (by decide) ?_
      refine k_ai (wr := [(r0, .inl (g 0, 748, .inl rw))]) (w2 := [(r0, .inl (g 0, 748, .inl rw))]) (va_runS (As := [.int (nI sd), .int (nI pa), .int 3]) (rest := [.ref r0]) ⟨hx, hb, hml, hown, hts⟩ (c_X8_contractAt l D g H.size sd pa 3) (va_cwS 3 hts gX8_standsIn_X8_contractAt rfl rfl rfl (by decide +kernel) (k_lvl (by omega) (by decide))) (kPS hP hD hK hS hA hE [] rfl (by decide)) rfl rfl hl.1 rfl (lv_room (Nat.le_of_ble_eq_true rfl)) dX8_standsIn_51 ⟨Nat.le_of_ble_eq_true rfl, Nat.le_of_ble_eq_true rfl⟩) hP hD hS hA [] [0] [0] rfl rfl (by decide) (by decide) rfl (by decide) (fun H locs hP hD hS => ?_)
      refine va_iald (i := (nI (81 + 5 * (10 * sd + pa) + 3))) hx hb hK hP 0 0 rfl rfl (vp_in_nI (n := (81 + 5 * (10 * sd + pa) + 3)) (by omega) (by omega)) dX8_standsIn_54 ?_
      refine k_top (y := (rw (81 + 5 * (10 * sd + pa) + 3))) (by rw [nI_clamp (by omega)]) ?_
      refine lv_aload_n hx hb dX8_standsIn_55 rfl (lv_at hl 1 rfl) ?_
      refine lv_iload_n hx hb dX8_standsIn_56 rfl (lv_at hl 4 rfl) ?_
      refine lv_iload hx hb dX8_standsIn_57 (lv_at hl 5 rfl) ?_
      refine lv_iconst (v := 3) hx hb dX8_standsIn_59 (by decide) ?_
      refine k_ai (wr := [(r0, .inl (g 0, 748, .inl rw))]) (w2 := [(r0, .inl (g 0, 748, .inl rw))]) (va_runS (As := [.int (nI so), .int (nI qa), .int 3]) (rest := [.ref r0, .int (rw (81 + 5 * (10 * sd + pa) + 3))]) ⟨hx, hb, hml, hown, hts⟩ (c_X8_contractAt l D g H.size so qa 3) (va_cwS 3 hts gX8_standsIn_X8_contractAt rfl rfl rfl (by decide +kernel) (k_lvl (by omega) (by decide))) (kPS hP hD hK hS hA hE [] rfl (by decide)) rfl rfl hl.1 rfl (lv_room (Nat.le_of_ble_eq_true rfl)) dX8_standsIn_60 ⟨Nat.le_of_ble_eq_true rfl, Nat.le_of_ble_eq_true rfl⟩) hP hD hS hA [] [0] [0] rfl rfl (by decide) (by decide) rfl (by decide) (fun H locs hP hD hS => ?_)
      refine va_iald (i := (nI (81 + 5 * (10 * so + qa) + 3))) hx hb hK hP 0 0 rfl rfl (vp_in_nI (n := (81 + 5 * (10 * so + qa) + 3)) (by omega) (by omega)) dX8_standsIn_63 ?_
      refine k_top (y := (rw (81 + 5 * (10 * so + qa) + 3))) (by rw [nI_clamp (by omega)]) ?_
      refine lv_icmp_lt (tgt := 91) hx hb dX8_standsIn_64 (by decide) (fun c_13 => ?_) (fun c_13 => ?_)
      · refine lv_iconst (v := 0) hx hb dX8_standsIn_91 (by decide) ?_
        refine lv_istore (lv' := [(6, .int 0), (5, .int 1), (0, .ref r0), (1, .int (nI sd)), (2, .int (nI pa)), (3, .int (nI so)), (4, .int (nI qa))]) hx hb dX8_standsIn_92 hl (by decide) rfl (fun ls hl => ?_)
        refine lv_iload hx hb dX8_standsIn_94 (lv_at hl 1 rfl) ?_
        refine lv_if_eq (tgt := 108) hx hb dX8_standsIn_96 (by decide) (fun c_14 => absurd c_14 (by decide)) (fun _ => ?_)
        refine lv_iload hx hb dX8_standsIn_99 (lv_at hl 0 rfl) ?_
        refine lv_if_eq (tgt := 108) hx hb dX8_standsIn_101 (by decide) (fun _ => ?_) (fun c_15 => absurd c_15 (by decide))
        refine lv_iconst (v := 0) hx hb dX8_standsIn_108 (by decide) ?_
        have hE2 : (f_X8_standsIn rw sd pa so qa) = 0 := by
          exact (if_neg c_1).trans ((if_neg c_7).trans ((if_pos c_13).trans (rfl)))
        subst hQ
        exact k_rz hx hb hr hlocks hP hD hS dX8_standsIn_109 (by rfl) (hE2.symm) (rfl)
      · refine lv_aload_n hx hb dX8_standsIn_67 rfl (lv_at hl 1 rfl) ?_
        refine lv_iload_n hx hb dX8_standsIn_68 rfl (lv_at hl 2 rfl) ?_
        refine lv_iload_n hx hb dX8_standsIn_69 rfl (lv_at hl 3 rfl) ?_
        refine lv_iconst (v := 4) hx hb dX8_standsIn_70 (by decide) ?_
        refine k_ai (wr := [(r0, .inl (g 0, 748, .inl rw))]) (w2 := [(r0, .inl (g 0, 748, .inl rw))]) (va_runS (As := [.int (nI sd), .int (nI pa), .int 4]) (rest := [.ref r0]) ⟨hx, hb, hml, hown, hts⟩ (c_X8_contractAt l D g H.size sd pa 4) (va_cwS 3 hts gX8_standsIn_X8_contractAt rfl rfl rfl (by decide +kernel) (k_lvl (by omega) (by decide))) (kPS hP hD hK hS hA hE [] rfl (by decide)) rfl rfl hl.1 rfl (lv_room (Nat.le_of_ble_eq_true rfl)) dX8_standsIn_71 ⟨Nat.le_of_ble_eq_true rfl, Nat.le_of_ble_eq_true rfl⟩) hP hD hS hA [] [0] [0] rfl rfl (by decide) (by decide) rfl (by decide) (fun H locs hP hD hS => ?_)
        refine va_iald (i := (nI (81 + 5 * (10 * sd + pa) + 4))) hx hb hK hP 0 0 rfl rfl (vp_in_nI (n := (81 + 5 * (10 * sd + pa) + 4)) (by omega) (by omega)) dX8_standsIn_74 ?_
        refine k_top (y := (rw (81 + 5 * (10 * sd + pa) + 4))) (by rw [nI_clamp (by omega)]) ?_
        refine lv_aload_n hx hb dX8_standsIn_75 rfl (lv_at hl 1 rfl) ?_
        refine lv_iload_n hx hb dX8_standsIn_76 rfl (lv_at hl 4 rfl) ?_
        refine lv_iload hx hb dX8_standsIn_77 (lv_at hl 5 rfl) ?_
        refine lv_iconst (v := 4) hx hb dX8_standsIn_79 (by decide) ?_
        refine k_ai (wr := [(r0, .inl (g 0, 748, .inl rw))]) (w2 := [(r0, .inl (g 0, 748, .inl rw))]) (va_runS (As := [.int (nI so), .int (nI qa), .int 4]) (rest := [.ref r0, .int (rw (81 + 5 * (10 * sd + pa) + 4))]) ⟨hx, hb, hml, hown, hts⟩ (c_X8_contractAt l D g H.size so qa 4) (va_cwS 3 hts gX8_standsIn_X8_contractAt rfl rfl rfl (by decide +kernel) (k_lvl (by omega) (by decide))) (kPS hP hD hK hS hA hE [] rfl (by decide)) rfl rfl hl.1 rfl (lv_room (Nat.le_of_ble_eq_true rfl)) dX8_standsIn_80 ⟨Nat.le_of_ble_eq_true rfl, Nat.le_of_ble_eq_true rfl⟩) hP hD hS hA [] [0] [0] rfl rfl (by decide) (by decide) rfl (by decide) (fun H locs hP hD hS => ?_)
        refine va_iald (i := (nI (81 + 5 * (10 * so + qa) + 4))) hx hb hK hP 0 0 rfl rfl (vp_in_nI (n := (81 + 5 * (10 * so + qa) + 4)) (by omega) (by omega)) dX8_standsIn_83 ?_
        refine k_top (y := (rw (81 + 5 * (10 * so + qa) + 4))) (by rw [nI_clamp (by omega)]) ?_
        refine lv_icmp_gt (tgt := 91) hx hb dX8_standsIn_84 (by decide) (fun c_16 => ?_) (fun c_16 => ?_)
        · refine lv_iconst (v := 0) hx hb dX8_standsIn_91 (by decide) ?_
          refine lv_istore (lv' := [(6, .int 0), (5, .int 1), (0, .ref r0), (1, .int (nI sd)), (2, .int (nI pa)), (3, .int (nI so)), (4, .int (nI qa))]) hx hb dX8_standsIn_92 hl (by decide) rfl (fun ls hl => ?_)
          refine lv_iload hx hb dX8_standsIn_94 (lv_at hl 1 rfl) ?_
          refine lv_if_eq (tgt := 108) hx hb dX8_standsIn_96 (by decide) (fun c_17 => absurd c_17 (by decide)) (fun _ => ?_)
          refine lv_iload hx hb dX8_standsIn_99 (lv_at hl 0 rfl) ?_
          refine lv_if_eq (tgt := 108) hx hb dX8_standsIn_101 (by decide) (fun _ => ?_) (fun c_18 => absurd c_18 (by decide))
          refine lv_iconst (v := 0) hx hb dX8_standsIn_108 (by decide) ?_
          have hE2 : (f_X8_standsIn rw sd pa so qa) = 0 := by
            exact (if_neg c_1).trans ((if_neg c_7).trans ((if_neg c_13).trans ((if_pos c_16).trans (rfl))))
          subst hQ
          exact k_rz hx hb hr hlocks hP hD hS dX8_standsIn_109 (by rfl) (hE2.symm) (rfl)
        · refine lv_iconst (v := 1) hx hb dX8_standsIn_87 (by decide) ?_
          refine lv_goto (tgt := 92) hx hb dX8_standsIn_88 (by decide) ?_
          refine lv_istore (lv' := [(6, .int 1), (5, .int 1), (0, .ref r0), (1, .int (nI sd)), (2, .int (nI pa)), (3, .int (nI so)), (4, .int (nI qa))]) hx hb dX8_standsIn_92 hl (by decide) rfl (fun ls hl => ?_)
          refine lv_iload hx hb dX8_standsIn_94 (lv_at hl 1 rfl) ?_
          refine lv_if_eq (tgt := 108) hx hb dX8_standsIn_96 (by decide) (fun c_19 => absurd c_19 (by decide)) (fun _ => ?_)
          refine lv_iload hx hb dX8_standsIn_99 (lv_at hl 0 rfl) ?_
          refine lv_if_eq (tgt := 108) hx hb dX8_standsIn_101 (by decide) (fun c_20 => absurd c_20 (by decide)) (fun _ => ?_)
          refine lv_iconst (v := 1) hx hb dX8_standsIn_104 (by decide) ?_
          refine lv_goto (tgt := 109) hx hb dX8_standsIn_105 (by decide) ?_
          have hE2 : (f_X8_standsIn rw sd pa so qa) = 1 := by
            exact (if_neg c_1).trans ((if_neg c_7).trans ((if_neg c_13).trans ((if_neg c_16).trans (rfl))))
          subst hQ
          exact k_rz hx hb hr hlocks hP hD hS dX8_standsIn_109 (by rfl) (hE2.symm) (rfl)
/-- what stands answers before it does anything: 0, or which of its exceptions is thrown -/
def kc_X8_stands (nw : Nat → Int32) (caller : Int32) (pa : Int32) (other : Int32) (qa : Int32) : Int32 :=
  if (f_X8_isContract nw caller pa) = 0 then
    1
  else
    if (f_X8_isContract nw other qa) = 0 then
      1
    else
      0
def f_X8_stands (nw : Nat → Int32) (caller : Int32) (pa : Int32) (other : Int32) (qa : Int32) : Int32 :=
  let pa_0 := pa.toNatClampNeg
  let qa_0 := qa.toNatClampNeg
  if (f_X8_standsIn nw (kSide caller) pa_0 (kSide other) qa_0) = 0 then
    0
  else
    1
theorem qX8_stands_0 : Cond.fieldLink RX8 16 "BlameChainsModel" "now" "[I" ∈ wsX8_stands := (List.mem_cons_of_mem _ (List.mem_append_left _ (List.mem_append_left _ (List.mem_of_getElem? (i := 0) rfl))))
set_option maxHeartbeats 4000000 in
set_option maxRecDepth 100000 in
theorem c_X8_stands (l : Launch) (D : va_G) (g : Nat → Nat) (m0 sc0 rd0 nw0 tr0 di0 ke0 ik0 cp0 cn0 be0 : Nat) (sz : Nat) (rf : Int32) (ss : Nat) (sp : Nat) (ig : Int32) (lo : Int32) (ac : Nat) (nw : Nat → Int32) (caller : Int32) (pa : Int32) (other : Int32) (qa : Int32) (hO : rdOk nw) (hk : (kc_X8_stands nw caller pa other qa) = 0) : kMi l D g yX8_stands wsX8_stands 4 0 0 [.ref m0, .int caller, .int pa, .int other, .int qa] [(m0, .inr (8, [.int rf, .ref sc0, .int (nI ss), .int (nI sp), .int ig, .int lo, .ref rd0, .ref nw0, .ref tr0, .ref di0, .int (nI ac), .ref ke0, .ref ik0, .ref cp0, .ref cn0, .ref be0])), (nw0, .inl (g 0, 748, .inl nw))] sz (f_X8_stands nw caller pa other qa) [(m0, .inr (8, [.int 0, .ref sc0, .int (nI ss), .int (nI sp), .int ig, .int lo, .ref rd0, .ref nw0, .ref tr0, .ref di0, .int (nI ac), .ref ke0, .ref ik0, .ref cp0, .ref cn0, .ref be0])), (nw0, .inl (g 0, 748, .inl nw))] := by
  refine k_enter (nm := "stands") (own := RX8) (bytes := cX8_stands) (maxL := 5) (ret := (some .int)) (Qf := fun A => kQi D [(m0, .inr (8, [.int 0, .ref sc0, .int (nI ss), .int (nI sp), .int ig, .int lo, .ref rd0, .ref nw0, .ref tr0, .ref di0, .int (nI ac), .ref ke0, .ref ik0, .ref cp0, .ref cn0, .ref be0])), (nw0, .inl (g 0, 748, .inl nw))] A (f_X8_stands nw caller pa other qa)) (by decide) rfl rfl rfl (Nat.le_of_ble_eq_true rfl) ?_
  rintro pp ee s mm below meth cc A ls args Q H locs hQ ⟨hx, hb, hr, hml, hown, hts, hlocks, hin⟩ hP hK hD hA hS hE hl
  have hl : lv_has ls 5 [(0, .ref m0), (1, .int caller), (2, .int pa), (3, .int other), (4, .int qa)] := hl
  refine lv_aload_n hx hb dX8_stands_0 rfl (lv_at hl 0 rfl) ?_
  refine lv_aload_n hx hb dX8_stands_1 rfl (lv_at hl 0 rfl) ?_
  refine lv_iload_n hx hb dX8_stands_2 rfl (lv_at hl 1 rfl) ?_
  refine lv_iload_n hx hb dX8_stands_3 rfl (lv_at hl 2 rfl) ?_
  refine k_ai (wr := []) (w2 := [(m0, .inr (8, [.int rf, .ref sc0, .int (nI ss), .int (nI sp), .int ig, .int lo, .ref rd0, .ref nw0, .ref tr0, .ref di0, .int (nI ac), .ref ke0, .ref ik0, .ref cp0, .ref cn0, .ref be0])), (nw0, .inl (g 0, 748, .inl nw))]) (va_runV (As := [.int caller, .int pa]) (rest := [.ref m0]) ⟨hx, hb, hml, hown, hts⟩ (c_X8_isContract l D g m0 sc0 rd0 nw0 tr0 di0 ke0 ik0 cp0 cn0 be0 H.size rf ss sp ig lo ac nw caller pa hO) (cwV 2 hts gX8_stands_X8_isContract rfl rfl rfl (by decide +kernel) (k_lvl (by omega) (by decide))) (kPV hP hD hK hS hA hE [0, 1] rfl (by decide) 0 8 rfl rfl rfl) rfl rfl hl.1 rfl (lv_room (Nat.le_of_ble_eq_true rfl)) dX8_stands_4 ⟨Nat.le_of_ble_eq_true rfl, Nat.le_of_ble_eq_true rfl⟩) hP hD hS hA [0, 1] [] [0, 1] rfl rfl (by decide) (by decide) rfl (by decide) (fun H locs hP hD hS => ?_)
  refine lv_if_eq (tgt := 24) hx hb dX8_stands_7 (by decide) (fun c_1 => ?_) (fun c_1 => ?_)
  · refine lv_iconst (v := 1) hx hb dX8_stands_24 (by decide) ?_
    have h9 : (kc_X8_stands nw caller pa other qa) = 1 := (if_pos c_1).trans (rfl)
    rw [hk] at h9
    exact absurd h9 (by decide)
  · refine lv_aload_n hx hb dX8_stands_10 rfl (lv_at hl 0 rfl) ?_
    refine lv_iload_n hx hb dX8_stands_11 rfl (lv_at hl 3 rfl) ?_
    refine lv_iload hx hb dX8_stands_12 (lv_at hl 4 rfl) ?_
    refine k_ai (wr := []) (w2 := [(m0, .inr (8, [.int rf, .ref sc0, .int (nI ss), .int (nI sp), .int ig, .int lo, .ref rd0, .ref nw0, .ref tr0, .ref di0, .int (nI ac), .ref ke0, .ref ik0, .ref cp0, .ref cn0, .ref be0])), (nw0, .inl (g 0, 748, .inl nw))]) (va_runV (As := [.int other, .int qa]) (rest := [.ref m0]) ⟨hx, hb, hml, hown, hts⟩ (c_X8_isContract l D g m0 sc0 rd0 nw0 tr0 di0 ke0 ik0 cp0 cn0 be0 H.size rf ss sp ig lo ac nw other qa hO) (cwV 2 hts gX8_stands_X8_isContract rfl rfl rfl (by decide +kernel) (k_lvl (by omega) (by decide))) (kPV hP hD hK hS hA hE [0, 1] rfl (by decide) 0 8 rfl rfl rfl) rfl rfl hl.1 rfl (lv_room (Nat.le_of_ble_eq_true rfl)) dX8_stands_14 ⟨Nat.le_of_ble_eq_true rfl, Nat.le_of_ble_eq_true rfl⟩) hP hD hS hA [0, 1] [] [0, 1] rfl rfl (by decide) (by decide) rfl (by decide) (fun H locs hP hD hS => ?_)
    refine lv_if_eq (tgt := 24) hx hb dX8_stands_17 (by decide) (fun c_2 => ?_) (fun c_2 => ?_)
    · refine lv_iconst (v := 1) hx hb dX8_stands_24 (by decide) ?_
      have h9 : (kc_X8_stands nw caller pa other qa) = 1 := (if_neg c_1).trans ((if_pos c_2).trans (rfl))
      rw [hk] at h9
      exact absurd h9 (by decide)
    · refine lv_iconst (v := 0) hx hb dX8_stands_20 (by decide) ?_
      refine lv_goto (tgt := 25) hx hb dX8_stands_21 (by decide) ?_
      refine k_ai (wr := [(nw0, .inl (g 0, 748, .inl nw))]) (w2 := [(m0, .inr (8, [.int 0, .ref sc0, .int (nI ss), .int (nI sp), .int ig, .int lo, .ref rd0, .ref nw0, .ref tr0, .ref di0, .int (nI ac), .ref ke0, .ref ik0, .ref cp0, .ref cn0, .ref be0])), (nw0, .inl (g 0, 748, .inl nw))]) (va_runV (As := [.int 0]) (rest := []) ⟨hx, hb, hml, hown, hts⟩ (c_X8_refused0 l D g m0 sc0 rd0 nw0 tr0 di0 ke0 ik0 cp0 cn0 be0 H.size rf ss sp ig lo ac) (cwV 1 hts gX8_stands_X8_refused rfl rfl rfl (by decide +kernel) (k_lvl (by omega) (by decide))) (kPV hP hD hK hS hA hE [0] rfl (by decide) 0 8 rfl rfl rfl) rfl rfl hl.1 rfl (lv_room (Nat.le_of_ble_eq_true rfl)) dX8_stands_25 ⟨Nat.le_of_ble_eq_true rfl, Nat.le_of_ble_eq_true rfl⟩) hP hD hS hA [0] [1] [1, 0] rfl rfl (by decide) (by decide) rfl (by decide) (fun H locs hP hD hS => ?_)
      refine lv_if_eq (tgt := 33) hx hb dX8_stands_28 (by decide) (fun _ => ?_) (fun c_3 => absurd c_3 (by decide))
      obtain ⟨hcp, hcl9, hsd8, hhc9⟩ := isContract_N hO c_1
      obtain ⟨pa_0, epa_0⟩ : ∃ z, z = pa.toNatClampNeg := ⟨_, rfl⟩
      have qpa_0 : pa = nI pa_0 := by rw [epa_0]; exact hcp.1
      have bpa_0 : pa_0 < 10 := by rw [epa_0]; exact (by have h7 := hcp.2; have h8 := (rdOk_mn hO).2; omega)
      have kepa_0 : kEq pa_0 pa.toNatClampNeg := epa_0
      clear epa_0
      have hl : lv_has ls 5 [(0, .ref m0), (1, .int caller), (2, .int (nI pa_0)), (3, .int other), (4, .int qa)] := by
        have h9 := hl
        rw [qpa_0] at h9
        exact h9
      obtain ⟨hcp1, hcl91, hsd81, hhc91⟩ := isContract_N hO c_2
      obtain ⟨qa_0, eqa_0⟩ : ∃ z, z = qa.toNatClampNeg := ⟨_, rfl⟩
      have qqa_0 : qa = nI qa_0 := by rw [eqa_0]; exact hcp1.1
      have bqa_0 : qa_0 < 10 := by rw [eqa_0]; exact (by have h7 := hcp1.2; have h8 := (rdOk_mn hO).2; omega)
      have keqa_0 : kEq qa_0 qa.toNatClampNeg := eqa_0
      clear eqa_0
      have hl : lv_has ls 5 [(0, .ref m0), (1, .int caller), (2, .int (nI pa_0)), (3, .int other), (4, .int (nI qa_0))] := by
        have h9 := hl
        rw [qqa_0] at h9
        exact h9
      refine lv_aload_n hx hb dX8_stands_33 rfl (lv_at hl 0 rfl) ?_
      refine va_get (D := D) (ci := 8) (v := .ref nw0) (C := RX8) (T := TX8) (N := 16) hx hb hts (fun w h => (List.mem_cons_of_mem _ (List.mem_append_right _ h))) hown hK hP 0 rfl rfl 7 (by decide) (hts _ qX8_stands_0) (fun _ h9 => h9) rfl dX8_stands_34 ?_
      refine lv_iload_n hx hb dX8_stands_37 rfl (lv_at hl 1 rfl) ?_
      refine k_ai (wr := [(m0, .inr (8, [.int 0, .ref sc0, .int (nI ss), .int (nI sp), .int ig, .int lo, .ref rd0, .ref nw0, .ref tr0, .ref di0, .int (nI ac), .ref ke0, .ref ik0, .ref cp0, .ref cn0, .ref be0])), (nw0, .inl (g 0, 748, .inl nw))]) (w2 := [(m0, .inr (8, [.int 0, .ref sc0, .int (nI ss), .int (nI sp), .int ig, .int lo, .ref rd0, .ref nw0, .ref tr0, .ref di0, .int (nI ac), .ref ke0, .ref ik0, .ref cp0, .ref cn0, .ref be0])), (nw0, .inl (g 0, 748, .inl nw))]) (va_runS (As := [.int caller]) (rest := [.ref nw0]) ⟨hx, hb, hml, hown, hts⟩ (c_X8_sideOf l D g H.size caller hcl9) (va_cwS 1 hts gX8_stands_X8_sideOf rfl rfl rfl (by decide +kernel) (k_lvl (by omega) (by decide))) (kPS hP hD hK hS hA hE [] rfl (by decide)) rfl rfl hl.1 rfl (lv_room (Nat.le_of_ble_eq_true rfl)) dX8_stands_38 ⟨Nat.le_of_ble_eq_true rfl, Nat.le_of_ble_eq_true rfl⟩) hP hD hS hA [] [0, 1] [0, 1] rfl rfl (by decide) (by decide) rfl (by decide) (fun H locs hP hD hS => ?_)
      refine lv_iload_n hx hb dX8_stands_41 rfl (lv_at hl 2 rfl) ?_
      refine lv_iload_n hx hb dX8_stands_42 rfl (lv_at hl 3 rfl) ?_
      refine k_ai (wr := [(m0, .inr (8, [.int 0, .ref sc0, .int (nI ss), .int (nI sp), .int ig, .int lo, .ref rd0, .ref nw0, .ref tr0, .ref di0, .int (nI ac), .ref ke0, .ref ik0, .ref cp0, .ref cn0, .ref be0])), (nw0, .inl (g 0, 748, .inl nw))]) (w2 := [(m0, .inr (8, [.int 0, .ref sc0, .int (nI ss), .int (nI sp), .int ig, .int lo, .ref rd0, .ref nw0, .ref tr0, .ref di0, .int (nI ac), .ref ke0, .ref ik0, .ref cp0, .ref cn0, .ref be0])), (nw0, .inl (g 0, 748, .inl nw))]) (va_runS (As := [.int other]) (rest := [.int (nI pa_0), .int (nI (kSide caller)), .ref nw0]) ⟨hx, hb, hml, hown, hts⟩ (c_X8_sideOf l D g H.size other hcl91) (va_cwS 1 hts gX8_stands_X8_sideOf rfl rfl rfl (by decide +kernel) (k_lvl (by omega) (by decide))) (kPS hP hD hK hS hA hE [] rfl (by decide)) rfl rfl hl.1 rfl (lv_room (Nat.le_of_ble_eq_true rfl)) dX8_stands_43 ⟨Nat.le_of_ble_eq_true rfl, Nat.le_of_ble_eq_true rfl⟩) hP hD hS hA [] [0, 1] [0, 1] rfl rfl (by decide) (by decide) rfl (by decide) (fun H locs hP hD hS => ?_)
      refine lv_iload hx hb dX8_stands_46 (lv_at hl 4 rfl) ?_
      refine k_ai (wr := [(m0, .inr (8, [.int 0, .ref sc0, .int (nI ss), .int (nI sp), .int ig, .int lo, .ref rd0, .ref nw0, .ref tr0, .ref di0, .int (nI ac), .ref ke0, .ref ik0, .ref cp0, .ref cn0, .ref be0]))]) (w2 := [(m0, .inr (8, [.int 0, .ref sc0, .int (nI ss), .int (nI sp), .int ig, .int lo, .ref rd0, .ref nw0, .ref tr0, .ref di0, .int (nI ac), .ref ke0, .ref ik0, .ref cp0, .ref cn0, .ref be0])), (nw0, .inl (g 0, 748, .inl nw))]) (va_runS (As := [.ref nw0, .int (nI (kSide caller)), .int (nI pa_0), .int (nI (kSide other)), .int (nI qa_0)]) (rest := []) ⟨hx, hb, hml, hown, hts⟩ (c_X8_standsIn l D g nw0 H.size nw (kSide caller) pa_0 (kSide other) qa_0 hsd8 (by omega) hsd81 (by omega)) (va_cwS 5 hts gX8_stands_X8_standsIn rfl rfl rfl (by decide +kernel) (k_lvl (by omega) (by decide))) (kPS hP hD hK hS hA hE [1] rfl (by decide)) rfl rfl hl.1 rfl (lv_room (Nat.le_of_ble_eq_true rfl)) dX8_stands_48 ⟨Nat.le_of_ble_eq_true rfl, Nat.le_of_ble_eq_true rfl⟩) hP hD hS hA [1] [0] [0, 1] rfl rfl (by decide) (by decide) rfl (by decide) (fun H locs hP hD hS => ?_)
      refine lv_if_eq (tgt := 58) hx hb dX8_stands_51 (by decide) (fun c_4 => ?_) (fun c_4 => ?_)
      · refine lv_iconst (v := 0) hx hb dX8_stands_58 (by decide) ?_
        have eqa_0 : qa.toNatClampNeg = qa_0 := Eq.symm keqa_0
        have epa_0 : pa.toNatClampNeg = pa_0 := Eq.symm kepa_0
        have hE2 : (f_X8_stands nw caller pa other qa) = 0 := by
          subst eqa_0
          subst epa_0
          exact (if_pos c_4).trans (rfl)
        subst hQ
        exact k_ri hx hb hr hlocks hP hD hS dX8_stands_59 (hE2.symm) (rfl)
      · refine lv_iconst (v := 1) hx hb dX8_stands_54 (by decide) ?_
        refine lv_goto (tgt := 59) hx hb dX8_stands_55 (by decide) ?_
        have eqa_0 : qa.toNatClampNeg = qa_0 := Eq.symm keqa_0
        have epa_0 : pa.toNatClampNeg = pa_0 := Eq.symm kepa_0
        have hE2 : (f_X8_stands nw caller pa other qa) = 1 := by
          subst eqa_0
          subst epa_0
          exact (if_neg c_4).trans (rfl)
        subst hQ
        exact k_ri hx hb hr hlocks hP hD hS dX8_stands_59 (hE2.symm) (rfl)
set_option maxHeartbeats 4000000 in
set_option maxRecDepth 100000 in
theorem c_X8_stands_bad (l : Launch) (D : va_G) (g : Nat → Nat) (m0 sc0 rd0 nw0 tr0 di0 ke0 ik0 cp0 cn0 be0 : Nat) (sz : Nat) (rf : Int32) (ss : Nat) (sp : Nat) (ig : Int32) (lo : Int32) (ac : Nat) (nw : Nat → Int32) (caller : Int32) (pa : Int32) (other : Int32) (qa : Int32) (hO : rdOk nw) (hk : ¬ (kc_X8_stands nw caller pa other qa) = 0) : kMi l D g yX8_stands wsX8_stands 4 0 0 [.ref m0, .int caller, .int pa, .int other, .int qa] [(m0, .inr (8, [.int rf, .ref sc0, .int (nI ss), .int (nI sp), .int ig, .int lo, .ref rd0, .ref nw0, .ref tr0, .ref di0, .int (nI ac), .ref ke0, .ref ik0, .ref cp0, .ref cn0, .ref be0])), (nw0, .inl (g 0, 748, .inl nw))] sz 0 [(m0, .inr (8, [.int (kc_X8_stands nw caller pa other qa), .ref sc0, .int (nI ss), .int (nI sp), .int ig, .int lo, .ref rd0, .ref nw0, .ref tr0, .ref di0, .int (nI ac), .ref ke0, .ref ik0, .ref cp0, .ref cn0, .ref be0])), (nw0, .inl (g 0, 748, .inl nw))] := by
  refine k_enter (nm := "stands") (own := RX8) (bytes := cX8_stands) (maxL := 5) (ret := (some .int)) (Qf := fun A => kQi D [(m0, .inr (8, [.int (kc_X8_stands nw caller pa other qa), .ref sc0, .int (nI ss), .int (nI sp), .int ig, .int lo, .ref rd0, .ref nw0, .ref tr0, .ref di0, .int (nI ac), .ref ke0, .ref ik0, .ref cp0, .ref cn0, .ref be0])), (nw0, .inl (g 0, 748, .inl nw))] A 0) (by decide) rfl rfl rfl (Nat.le_of_ble_eq_true rfl) ?_
  rintro pp ee s mm below meth cc A ls args Q H locs hQ ⟨hx, hb, hr, hml, hown, hts, hlocks, hin⟩ hP hK hD hA hS hE hl
  have hl : lv_has ls 5 [(0, .ref m0), (1, .int caller), (2, .int pa), (3, .int other), (4, .int qa)] := hl
  refine lv_aload_n hx hb dX8_stands_0 rfl (lv_at hl 0 rfl) ?_
  refine lv_aload_n hx hb dX8_stands_1 rfl (lv_at hl 0 rfl) ?_
  refine lv_iload_n hx hb dX8_stands_2 rfl (lv_at hl 1 rfl) ?_
  refine lv_iload_n hx hb dX8_stands_3 rfl (lv_at hl 2 rfl) ?_
  refine k_ai (wr := []) (w2 := [(m0, .inr (8, [.int rf, .ref sc0, .int (nI ss), .int (nI sp), .int ig, .int lo, .ref rd0, .ref nw0, .ref tr0, .ref di0, .int (nI ac), .ref ke0, .ref ik0, .ref cp0, .ref cn0, .ref be0])), (nw0, .inl (g 0, 748, .inl nw))]) (va_runV (As := [.int caller, .int pa]) (rest := [.ref m0]) ⟨hx, hb, hml, hown, hts⟩ (c_X8_isContract l D g m0 sc0 rd0 nw0 tr0 di0 ke0 ik0 cp0 cn0 be0 H.size rf ss sp ig lo ac nw caller pa hO) (cwV 2 hts gX8_stands_X8_isContract rfl rfl rfl (by decide +kernel) (k_lvl (by omega) (by decide))) (kPV hP hD hK hS hA hE [0, 1] rfl (by decide) 0 8 rfl rfl rfl) rfl rfl hl.1 rfl (lv_room (Nat.le_of_ble_eq_true rfl)) dX8_stands_4 ⟨Nat.le_of_ble_eq_true rfl, Nat.le_of_ble_eq_true rfl⟩) hP hD hS hA [0, 1] [] [0, 1] rfl rfl (by decide) (by decide) rfl (by decide) (fun H locs hP hD hS => ?_)
  refine lv_if_eq (tgt := 24) hx hb dX8_stands_7 (by decide) (fun c_1 => ?_) (fun c_1 => ?_)
  · refine lv_iconst (v := 1) hx hb dX8_stands_24 (by decide) ?_
    refine k_ai (wr := [(nw0, .inl (g 0, 748, .inl nw))]) (w2 := [(m0, .inr (8, [.int 1, .ref sc0, .int (nI ss), .int (nI sp), .int ig, .int lo, .ref rd0, .ref nw0, .ref tr0, .ref di0, .int (nI ac), .ref ke0, .ref ik0, .ref cp0, .ref cn0, .ref be0])), (nw0, .inl (g 0, 748, .inl nw))]) (va_runV (As := [.int 1]) (rest := []) ⟨hx, hb, hml, hown, hts⟩ (c_X8_refused1 l D g m0 sc0 rd0 nw0 tr0 di0 ke0 ik0 cp0 cn0 be0 H.size rf ss sp ig lo ac) (cwV 1 hts gX8_stands_X8_refused rfl rfl rfl (by decide +kernel) (k_lvl (by omega) (by decide))) (kPV hP hD hK hS hA hE [0] rfl (by decide) 0 8 rfl rfl rfl) rfl rfl hl.1 rfl (lv_room (Nat.le_of_ble_eq_true rfl)) dX8_stands_25 ⟨Nat.le_of_ble_eq_true rfl, Nat.le_of_ble_eq_true rfl⟩) hP hD hS hA [0] [1] [1, 0] rfl rfl (by decide) (by decide) rfl (by decide) (fun H locs hP hD hS => ?_)
    refine lv_if_eq (tgt := 33) hx hb dX8_stands_28 (by decide) (fun c_2 => absurd c_2 (by decide)) (fun _ => ?_)
    refine lv_iconst (v := 0) hx hb dX8_stands_31 (by decide) ?_
    subst hQ
    exact k_ri hx hb hr hlocks hP hD hS dX8_stands_32 (rfl) (by rw [show (kc_X8_stands nw caller pa other qa) = 1 from (if_pos c_1).trans (rfl)])
  · refine lv_aload_n hx hb dX8_stands_10 rfl (lv_at hl 0 rfl) ?_
    refine lv_iload_n hx hb dX8_stands_11 rfl (lv_at hl 3 rfl) ?_
    refine lv_iload hx hb dX8_stands_12 (lv_at hl 4 rfl) ?_
    refine k_ai (wr := []) (w2 := [(m0, .inr (8, [.int rf, .ref sc0, .int (nI ss), .int (nI sp), .int ig, .int lo, .ref rd0, .ref nw0, .ref tr0, .ref di0, .int (nI ac), .ref ke0, .ref ik0, .ref cp0, .ref cn0, .ref be0])), (nw0, .inl (g 0, 748, .inl nw))]) (va_runV (As := [.int other, .int qa]) (rest := [.ref m0]) ⟨hx, hb, hml, hown, hts⟩ (c_X8_isContract l D g m0 sc0 rd0 nw0 tr0 di0 ke0 ik0 cp0 cn0 be0 H.size rf ss sp ig lo ac nw other qa hO) (cwV 2 hts gX8_stands_X8_isContract rfl rfl rfl (by decide +kernel) (k_lvl (by omega) (by decide))) (kPV hP hD hK hS hA hE [0, 1] rfl (by decide) 0 8 rfl rfl rfl) rfl rfl hl.1 rfl (lv_room (Nat.le_of_ble_eq_true rfl)) dX8_stands_14 ⟨Nat.le_of_ble_eq_true rfl, Nat.le_of_ble_eq_true rfl⟩) hP hD hS hA [0, 1] [] [0, 1] rfl rfl (by decide) (by decide) rfl (by decide) (fun H locs hP hD hS => ?_)
    refine lv_if_eq (tgt := 24) hx hb dX8_stands_17 (by decide) (fun c_3 => ?_) (fun c_3 => ?_)
    · refine lv_iconst (v := 1) hx hb dX8_stands_24 (by decide) ?_
      refine k_ai (wr := [(nw0, .inl (g 0, 748, .inl nw))]) (w2 := [(m0, .inr (8, [.int 1, .ref sc0, .int (nI ss), .int (nI sp), .int ig, .int lo, .ref rd0, .ref nw0, .ref tr0, .ref di0, .int (nI ac), .ref ke0, .ref ik0, .ref cp0, .ref cn0, .ref be0])), (nw0, .inl (g 0, 748, .inl nw))]) (va_runV (As := [.int 1]) (rest := []) ⟨hx, hb, hml, hown, hts⟩ (c_X8_refused1 l D g m0 sc0 rd0 nw0 tr0 di0 ke0 ik0 cp0 cn0 be0 H.size rf ss sp ig lo ac) (cwV 1 hts gX8_stands_X8_refused rfl rfl rfl (by decide +kernel) (k_lvl (by omega) (by decide))) (kPV hP hD hK hS hA hE [0] rfl (by decide) 0 8 rfl rfl rfl) rfl rfl hl.1 rfl (lv_room (Nat.le_of_ble_eq_true rfl)) dX8_stands_25 ⟨Nat.le_of_ble_eq_true rfl, Nat.le_of_ble_eq_true rfl⟩) hP hD hS hA [0] [1] [1, 0] rfl rfl (by decide) (by decide) rfl (by decide) (fun H locs hP hD hS => ?_)
      refine lv_if_eq (tgt := 33) hx hb dX8_stands_28 (by decide) (fun c_4 => absurd c_4 (by decide)) (fun _ => ?_)
      refine lv_iconst (v := 0) hx hb dX8_stands_31 (by decide) ?_
      subst hQ
      exact k_ri hx hb hr hlocks hP hD hS dX8_stands_32 (rfl) (by rw [show (kc_X8_stands nw caller pa other qa) = 1 from (if_neg c_1).trans ((if_pos c_3).trans (rfl))])
    · refine lv_iconst (v := 0) hx hb dX8_stands_20 (by decide) ?_
      refine lv_goto (tgt := 25) hx hb dX8_stands_21 (by decide) ?_
      have h9 : (kc_X8_stands nw caller pa other qa) = 0 := (if_neg c_1).trans ((if_neg c_3).trans (rfl))
      exact absurd h9 hk
/-- links whose part's own contract can't stand for them: of a side, of all sides -/
def rHo (rw : Nat → Int32) (sd : Nat) : Nat → Int32
  | 0 => 0
  | k + 1 => rHo rw sd k + (if (f_X8_hasContract rw sd k) = 0 then 0 else if (f_X8_hasContract rw 0 k) = 0 then 0 else if (f_X8_standsIn rw 0 k sd k) = 0 then 1 else 0)
def rHs (rw : Nat → Int32) (mn : Nat) : Nat → Int32
  | 0 => 0
  | j + 1 => rHs rw mn j + rHo rw (1 + j) mn
theorem qX8_holes_0 : Cond.fieldLink RX8 41 "BlameChainsModel" "refusal" "I" ∈ wsX8_holes := (List.mem_cons_of_mem _ (List.mem_append_left _ (List.mem_of_getElem? (i := 0) rfl)))
theorem qX8_holes_1 : Cond.fieldLink RX8 16 "BlameChainsModel" "now" "[I" ∈ wsX8_holes := (List.mem_cons_of_mem _ (List.mem_append_left _ (List.mem_of_getElem? (i := 1) rfl)))
set_option maxHeartbeats 4000000 in
set_option maxRecDepth 100000 in
theorem c_X8_holes (l : Launch) (D : va_G) (g : Nat → Nat) (m0 sc0 rd0 nw0 tr0 di0 ke0 ik0 cp0 cn0 be0 : Nat) (sz : Nat) (rf : Int32) (ss : Nat) (sp : Nat) (ig : Int32) (lo : Int32) (ac : Nat) (nw : Nat → Int32) (hO : rdOk nw) : kMi l D g yX8_holes wsX8_holes 3 0 0 [.ref m0] [(m0, .inr (8, [.int rf, .ref sc0, .int (nI ss), .int (nI sp), .int ig, .int lo, .ref rd0, .ref nw0, .ref tr0, .ref di0, .int (nI ac), .ref ke0, .ref ik0, .ref cp0, .ref cn0, .ref be0])), (nw0, .inl (g 0, 748, .inl nw))] sz (rHs nw (nw 0).toNatClampNeg 11) [(m0, .inr (8, [.int 0, .ref sc0, .int (nI ss), .int (nI sp), .int ig, .int lo, .ref rd0, .ref nw0, .ref tr0, .ref di0, .int (nI ac), .ref ke0, .ref ik0, .ref cp0, .ref cn0, .ref be0])), (nw0, .inl (g 0, 748, .inl nw))] := by
  refine k_enter (nm := "holes") (own := RX8) (bytes := cX8_holes) (maxL := 4) (ret := (some .int)) (Qf := fun A => kQi D [(m0, .inr (8, [.int 0, .ref sc0, .int (nI ss), .int (nI sp), .int ig, .int lo, .ref rd0, .ref nw0, .ref tr0, .ref di0, .int (nI ac), .ref ke0, .ref ik0, .ref cp0, .ref cn0, .ref be0])), (nw0, .inl (g 0, 748, .inl nw))] A (rHs nw (nw 0).toNatClampNeg 11)) (by decide) rfl rfl rfl (Nat.le_of_ble_eq_true rfl) ?_
  rintro pp ee s mm below meth cc A ls args Q H locs hQ ⟨hx, hb, hr, hml, hown, hts, hlocks, hin⟩ hP hK hD hA hS hE hl
  have hl : lv_has ls 4 [(0, .ref m0)] := hl
  obtain ⟨mn_0, emn_0⟩ : ∃ z, z = (nw 0).toNatClampNeg := ⟨_, rfl⟩
  have hmn : nw 0 = nI mn_0 := by rw [emn_0]; exact (rdOk_mn hO).1
  have hm9 : mn_0 ≤ 10 := by rw [emn_0]; exact (rdOk_mn hO).2
  have kemn_0 : kEq mn_0 (nw 0).toNatClampNeg := emn_0
  clear emn_0
  refine lv_aload_n hx hb dX8_holes_0 rfl (lv_at hl 0 rfl) ?_
  refine lv_iconst (v := 0) hx hb dX8_holes_1 (by decide) ?_
  refine va_put (D := D) (ci := 8) (v := .int 0) (ty := .int) (C := RX8) (T := TX8) (N := 16) hx hb hts (fun w h => (List.mem_cons_of_mem _ (List.mem_append_right _ h))) tyX8 tyX8_ok nmX8 hown hK hP hD hS 0 rfl rfl 0 (by decide) (hts _ qX8_holes_0) (fun _ h9 => h9) rfl (by decide +kernel) rfl rfl (Nat.le_of_ble_eq_true rfl) dX8_holes_2 (fun H locs hP hD hS => ?_)
  have hP : va_P D vwCl [(m0, .inr (8, [.int 0, .ref sc0, .int (nI ss), .int (nI sp), .int ig, .int lo, .ref rd0, .ref nw0, .ref tr0, .ref di0, .int (nI ac), .ref ke0, .ref ik0, .ref cp0, .ref cn0, .ref be0])), (nw0, .inl (g 0, 748, .inl nw))] H := hP
  have hD : va_D A [(m0, .inr (8, [.int 0, .ref sc0, .int (nI ss), .int (nI sp), .int ig, .int lo, .ref rd0, .ref nw0, .ref tr0, .ref di0, .int (nI ac), .ref ke0, .ref ik0, .ref cp0, .ref cn0, .ref be0])), (nw0, .inl (g 0, 748, .inl nw))] := hD
  refine lv_iconst (v := 0) hx hb dX8_holes_5 (by decide) ?_
  refine lv_istore_n (lv' := [(1, .int 0), (0, .ref m0)]) hx hb dX8_holes_6 rfl hl (by decide) rfl (fun ls hl => ?_)
  refine lv_iconst (v := 1) hx hb dX8_holes_7 (by decide) ?_
  refine lv_istore_n (lv' := [(2, .int 1), (1, .int 0), (0, .ref m0)]) hx hb dX8_holes_8 rfl hl (by decide) rfl (fun ls hl => ?_)
  have hloop_9 : ∀ (nn_9 : Nat) (sd : Nat) (a : Int32), 12 - sd < nn_9 → ∀ (hs1 : 1 ≤ sd) (hs2 : sd ≤ 12) (ha : a = rHs nw mn_0 (sd - 1)) (H : Heap) (locs : List Loc) (ls : Array Slot), va_P D vwCl [(m0, .inr (8, [.int 0, .ref sc0, .int (nI ss), .int (nI sp), .int ig, .int lo, .ref rd0, .ref nw0, .ref tr0, .ref di0, .int (nI ac), .ref ke0, .ref ik0, .ref cp0, .ref cn0, .ref be0])), (nw0, .inl (g 0, 748, .inl nw))] H → va_D A [(m0, .inr (8, [.int 0, .ref sc0, .int (nI ss), .int (nI sp), .int ig, .int lo, .ref rd0, .ref nw0, .ref tr0, .ref di0, .int (nI ac), .ref ke0, .ref ik0, .ref cp0, .ref cn0, .ref be0])), (nw0, .inl (g 0, 748, .inl nw))] → va_S A s.heap H locs → lv_has ls 4 [(2, .int (nI sd)), (1, .int a), (0, .ref m0)] → W pp l ee (kR 3 0 0) s mm args below meth cc H locs 0 0 Q (F0 mm 9 ls []) := by
    intro nn_9
    induction nn_9 with
    | zero => intro sd a hm9; exact absurd hm9 (Nat.not_lt_zero _)
    | succ nn_9 ih_9 =>
      intro sd a hm_9 hs1 hs2 ha H locs ls hP hD hS hl
      refine lv_iload_n hx hb dX8_holes_9 rfl (lv_at hl 0 rfl) ?_
      refine lv_bipush (v := 11) hx hb dX8_holes_10 (by decide) ?_
      refine lv_icmp_gt (tgt := 85) hx hb dX8_holes_12 (by decide) (fun c_1 => ?_) (fun c_1 => ?_)
      · have c_1 : 11 < sd := (nI_ltI (a := 11) (b := sd) (by omega) (by omega)).mp c_1
        refine lv_iload_n hx hb dX8_holes_85 rfl (lv_at hl 1 rfl) ?_
        have emn_0 : (nw 0).toNatClampNeg = mn_0 := Eq.symm kemn_0
        subst emn_0
        obtain rfl : sd = 12 := by omega
        subst hQ
        exact k_ri hx hb hr hlocks hP hD hS dX8_holes_86 (ha) (rfl)
      · have c_1 : ¬ (11 < sd) := fun h9 => c_1 ((nI_ltI (a := 11) (b := sd) (by omega) (by omega)).mpr h9)
        refine lv_iconst (v := 0) hx hb dX8_holes_15 (by decide) ?_
        refine lv_istore_n (lv' := [(3, .int 0), (2, .int (nI sd)), (1, .int a), (0, .ref m0)]) hx hb dX8_holes_16 rfl hl (by decide) rfl (fun ls hl => ?_)
        have hloop_17 : ∀ (nn_17 : Nat) (k : Nat) (b : Int32), mn_0 - k < nn_17 → ∀ (hk : k ≤ mn_0) (hb9 : b = a + rHo nw sd k) (H : Heap) (locs : List Loc) (ls : Array Slot), va_P D vwCl [(m0, .inr (8, [.int 0, .ref sc0, .int (nI ss), .int (nI sp), .int ig, .int lo, .ref rd0, .ref nw0, .ref tr0, .ref di0, .int (nI ac), .ref ke0, .ref ik0, .ref cp0, .ref cn0, .ref be0])), (nw0, .inl (g 0, 748, .inl nw))] H → va_D A [(m0, .inr (8, [.int 0, .ref sc0, .int (nI ss), .int (nI sp), .int ig, .int lo, .ref rd0, .ref nw0, .ref tr0, .ref di0, .int (nI ac), .ref ke0, .ref ik0, .ref cp0, .ref cn0, .ref be0])), (nw0, .inl (g 0, 748, .inl nw))] → va_S A s.heap H locs → lv_has ls 4 [(3, .int (nI k)), (1, .int b), (2, .int (nI sd)), (0, .ref m0)] → W pp l ee (kR 3 0 0) s mm args below meth cc H locs 0 0 Q (F0 mm 17 ls []) := by
          intro nn_17
          induction nn_17 with
          | zero => intro k b hm9; exact absurd hm9 (Nat.not_lt_zero _)
          | succ nn_17 ih_17 =>
            intro k b hm_17 hk hb9 H locs ls hP hD hS hl
            refine lv_iload_n hx hb dX8_holes_17 rfl (lv_at hl 0 rfl) ?_
            refine lv_aload_n hx hb dX8_holes_18 rfl (lv_at hl 3 rfl) ?_
            refine va_get (D := D) (ci := 8) (v := .ref nw0) (C := RX8) (T := TX8) (N := 16) hx hb hts (fun w h => (List.mem_cons_of_mem _ (List.mem_append_right _ h))) hown hK hP 0 rfl rfl 7 (by decide) (hts _ qX8_holes_1) (fun _ h9 => h9) rfl dX8_holes_19 ?_
            refine lv_iconst (v := 0) hx hb dX8_holes_22 (by decide) ?_
            refine va_iald (i := 0) hx hb hK hP 1 0 rfl rfl (vp_in_nI (n := 0) (by decide) (by decide)) dX8_holes_23 ?_
            refine k_top (y := (nw 0)) rfl ?_
            refine k_top (y := (nI mn_0)) (hmn) ?_
            refine lv_icmp_ge (tgt := 79) hx hb dX8_holes_24 (by decide) (fun c_2 => ?_) (fun c_2 => ?_)
            · have c_2 : mn_0 ≤ k := (nI_leI (a := mn_0) (b := k) (by omega) (by omega)).mp c_2
              refine lv_iinc (v := (nI (sd + 1))) (lv' := [(2, .int (nI (sd + 1))), (3, .int (nI k)), (1, .int b), (0, .ref m0)]) hx hb dX8_holes_79 hl (k := 2) rfl (nI_1 _) (by decide) rfl (fun ls hl => ?_)
              refine lv_goto (tgt := 9) hx hb dX8_holes_82 (by decide) ?_
              exact ih_9 (sd + 1) b (by omega) (by omega) (by omega) (by obtain rfl : k = mn_0 := (by omega); rw [show sd + 1 - 1 = (sd - 1) + 1 by omega, rHs, hb9, ha, show 1 + (sd - 1) = sd by omega]) H locs ls hP hD hS (lv_sub hl [0, 2, 3] rfl)
            · have c_2 : ¬ (mn_0 ≤ k) := fun h9 => c_2 ((nI_leI (a := mn_0) (b := k) (by omega) (by omega)).mpr h9)
              refine lv_iload_n hx hb dX8_holes_27 rfl (lv_at hl 1 rfl) ?_
              refine lv_aload_n hx hb dX8_holes_28 rfl (lv_at hl 3 rfl) ?_
              refine va_get (D := D) (ci := 8) (v := .ref nw0) (C := RX8) (T := TX8) (N := 16) hx hb hts (fun w h => (List.mem_cons_of_mem _ (List.mem_append_right _ h))) hown hK hP 0 rfl rfl 7 (by decide) (hts _ qX8_holes_1) (fun _ h9 => h9) rfl dX8_holes_29 ?_
              refine lv_iload_n hx hb dX8_holes_32 rfl (lv_at hl 2 rfl) ?_
              refine lv_iload_n hx hb dX8_holes_33 rfl (lv_at hl 0 rfl) ?_
              refine k_ai (wr := [(m0, .inr (8, [.int 0, .ref sc0, .int (nI ss), .int (nI sp), .int ig, .int lo, .ref rd0, .ref nw0, .ref tr0, .ref di0, .int (nI ac), .ref ke0, .ref ik0, .ref cp0, .ref cn0, .ref be0]))]) (w2 := [(m0, .inr (8, [.int 0, .ref sc0, .int (nI ss), .int (nI sp), .int ig, .int lo, .ref rd0, .ref nw0, .ref tr0, .ref di0, .int (nI ac), .ref ke0, .ref ik0, .ref cp0, .ref cn0, .ref be0])), (nw0, .inl (g 0, 748, .inl nw))]) (va_runS (As := [.ref nw0, .int (nI sd), .int (nI k)]) (rest := [.int b]) ⟨hx, hb, hml, hown, hts⟩ (c_X8_hasContract l D g nw0 H.size nw sd k (by omega) (by omega)) (va_cwS 3 hts gX8_holes_X8_hasContract rfl rfl rfl (by decide +kernel) (k_lvl (by omega) (by decide))) (kPS hP hD hK hS hA hE [1] rfl (by decide)) rfl rfl hl.1 rfl (lv_room (Nat.le_of_ble_eq_true rfl)) dX8_holes_34 ⟨Nat.le_of_ble_eq_true rfl, Nat.le_of_ble_eq_true rfl⟩) hP hD hS hA [1] [0] [0, 1] rfl rfl (by decide) (by decide) rfl (by decide) (fun H locs hP hD hS => ?_)
              refine lv_if_eq (tgt := 70) hx hb dX8_holes_37 (by decide) (fun c_3 => ?_) (fun c_3 => ?_)
              · refine lv_iconst (v := 0) hx hb dX8_holes_70 (by decide) ?_
                refine lv_iadd hx hb dX8_holes_71 ?_
                refine lv_istore_n (lv' := [(1, .int (b + 0)), (3, .int (nI k)), (2, .int (nI sd)), (0, .ref m0)]) hx hb dX8_holes_72 rfl hl (by decide) rfl (fun ls hl => ?_)
                refine lv_iinc (v := (nI (k + 1))) (lv' := [(3, .int (nI (k + 1))), (1, .int (b + 0)), (2, .int (nI sd)), (0, .ref m0)]) hx hb dX8_holes_73 hl (k := 1) rfl (nI_1 _) (by decide) rfl (fun ls hl => ?_)
                refine lv_goto (tgt := 17) hx hb dX8_holes_76 (by decide) ?_
                exact ih_17 (k + 1) (b + 0) (by omega) (by omega) (by rw [rHo, if_pos c_3, hb9, Int32.add_assoc]) H locs ls hP hD hS (lv_sub hl [0, 1, 2, 3] rfl)
              · refine lv_aload_n hx hb dX8_holes_40 rfl (lv_at hl 3 rfl) ?_
                refine va_get (D := D) (ci := 8) (v := .ref nw0) (C := RX8) (T := TX8) (N := 16) hx hb hts (fun w h => (List.mem_cons_of_mem _ (List.mem_append_right _ h))) hown hK hP 0 rfl rfl 7 (by decide) (hts _ qX8_holes_1) (fun _ h9 => h9) rfl dX8_holes_41 ?_
                refine lv_iconst (v := 0) hx hb dX8_holes_44 (by decide) ?_
                refine lv_iload_n hx hb dX8_holes_45 rfl (lv_at hl 0 rfl) ?_
                refine k_ai (wr := [(m0, .inr (8, [.int 0, .ref sc0, .int (nI ss), .int (nI sp), .int ig, .int lo, .ref rd0, .ref nw0, .ref tr0, .ref di0, .int (nI ac), .ref ke0, .ref ik0, .ref cp0, .ref cn0, .ref be0]))]) (w2 := [(m0, .inr (8, [.int 0, .ref sc0, .int (nI ss), .int (nI sp), .int ig, .int lo, .ref rd0, .ref nw0, .ref tr0, .ref di0, .int (nI ac), .ref ke0, .ref ik0, .ref cp0, .ref cn0, .ref be0])), (nw0, .inl (g 0, 748, .inl nw))]) (va_runS (As := [.ref nw0, .int 0, .int (nI k)]) (rest := [.int b]) ⟨hx, hb, hml, hown, hts⟩ (c_X8_hasContract l D g nw0 H.size nw 0 k (by omega) (by omega)) (va_cwS 3 hts gX8_holes_X8_hasContract rfl rfl rfl (by decide +kernel) (k_lvl (by omega) (by decide))) (kPS hP hD hK hS hA hE [1] rfl (by decide)) rfl rfl hl.1 rfl (lv_room (Nat.le_of_ble_eq_true rfl)) dX8_holes_46 ⟨Nat.le_of_ble_eq_true rfl, Nat.le_of_ble_eq_true rfl⟩) hP hD hS hA [1] [0] [0, 1] rfl rfl (by decide) (by decide) rfl (by decide) (fun H locs hP hD hS => ?_)
                refine lv_if_eq (tgt := 70) hx hb dX8_holes_49 (by decide) (fun c_4 => ?_) (fun c_4 => ?_)
                · refine lv_iconst (v := 0) hx hb dX8_holes_70 (by decide) ?_
                  refine lv_iadd hx hb dX8_holes_71 ?_
                  refine lv_istore_n (lv' := [(1, .int (b + 0)), (3, .int (nI k)), (2, .int (nI sd)), (0, .ref m0)]) hx hb dX8_holes_72 rfl hl (by decide) rfl (fun ls hl => ?_)
                  refine lv_iinc (v := (nI (k + 1))) (lv' := [(3, .int (nI (k + 1))), (1, .int (b + 0)), (2, .int (nI sd)), (0, .ref m0)]) hx hb dX8_holes_73 hl (k := 1) rfl (nI_1 _) (by decide) rfl (fun ls hl => ?_)
                  refine lv_goto (tgt := 17) hx hb dX8_holes_76 (by decide) ?_
                  exact ih_17 (k + 1) (b + 0) (by omega) (by omega) (by rw [rHo, if_neg c_3, if_pos c_4, hb9, Int32.add_assoc]) H locs ls hP hD hS (lv_sub hl [0, 1, 2, 3] rfl)
                · refine lv_aload_n hx hb dX8_holes_52 rfl (lv_at hl 3 rfl) ?_
                  refine va_get (D := D) (ci := 8) (v := .ref nw0) (C := RX8) (T := TX8) (N := 16) hx hb hts (fun w h => (List.mem_cons_of_mem _ (List.mem_append_right _ h))) hown hK hP 0 rfl rfl 7 (by decide) (hts _ qX8_holes_1) (fun _ h9 => h9) rfl dX8_holes_53 ?_
                  refine lv_iconst (v := 0) hx hb dX8_holes_56 (by decide) ?_
                  refine lv_iload_n hx hb dX8_holes_57 rfl (lv_at hl 0 rfl) ?_
                  refine lv_iload_n hx hb dX8_holes_58 rfl (lv_at hl 2 rfl) ?_
                  refine lv_iload_n hx hb dX8_holes_59 rfl (lv_at hl 0 rfl) ?_
                  refine k_ai (wr := [(m0, .inr (8, [.int 0, .ref sc0, .int (nI ss), .int (nI sp), .int ig, .int lo, .ref rd0, .ref nw0, .ref tr0, .ref di0, .int (nI ac), .ref ke0, .ref ik0, .ref cp0, .ref cn0, .ref be0]))]) (w2 := [(m0, .inr (8, [.int 0, .ref sc0, .int (nI ss), .int (nI sp), .int ig, .int lo, .ref rd0, .ref nw0, .ref tr0, .ref di0, .int (nI ac), .ref ke0, .ref ik0, .ref cp0, .ref cn0, .ref be0])), (nw0, .inl (g 0, 748, .inl nw))]) (va_runS (As := [.ref nw0, .int 0, .int (nI k), .int (nI sd), .int (nI k)]) (rest := [.int b]) ⟨hx, hb, hml, hown, hts⟩ (c_X8_standsIn l D g nw0 H.size nw 0 k sd k (by omega) (by omega) (by omega) (by omega)) (va_cwS 5 hts gX8_holes_X8_standsIn rfl rfl rfl (by decide +kernel) (k_lvl (by omega) (by decide))) (kPS hP hD hK hS hA hE [1] rfl (by decide)) rfl rfl hl.1 rfl (lv_room (Nat.le_of_ble_eq_true rfl)) dX8_holes_60 ⟨Nat.le_of_ble_eq_true rfl, Nat.le_of_ble_eq_true rfl⟩) hP hD hS hA [1] [0] [0, 1] rfl rfl (by decide) (by decide) rfl (by decide) (fun H locs hP hD hS => ?_)
                  refine lv_if_ne (tgt := 70) hx hb dX8_holes_63 (by decide) (fun c_5 => ?_) (fun c_5 => ?_)
                  · refine lv_iconst (v := 0) hx hb dX8_holes_70 (by decide) ?_
                    refine lv_iadd hx hb dX8_holes_71 ?_
                    refine lv_istore_n (lv' := [(1, .int (b + 0)), (3, .int (nI k)), (2, .int (nI sd)), (0, .ref m0)]) hx hb dX8_holes_72 rfl hl (by decide) rfl (fun ls hl => ?_)
                    refine lv_iinc (v := (nI (k + 1))) (lv' := [(3, .int (nI (k + 1))), (1, .int (b + 0)), (2, .int (nI sd)), (0, .ref m0)]) hx hb dX8_holes_73 hl (k := 1) rfl (nI_1 _) (by decide) rfl (fun ls hl => ?_)
                    refine lv_goto (tgt := 17) hx hb dX8_holes_76 (by decide) ?_
                    exact ih_17 (k + 1) (b + 0) (by omega) (by omega) (by rw [rHo, if_neg c_3, if_neg c_4, if_neg c_5, hb9, Int32.add_assoc]) H locs ls hP hD hS (lv_sub hl [0, 1, 2, 3] rfl)
                  · refine lv_iconst (v := 1) hx hb dX8_holes_66 (by decide) ?_
                    refine lv_goto (tgt := 71) hx hb dX8_holes_67 (by decide) ?_
                    refine lv_iadd hx hb dX8_holes_71 ?_
                    refine lv_istore_n (lv' := [(1, .int (b + 1)), (3, .int (nI k)), (2, .int (nI sd)), (0, .ref m0)]) hx hb dX8_holes_72 rfl hl (by decide) rfl (fun ls hl => ?_)
                    refine lv_iinc (v := (nI (k + 1))) (lv' := [(3, .int (nI (k + 1))), (1, .int (b + 1)), (2, .int (nI sd)), (0, .ref m0)]) hx hb dX8_holes_73 hl (k := 1) rfl (nI_1 _) (by decide) rfl (fun ls hl => ?_)
                    refine lv_goto (tgt := 17) hx hb dX8_holes_76 (by decide) ?_
                    exact ih_17 (k + 1) (b + 1) (by omega) (by omega) (by rw [rHo, if_neg c_3, if_neg c_4, if_pos c_5, hb9, Int32.add_assoc]) H locs ls hP hD hS (lv_sub hl [0, 1, 2, 3] rfl)
        exact hloop_17 ((mn_0 - 0) + 1) 0 a (Nat.lt_succ_self _) (by omega) (by rw [rHo]; exact (Int32.add_zero _).symm) H locs ls hP hD hS (lv_sub hl [0, 2, 1, 3] rfl)
  exact hloop_9 ((12 - 1) + 1) 1 0 (Nat.lt_succ_self _) (by omega) (by omega) rfl H locs ls hP hD hS (lv_sub hl [0, 1, 2] rfl)
def f_X8_isBad (nw : Nat → Int32) (cp : Nat → Int32) (cn : Nat → Int32) (pa : Nat) (x : Int32) : Int32 × (Nat → Int32) × (Nat → Int32) × (Nat → Int32) :=
  let v_1 := (h_X8_callIn cp cn nw pa x)
  if v_1.1 = (-10000) then
    (1, v_1.2.1, v_1.2.2.1, v_1.2.2.2)
  else
    (0, v_1.2.1, v_1.2.2.1, v_1.2.2.2)
theorem qX8_isBad_0 : Cond.fieldLink RX8 19 "BlameChainsModel" "trial" "[I" ∈ wsX8_isBad := (List.mem_cons_of_mem _ (List.mem_append_left _ (List.mem_append_left _ (List.mem_of_getElem? (i := 0) rfl))))
set_option maxHeartbeats 4000000 in
set_option maxRecDepth 100000 in
theorem c_X8_isBad (l : Launch) (D : va_G) (g : Nat → Nat) (m0 sc0 rd0 nw0 tr0 di0 ke0 ik0 cp0 cn0 be0 : Nat) (sz : Nat) (rf : Int32) (ss : Nat) (sp : Nat) (ig : Int32) (lo : Int32) (ac : Nat) (nw : Nat → Int32) (tr : Nat → Int32) (cp : Nat → Int32) (cn : Nat → Int32) (pa : Nat) (x : Int32) (hO : rdOk nw) (hpa : pa < 10) : kMi l D g yX8_isBad wsX8_isBad 6 0 0 [.ref m0, .int (nI pa), .int x] [(m0, .inr (8, [.int rf, .ref sc0, .int (nI ss), .int (nI sp), .int ig, .int lo, .ref rd0, .ref nw0, .ref tr0, .ref di0, .int (nI ac), .ref ke0, .ref ik0, .ref cp0, .ref cn0, .ref be0])), (nw0, .inl (g 0, 748, .inl nw)), (tr0, .inl (g 0, 748, .inl tr)), (cp0, .inl (g 0, 10, .inl cp)), (cn0, .inl (g 0, 10, .inl cn))] sz ((f_X8_isBad nw cp cn pa x).1) [(m0, .inr (8, [.int rf, .ref sc0, .int (nI ss), .int (nI sp), .int ig, .int lo, .ref rd0, .ref nw0, .ref tr0, .ref di0, .int (nI ac), .ref ke0, .ref ik0, .ref cp0, .ref cn0, .ref be0])), (nw0, .inl (g 0, 748, .inl nw)), (tr0, .inl (g 0, 748, .inl ((f_X8_isBad nw cp cn pa x).2.1))), (cp0, .inl (g 0, 10, .inl ((f_X8_isBad nw cp cn pa x).2.2.1))), (cn0, .inl (g 0, 10, .inl ((f_X8_isBad nw cp cn pa x).2.2.2)))] := by
  refine k_enter (nm := "isBad") (own := RX8) (bytes := cX8_isBad) (maxL := 3) (ret := (some .boolean)) (Qf := fun A => kQi D [(m0, .inr (8, [.int rf, .ref sc0, .int (nI ss), .int (nI sp), .int ig, .int lo, .ref rd0, .ref nw0, .ref tr0, .ref di0, .int (nI ac), .ref ke0, .ref ik0, .ref cp0, .ref cn0, .ref be0])), (nw0, .inl (g 0, 748, .inl nw)), (tr0, .inl (g 0, 748, .inl ((f_X8_isBad nw cp cn pa x).2.1))), (cp0, .inl (g 0, 10, .inl ((f_X8_isBad nw cp cn pa x).2.2.1))), (cn0, .inl (g 0, 10, .inl ((f_X8_isBad nw cp cn pa x).2.2.2)))] A ((f_X8_isBad nw cp cn pa x).1)) (by decide) rfl rfl rfl (Nat.le_of_ble_eq_true rfl) ?_
  rintro pp ee s mm below meth cc A ls args Q H locs hQ ⟨hx, hb, hr, hml, hown, hts, hlocks, hin⟩ hP hK hD hA hS hE hl
  have hl : lv_has ls 3 [(0, .ref m0), (1, .int (nI pa)), (2, .int x)] := hl
  refine lv_aload_n hx hb dX8_isBad_0 rfl (lv_at hl 0 rfl) ?_
  refine k_av (wr := [(cp0, .inl (g 0, 10, .inl cp)), (cn0, .inl (g 0, 10, .inl cn))]) (w2 := [(m0, .inr (8, [.int rf, .ref sc0, .int (nI ss), .int (nI sp), .int ig, .int lo, .ref rd0, .ref nw0, .ref tr0, .ref di0, .int (nI ac), .ref ke0, .ref ik0, .ref cp0, .ref cn0, .ref be0])), (nw0, .inl (g 0, 748, .inl nw)), (tr0, .inl (g 0, 748, .inl nw)), (cp0, .inl (g 0, 10, .inl cp)), (cn0, .inl (g 0, 10, .inl cn))]) (va_runV (As := []) (rest := []) ⟨hx, hb, hml, hown, hts⟩ (c_X8_tryIt l D g m0 sc0 rd0 nw0 tr0 di0 ke0 ik0 cp0 cn0 be0 H.size rf ss sp ig lo ac nw tr) (cwV 0 hts gX8_isBad_X8_tryIt rfl rfl rfl (by decide +kernel) (k_lvl (by omega) (by decide))) (kPV hP hD hK hS hA hE [0, 1, 2] rfl (by decide) 0 8 rfl rfl rfl) rfl rfl hl.1 rfl (lv_room (Nat.le_of_ble_eq_true rfl)) dX8_isBad_1 ⟨Nat.le_of_ble_eq_true rfl, Nat.le_of_ble_eq_true rfl⟩) hP hD hS hA [0, 1, 2] [3, 4] [2, 3, 4, 0, 1] rfl rfl (by decide) (by decide) rfl (by decide) (fun H locs hP hD hS => ?_)
  refine lv_aload_n hx hb dX8_isBad_4 rfl (lv_at hl 0 rfl) ?_
  refine lv_aload_n hx hb dX8_isBad_5 rfl (lv_at hl 0 rfl) ?_
  refine va_get (D := D) (ci := 8) (v := .ref tr0) (C := RX8) (T := TX8) (N := 16) hx hb hts (fun w h => (List.mem_cons_of_mem _ (List.mem_append_right _ h))) hown hK hP 0 rfl rfl 8 (by decide) (hts _ qX8_isBad_0) (fun _ h9 => h9) rfl dX8_isBad_6 ?_
  refine lv_iload_n hx hb dX8_isBad_9 rfl (lv_at hl 1 rfl) ?_
  refine lv_iload_n hx hb dX8_isBad_10 rfl (lv_at hl 2 rfl) ?_
  have hC := c_X8_callInH l D g m0 tr0 sc0 rd0 nw0 tr0 di0 ke0 ik0 cp0 cn0 be0 H.size rf ss sp ig lo ac cp cn nw pa x (by omega) hO.2
  obtain ⟨v_1, ev_1⟩ : ∃ z, z = (h_X8_callIn cp cn nw pa x) := ⟨_, rfl⟩
  rw [← ev_1] at hC
  have kev_1 : kEq v_1 (h_X8_callIn cp cn nw pa x) := ev_1
  clear ev_1
  refine k_ai (wr := [(nw0, .inl (g 0, 748, .inl nw))]) (w2 := [(m0, .inr (8, [.int rf, .ref sc0, .int (nI ss), .int (nI sp), .int ig, .int lo, .ref rd0, .ref nw0, .ref tr0, .ref di0, .int (nI ac), .ref ke0, .ref ik0, .ref cp0, .ref cn0, .ref be0])), (nw0, .inl (g 0, 748, .inl nw)), (tr0, .inl (g 0, 748, .inl v_1.2.1)), (cp0, .inl (g 0, 10, .inl v_1.2.2.1)), (cn0, .inl (g 0, 10, .inl v_1.2.2.2))]) (va_runV (As := [.ref tr0, .int (nI pa), .int x]) (rest := []) ⟨hx, hb, hml, hown, hts⟩ hC (cwV 3 hts gX8_isBad_X8_callIn rfl rfl rfl (by decide +kernel) (k_lvl (by omega) (by decide))) (kPV hP hD hK hS hA hE [0, 3, 4, 2] rfl (by decide) 0 8 rfl rfl rfl) rfl rfl hl.1 rfl (lv_room (Nat.le_of_ble_eq_true rfl)) dX8_isBad_11 ⟨Nat.le_of_ble_eq_true rfl, Nat.le_of_ble_eq_true rfl⟩) hP hD hS hA [0, 3, 4, 2] [1] [1, 0, 4, 2, 3] rfl rfl (by decide) (by decide) rfl (by decide) (fun H locs hP hD hS => ?_)
  refine lv_sipush (v := (-10000)) hx hb dX8_isBad_14 (by decide) ?_
  refine lv_icmp_ne (tgt := 24) hx hb dX8_isBad_17 (by decide) (fun c_2 => ?_) (fun c_2 => ?_)
  · refine lv_iconst (v := 0) hx hb dX8_isBad_24 (by decide) ?_
    have ev_1 : (h_X8_callIn cp cn nw pa x) = v_1 := Eq.symm kev_1
    have hE2 : (f_X8_isBad nw cp cn pa x) = (0, v_1.2.1, v_1.2.2.1, v_1.2.2.2) := by
      subst ev_1
      exact (if_neg c_2).trans (rfl)
    subst hQ
    exact k_rz hx hb hr hlocks hP hD hS dX8_isBad_25 (by rfl) (by rw [hE2]) (by rw [hE2])
  · refine lv_iconst (v := 1) hx hb dX8_isBad_20 (by decide) ?_
    refine lv_goto (tgt := 25) hx hb dX8_isBad_21 (by decide) ?_
    have ev_1 : (h_X8_callIn cp cn nw pa x) = v_1 := Eq.symm kev_1
    have hE2 : (f_X8_isBad nw cp cn pa x) = (1, v_1.2.1, v_1.2.2.1, v_1.2.2.2) := by
      subst ev_1
      exact (if_pos c_2).trans (rfl)
    subst hQ
    exact k_rz hx hb hr hlocks hP hD hS dX8_isBad_25 (by rfl) (by rw [hE2]) (by rw [hE2])
def h_X8_isBad := hid f_X8_isBad
theorem h_X8_isBad_eq : h_X8_isBad = f_X8_isBad := hid_eq _
theorem c_X8_isBadH (l : Launch) (D : va_G) (g : Nat → Nat) (m0 sc0 rd0 nw0 tr0 di0 ke0 ik0 cp0 cn0 be0 : Nat) (sz : Nat) (rf : Int32) (ss : Nat) (sp : Nat) (ig : Int32) (lo : Int32) (ac : Nat) (nw : Nat → Int32) (tr : Nat → Int32) (cp : Nat → Int32) (cn : Nat → Int32) (pa : Nat) (x : Int32) (hO : rdOk nw) (hpa : pa < 10) : kMi l D g yX8_isBad wsX8_isBad 6 0 0 [.ref m0, .int (nI pa), .int x] [(m0, .inr (8, [.int rf, .ref sc0, .int (nI ss), .int (nI sp), .int ig, .int lo, .ref rd0, .ref nw0, .ref tr0, .ref di0, .int (nI ac), .ref ke0, .ref ik0, .ref cp0, .ref cn0, .ref be0])), (nw0, .inl (g 0, 748, .inl nw)), (tr0, .inl (g 0, 748, .inl tr)), (cp0, .inl (g 0, 10, .inl cp)), (cn0, .inl (g 0, 10, .inl cn))] sz ((h_X8_isBad nw cp cn pa x).1) [(m0, .inr (8, [.int rf, .ref sc0, .int (nI ss), .int (nI sp), .int ig, .int lo, .ref rd0, .ref nw0, .ref tr0, .ref di0, .int (nI ac), .ref ke0, .ref ik0, .ref cp0, .ref cn0, .ref be0])), (nw0, .inl (g 0, 748, .inl nw)), (tr0, .inl (g 0, 748, .inl ((h_X8_isBad nw cp cn pa x).2.1))), (cp0, .inl (g 0, 10, .inl ((h_X8_isBad nw cp cn pa x).2.2.1))), (cn0, .inl (g 0, 10, .inl ((h_X8_isBad nw cp cn pa x).2.2.2)))] := by
  rw [h_X8_isBad_eq]
  exact c_X8_isBad l D g m0 sc0 rd0 nw0 tr0 di0 ke0 ik0 cp0 cn0 be0 sz rf ss sp ig lo ac nw tr cp cn pa x hO hpa
def f_X8_isTried (low : Int32) (many : Int32) : Int32 :=
  if (f_X8_isNumber low) = 0 then
    0
  else
    if (f_X8_in (Int32.toInt64 many) 1 200) = 0 then
      0
    else
      1
theorem qX8_isTried_0 : Cond.constantLong RX8 241 (200) ∈ wsX8_isTried := (List.mem_cons_of_mem _ (List.mem_of_getElem? (i := 0) rfl))
set_option maxHeartbeats 4000000 in
set_option maxRecDepth 100000 in
theorem c_X8_isTried (l : Launch) (D : va_G) (g : Nat → Nat) (sz : Nat) (low : Int32) (many : Int32) : kMi l D g yX8_isTried wsX8_isTried 3 0 0 [.int low, .int many] [] sz (f_X8_isTried low many) [] := by
  refine k_enter (nm := "isTried") (own := RX8) (bytes := cX8_isTried) (maxL := 2) (ret := (some .boolean)) (Qf := fun A => kQi D [] A (f_X8_isTried low many)) (by decide) rfl rfl rfl (Nat.le_of_ble_eq_true rfl) ?_
  rintro pp ee s mm below meth cc A ls args Q H locs hQ ⟨hx, hb, hr, hml, hown, hts, hlocks, hin⟩ hP hK hD hA hS hE hl
  have hl : lv_has ls 2 [(0, .int low), (1, .int many)] := hl
  refine lv_iload_n hx hb dX8_isTried_0 rfl (lv_at hl 0 rfl) ?_
  refine k_ai (wr := []) (w2 := []) (va_runS (As := [.int low]) (rest := []) ⟨hx, hb, hml, hown, hts⟩ (c_X8_isNumber l D g H.size low) (va_cwS 1 hts gX8_isTried_X8_isNumber rfl rfl rfl (by decide +kernel) (k_lvl (by omega) (by decide))) (kPS hP hD hK hS hA hE [] rfl (by decide)) rfl rfl hl.1 rfl (lv_room (Nat.le_of_ble_eq_true rfl)) dX8_isTried_1 ⟨Nat.le_of_ble_eq_true rfl, Nat.le_of_ble_eq_true rfl⟩) hP hD hS hA [] [] [] rfl rfl (by decide) (by decide) rfl (by decide) (fun H locs hP hD hS => ?_)
  refine lv_if_eq (tgt := 23) hx hb dX8_isTried_4 (by decide) (fun c_1 => ?_) (fun c_1 => ?_)
  · refine lv_iconst (v := 0) hx hb dX8_isTried_23 (by decide) ?_
    have hE2 : (f_X8_isTried low many) = 0 := by
      exact (if_pos c_1).trans (rfl)
    subst hQ
    exact k_rz hx hb hr hlocks hP hD hS dX8_isTried_24 (by rfl) (hE2.symm) (rfl)
  · refine lv_iload_n hx hb dX8_isTried_7 rfl (lv_at hl 1 rfl) ?_
    refine lv_i2l (v := (Int32.toInt64 many)) hx hb dX8_isTried_8 rfl ?_
    refine lv_lconst (v := 1) hx hb dX8_isTried_9 (by decide) ?_
    refine lv_ldc2 hx hb hown (hts _ qX8_isTried_0) dX8_isTried_10 ?_
    refine k_ai (wr := []) (w2 := []) (va_runS (As := [.long (Int32.toInt64 many), .long 1, .long 200]) (rest := []) ⟨hx, hb, hml, hown, hts⟩ (c_X8_in l D g H.size (Int32.toInt64 many) 1 200) (va_cwS 3 hts gX8_isTried_X8_in rfl rfl rfl (by decide +kernel) (k_lvl (by omega) (by decide))) (kPS hP hD hK hS hA hE [] rfl (by decide)) rfl rfl hl.1 rfl (lv_room (Nat.le_of_ble_eq_true rfl)) dX8_isTried_13 ⟨Nat.le_of_ble_eq_true rfl, Nat.le_of_ble_eq_true rfl⟩) hP hD hS hA [] [] [] rfl rfl (by decide) (by decide) rfl (by decide) (fun H locs hP hD hS => ?_)
    refine lv_if_eq (tgt := 23) hx hb dX8_isTried_16 (by decide) (fun c_2 => ?_) (fun c_2 => ?_)
    · refine lv_iconst (v := 0) hx hb dX8_isTried_23 (by decide) ?_
      have hE2 : (f_X8_isTried low many) = 0 := by
        exact (if_neg c_1).trans ((if_pos c_2).trans (rfl))
      subst hQ
      exact k_rz hx hb hr hlocks hP hD hS dX8_isTried_24 (by rfl) (hE2.symm) (rfl)
    · refine lv_iconst (v := 1) hx hb dX8_isTried_19 (by decide) ?_
      refine lv_goto (tgt := 24) hx hb dX8_isTried_20 (by decide) ?_
      have hE2 : (f_X8_isTried low many) = 1 := by
        exact (if_neg c_1).trans ((if_neg c_2).trans (rfl))
      subst hQ
      exact k_rz hx hb hr hlocks hP hD hS dX8_isTried_24 (by rfl) (hE2.symm) (rfl)
theorem in_N1 {x : Int32} {hi : Int64} {K : Nat} (hK : hi.toInt = (K : Int)) (h : ¬ f_X8_in (Int32.toInt64 x) 1 hi = 0) : x = nI x.toNatClampNeg ∧ 1 ≤ x.toNatClampNeg ∧ x.toNatClampNeg ≤ K := by
  unfold f_X8_in at h
  have e : (Int32.toInt64 x).toInt = x.toInt := Int32.toInt_toInt64 x
  have e0 : (1 : Int64).toInt = 1 := by decide
  have f0 : (0 : Int32).toInt = 0 := by decide
  by_cases h1 : (Int32.toInt64 x) < 1
  · rw [if_pos h1] at h; exact absurd rfl h
  · rw [if_neg h1] at h
    by_cases h2 : hi < Int32.toInt64 x
    · rw [if_pos h2] at h; exact absurd rfl h
    · have h3 : ¬ x < 0 := fun q => h1 (Int64.lt_iff_toInt_lt.mpr (by have q1 := Int32.lt_iff_toInt_lt.mp q; omega))
      obtain ⟨j, hj2, ej⟩ := nI_of h3
      have h4 : ¬ hi.toInt < x.toInt := fun q => h2 (Int64.lt_iff_toInt_lt.mpr (by omega))
      have h5 : ¬ x.toInt < 1 := fun q => h1 (Int64.lt_iff_toInt_lt.mpr (by omega))
      rw [ej, nI_toInt hj2] at h4 h5
      rw [ej, nI_clamp hj2]
      exact ⟨rfl, by omega, by omega⟩
theorem tried_N {low many : Int32} (h : ¬ f_X8_isTried low many = 0) : many = nI many.toNatClampNeg ∧ 1 ≤ many.toNatClampNeg ∧ many.toNatClampNeg ≤ 200 := by
  unfold f_X8_isTried at h
  by_cases h1 : f_X8_isNumber low = 0
  · rw [if_pos h1] at h; exact absurd rfl h
  · rw [if_neg h1] at h
    by_cases h2 : f_X8_in (Int32.toInt64 many) 1 200 = 0
    · rw [if_pos h2] at h; exact absurd rfl h
    · exact in_N1 (by decide) h2
/-- what tries change: the row that is tried, the chain's two rows -/
abbrev KT : Type := (Nat → Int32) × (Nat → Int32) × (Nat → Int32)
/-- the first number that comes out: so many tries left, the next one's number -/
def rFb (nw : Nat → Int32) (pa : Nat) (low : Int32) : Nat → Nat → KT → Int32 × KT
  | 0, _, t => (-10000, t)
  | f + 1, k, t => if (h_X8_isBad nw t.2.1 t.2.2 pa (low + nI k)).1 = 0 then rFb nw pa low f (k + 1) (h_X8_isBad nw t.2.1 t.2.2 pa (low + nI k)).2 else (low + nI k, (h_X8_isBad nw t.2.1 t.2.2 pa (low + nI k)).2)
theorem rFb_end {nw : Nat → Int32} {pa many k : Nat} {low : Int32} {t : KT} (h : many ≤ k) : rFb nw pa low (many - k) k t = (-10000, t) := by
  rw [show many - k = 0 by omega]
  rfl
theorem rFb_hit {nw : Nat → Int32} {pa many k : Nat} {low : Int32} {t : KT} {v : Int32 × KT} (h : ¬ many ≤ k) (hv : v = h_X8_isBad nw t.2.1 t.2.2 pa (low + nI k)) (hc : ¬ v.1 = 0) : rFb nw pa low (many - k) k t = (low + nI k, v.2) := by
  obtain ⟨f, e⟩ : ∃ f, many - k = f + 1 := ⟨many - k - 1, by omega⟩
  rw [e, rFb, ← hv, if_neg hc]
theorem rFb_go {nw : Nat → Int32} {pa many k : Nat} {low : Int32} {t : KT} {v : Int32 × KT} (h : ¬ many ≤ k) (hv : v = h_X8_isBad nw t.2.1 t.2.2 pa (low + nI k)) (hc : v.1 = 0) : rFb nw pa low (many - (k + 1)) (k + 1) v.2 = rFb nw pa low (many - k) k t := by
  obtain ⟨f, e⟩ : ∃ f, many - k = f + 1 := ⟨many - k - 1, by omega⟩
  rw [e, rFb, ← hv, if_pos hc, show many - (k + 1) = f by omega]
/-- calls of one part, one after the other -/
def rCalls (pa : Nat) (low : Int32) : Nat → KT → KT
  | 0, t => t
  | k + 1, t => (h_X8_callIn (rCalls pa low k t).2.1 (rCalls pa low k t).2.2 (rCalls pa low k t).1 pa (low + nI k)).2
theorem rCalls_same {pa : Nat} {low : Int32} {t : KT} (hp : pa < 10) (h : rdOk t.1) : ∀ k : Nat, kSame t.1 (rCalls pa low k t).1 := by
  intro k
  induction k with
  | zero => exact kSame.rf
  | succ k ih => exact ih.trans (callIn_same (rdOk_same ih h).2 hp)
/-- who was blamed most: the part, how often -/
def rMb (tr nw : Nat → Int32) : Nat → Int32 × Int32
  | 0 => (-10000, 0)
  | q + 1 => (if (tr (1 + 8 * q + 6) - nw (1 + 8 * q + 6)) ≤ (rMb tr nw q).2 then (rMb tr nw q).1 else nI q, if (tr (1 + 8 * q + 6) - nw (1 + 8 * q + 6)) ≤ (rMb tr nw q).2 then (rMb tr nw q).2 else (tr (1 + 8 * q + 6) - nw (1 + 8 * q + 6)))
/-- a number so far away -/
def rAt (x b : Int32) (a : Nat) : Int32 := x + b * nI a
theorem rAt_0 (x b : Int32) : rAt x b 0 = x := by
  unfold rAt
  rw [show nI 0 = 0 from rfl, Int32.mul_zero, Int32.add_zero]
theorem rAt_s (x b : Int32) (a : Nat) : rAt x b a + b = rAt x b (a + 1) := by
  unfold rAt
  rw [← nI_1, Int32.mul_add, Int32.mul_one, Int32.add_assoc]
theorem rAt_200 {x b c : Int32} {a : Nat} (ha : a ≤ 200) (hb : b = 1 ∧ c = 200 ∨ b = -1 ∧ c = -200) (h : rAt x b a = x + c) : a = 200 := by
  unfold rAt at h
  have h1 : b * nI a = c := by
    rw [Int32.add_comm x, Int32.add_comm x] at h
    have h2 := congrArg (fun z => z - x) h
    simp only [Int32.add_sub_cancel] at h2
    exact h2
  rcases hb with ⟨rfl, rfl⟩ | ⟨rfl, rfl⟩
  · rw [Int32.one_mul] at h1
    exact (nI_eq (by omega) (by omega)).mp (h1.trans (show (200 : Int32) = nI 200 from rfl))
  · have h2 : nI a = 200 := by
      have h3 : -(-1 * nI a) = -(-200 : Int32) := by rw [h1]
      rw [Int32.neg_mul, Int32.neg_neg, Int32.one_mul] at h3
      exact h3
    exact (nI_eq (by omega) (by omega)).mp (h2.trans (show (200 : Int32) = nI 200 from rfl))
/-- how far a call can go without blame: so many tries left, so far already -/
def rRe (nw : Nat → Int32) (pa : Nat) (x b : Int32) : Nat → Nat → KT → Int32 × KT
  | 0, a, t => (rAt x b a, t)
  | f + 1, a, t => if (h_X8_isBad nw t.2.1 t.2.2 pa (rAt x b (a + 1))).1 = 0 then rRe nw pa x b f (a + 1) (h_X8_isBad nw t.2.1 t.2.2 pa (rAt x b (a + 1))).2 else (rAt x b a, (h_X8_isBad nw t.2.1 t.2.2 pa (rAt x b (a + 1))).2)
theorem rRe_end {nw : Nat → Int32} {pa a : Nat} {x b : Int32} {t : KT} (h : a = 200) : rRe nw pa x b (200 - a) a t = (rAt x b a, t) := by
  subst h
  rfl
theorem rRe_hit {nw : Nat → Int32} {pa a : Nat} {x b : Int32} {t : KT} {v : Int32 × KT} (h : a < 200) (hv : v = h_X8_isBad nw t.2.1 t.2.2 pa (rAt x b (a + 1))) (hc : ¬ v.1 = 0) : rRe nw pa x b (200 - a) a t = (rAt x b a, v.2) := by
  obtain ⟨f, e⟩ : ∃ f, 200 - a = f + 1 := ⟨200 - a - 1, by omega⟩
  rw [e, rRe, ← hv, if_neg hc]
theorem rRe_go {nw : Nat → Int32} {pa a : Nat} {x b : Int32} {t : KT} {v : Int32 × KT} (h : a < 200) (hv : v = h_X8_isBad nw t.2.1 t.2.2 pa (rAt x b (a + 1))) (hc : v.1 = 0) : rRe nw pa x b (200 - (a + 1)) (a + 1) v.2 = rRe nw pa x b (200 - a) a t := by
  obtain ⟨f, e⟩ : ∃ f, 200 - a = f + 1 := ⟨200 - a - 1, by omega⟩
  rw [e, rRe, ← hv, if_pos hc, show 200 - (a + 1) = f by omega]
/-- what firstBad answers before it does anything: 0, or which of its exceptions is thrown -/
def kc_X8_firstBad (nw : Nat → Int32) (pa : Int32) (low : Int32) (many : Int32) : Int32 :=
  if (f_X8_isPart nw pa) = 0 then
    1
  else
    if (f_X8_isTried low many) = 0 then
      2
    else
      0
set_option maxHeartbeats 4000000 in
set_option maxRecDepth 100000 in
theorem c_X8_firstBad (l : Launch) (D : va_G) (g : Nat → Nat) (m0 sc0 rd0 nw0 tr0 di0 ke0 ik0 cp0 cn0 be0 : Nat) (sz : Nat) (rf : Int32) (ss : Nat) (sp : Nat) (ig : Int32) (lo : Int32) (ac : Nat) (nw : Nat → Int32) (tr : Nat → Int32) (cp : Nat → Int32) (cn : Nat → Int32) (pa : Int32) (low : Int32) (many : Int32) (hO : rdOk nw) (hk : (kc_X8_firstBad nw pa low many) = 0) : kMi l D g yX8_firstBad wsX8_firstBad 7 0 0 [.ref m0, .int pa, .int low, .int many] [(m0, .inr (8, [.int rf, .ref sc0, .int (nI ss), .int (nI sp), .int ig, .int lo, .ref rd0, .ref nw0, .ref tr0, .ref di0, .int (nI ac), .ref ke0, .ref ik0, .ref cp0, .ref cn0, .ref be0])), (nw0, .inl (g 0, 748, .inl nw)), (tr0, .inl (g 0, 748, .inl tr)), (cp0, .inl (g 0, 10, .inl cp)), (cn0, .inl (g 0, 10, .inl cn))] sz ((rFb nw pa.toNatClampNeg low many.toNatClampNeg 0 (tr, cp, cn)).1) [(m0, .inr (8, [.int 0, .ref sc0, .int (nI ss), .int (nI sp), .int ig, .int lo, .ref rd0, .ref nw0, .ref tr0, .ref di0, .int (nI ac), .ref ke0, .ref ik0, .ref cp0, .ref cn0, .ref be0])), (nw0, .inl (g 0, 748, .inl nw)), (tr0, .inl (g 0, 748, .inl ((rFb nw pa.toNatClampNeg low many.toNatClampNeg 0 (tr, cp, cn)).2.1))), (cp0, .inl (g 0, 10, .inl ((rFb nw pa.toNatClampNeg low many.toNatClampNeg 0 (tr, cp, cn)).2.2.1))), (cn0, .inl (g 0, 10, .inl ((rFb nw pa.toNatClampNeg low many.toNatClampNeg 0 (tr, cp, cn)).2.2.2)))] := by
  refine k_enter (nm := "firstBad") (own := RX8) (bytes := cX8_firstBad) (maxL := 5) (ret := (some .int)) (Qf := fun A => kQi D [(m0, .inr (8, [.int 0, .ref sc0, .int (nI ss), .int (nI sp), .int ig, .int lo, .ref rd0, .ref nw0, .ref tr0, .ref di0, .int (nI ac), .ref ke0, .ref ik0, .ref cp0, .ref cn0, .ref be0])), (nw0, .inl (g 0, 748, .inl nw)), (tr0, .inl (g 0, 748, .inl ((rFb nw pa.toNatClampNeg low many.toNatClampNeg 0 (tr, cp, cn)).2.1))), (cp0, .inl (g 0, 10, .inl ((rFb nw pa.toNatClampNeg low many.toNatClampNeg 0 (tr, cp, cn)).2.2.1))), (cn0, .inl (g 0, 10, .inl ((rFb nw pa.toNatClampNeg low many.toNatClampNeg 0 (tr, cp, cn)).2.2.2)))] A ((rFb nw pa.toNatClampNeg low many.toNatClampNeg 0 (tr, cp, cn)).1)) (by decide) rfl rfl rfl (Nat.le_of_ble_eq_true rfl) ?_
  rintro pp ee s mm below meth cc A ls args Q H locs hQ ⟨hx, hb, hr, hml, hown, hts, hlocks, hin⟩ hP hK hD hA hS hE hl
  have hl : lv_has ls 5 [(0, .ref m0), (1, .int pa), (2, .int low), (3, .int many)] := hl
  obtain ⟨mn_0, emn_0⟩ : ∃ z, z = (nw 0).toNatClampNeg := ⟨_, rfl⟩
  have hmn : nw 0 = nI mn_0 := by rw [emn_0]; exact (rdOk_mn hO).1
  have hm9 : mn_0 ≤ 10 := by rw [emn_0]; exact (rdOk_mn hO).2
  have kemn_0 : kEq mn_0 (nw 0).toNatClampNeg := emn_0
  clear emn_0
  refine lv_aload_n hx hb dX8_firstBad_0 rfl (lv_at hl 0 rfl) ?_
  refine lv_aload_n hx hb dX8_firstBad_1 rfl (lv_at hl 0 rfl) ?_
  refine lv_iload_n hx hb dX8_firstBad_2 rfl (lv_at hl 1 rfl) ?_
  refine k_ai (wr := [(tr0, .inl (g 0, 748, .inl tr)), (cp0, .inl (g 0, 10, .inl cp)), (cn0, .inl (g 0, 10, .inl cn))]) (w2 := [(m0, .inr (8, [.int rf, .ref sc0, .int (nI ss), .int (nI sp), .int ig, .int lo, .ref rd0, .ref nw0, .ref tr0, .ref di0, .int (nI ac), .ref ke0, .ref ik0, .ref cp0, .ref cn0, .ref be0])), (nw0, .inl (g 0, 748, .inl nw)), (tr0, .inl (g 0, 748, .inl tr)), (cp0, .inl (g 0, 10, .inl cp)), (cn0, .inl (g 0, 10, .inl cn))]) (va_runV (As := [.int pa]) (rest := [.ref m0]) ⟨hx, hb, hml, hown, hts⟩ (c_X8_isPart l D g m0 sc0 rd0 nw0 tr0 di0 ke0 ik0 cp0 cn0 be0 H.size rf ss sp ig lo ac nw pa) (cwV 1 hts gX8_firstBad_X8_isPart rfl rfl rfl (by decide +kernel) (k_lvl (by omega) (by decide))) (kPV hP hD hK hS hA hE [0, 1] rfl (by decide) 0 8 rfl rfl rfl) rfl rfl hl.1 rfl (lv_room (Nat.le_of_ble_eq_true rfl)) dX8_firstBad_3 ⟨Nat.le_of_ble_eq_true rfl, Nat.le_of_ble_eq_true rfl⟩) hP hD hS hA [0, 1] [2, 3, 4] [3, 4, 0, 1, 2] rfl rfl (by decide) (by decide) rfl (by decide) (fun H locs hP hD hS => ?_)
  refine lv_if_ne (tgt := 13) hx hb dX8_firstBad_6 (by decide) (fun c_1 => ?_) (fun c_1 => ?_)
  · refine lv_iload_n hx hb dX8_firstBad_13 rfl (lv_at hl 2 rfl) ?_
    refine lv_iload_n hx hb dX8_firstBad_14 rfl (lv_at hl 3 rfl) ?_
    refine k_ai (wr := [(m0, .inr (8, [.int rf, .ref sc0, .int (nI ss), .int (nI sp), .int ig, .int lo, .ref rd0, .ref nw0, .ref tr0, .ref di0, .int (nI ac), .ref ke0, .ref ik0, .ref cp0, .ref cn0, .ref be0])), (nw0, .inl (g 0, 748, .inl nw)), (tr0, .inl (g 0, 748, .inl tr)), (cp0, .inl (g 0, 10, .inl cp)), (cn0, .inl (g 0, 10, .inl cn))]) (w2 := [(m0, .inr (8, [.int rf, .ref sc0, .int (nI ss), .int (nI sp), .int ig, .int lo, .ref rd0, .ref nw0, .ref tr0, .ref di0, .int (nI ac), .ref ke0, .ref ik0, .ref cp0, .ref cn0, .ref be0])), (nw0, .inl (g 0, 748, .inl nw)), (tr0, .inl (g 0, 748, .inl tr)), (cp0, .inl (g 0, 10, .inl cp)), (cn0, .inl (g 0, 10, .inl cn))]) (va_runS (As := [.int low, .int many]) (rest := [.ref m0]) ⟨hx, hb, hml, hown, hts⟩ (c_X8_isTried l D g H.size low many) (va_cwS 2 hts gX8_firstBad_X8_isTried rfl rfl rfl (by decide +kernel) (k_lvl (by omega) (by decide))) (kPS hP hD hK hS hA hE [] rfl (by decide)) rfl rfl hl.1 rfl (lv_room (Nat.le_of_ble_eq_true rfl)) dX8_firstBad_15 ⟨Nat.le_of_ble_eq_true rfl, Nat.le_of_ble_eq_true rfl⟩) hP hD hS hA [] [0, 1, 2, 3, 4] [0, 1, 2, 3, 4] rfl rfl (by decide) (by decide) rfl (by decide) (fun H locs hP hD hS => ?_)
    refine lv_if_eq (tgt := 25) hx hb dX8_firstBad_18 (by decide) (fun c_2 => ?_) (fun c_2 => ?_)
    · refine lv_iconst (v := 2) hx hb dX8_firstBad_25 (by decide) ?_
      have emn_0 : (nw 0).toNatClampNeg = mn_0 := Eq.symm kemn_0
      subst emn_0
      have h9 : (kc_X8_firstBad nw pa low many) = 2 := (if_neg c_1).trans ((if_pos c_2).trans (rfl))
      rw [hk] at h9
      exact absurd h9 (by decide)
    · refine lv_iconst (v := 0) hx hb dX8_firstBad_21 (by decide) ?_
      refine lv_goto (tgt := 26) hx hb dX8_firstBad_22 (by decide) ?_
      refine k_ai (wr := [(nw0, .inl (g 0, 748, .inl nw)), (tr0, .inl (g 0, 748, .inl tr)), (cp0, .inl (g 0, 10, .inl cp)), (cn0, .inl (g 0, 10, .inl cn))]) (w2 := [(m0, .inr (8, [.int 0, .ref sc0, .int (nI ss), .int (nI sp), .int ig, .int lo, .ref rd0, .ref nw0, .ref tr0, .ref di0, .int (nI ac), .ref ke0, .ref ik0, .ref cp0, .ref cn0, .ref be0])), (nw0, .inl (g 0, 748, .inl nw)), (tr0, .inl (g 0, 748, .inl tr)), (cp0, .inl (g 0, 10, .inl cp)), (cn0, .inl (g 0, 10, .inl cn))]) (va_runV (As := [.int 0]) (rest := []) ⟨hx, hb, hml, hown, hts⟩ (c_X8_refused0 l D g m0 sc0 rd0 nw0 tr0 di0 ke0 ik0 cp0 cn0 be0 H.size rf ss sp ig lo ac) (cwV 1 hts gX8_firstBad_X8_refused rfl rfl rfl (by decide +kernel) (k_lvl (by omega) (by decide))) (kPV hP hD hK hS hA hE [0] rfl (by decide) 0 8 rfl rfl rfl) rfl rfl hl.1 rfl (lv_room (Nat.le_of_ble_eq_true rfl)) dX8_firstBad_26 ⟨Nat.le_of_ble_eq_true rfl, Nat.le_of_ble_eq_true rfl⟩) hP hD hS hA [0] [1, 2, 3, 4] [4, 0, 1, 2, 3] rfl rfl (by decide) (by decide) rfl (by decide) (fun H locs hP hD hS => ?_)
      refine lv_if_eq (tgt := 34) hx hb dX8_firstBad_29 (by decide) (fun _ => ?_) (fun c_3 => absurd c_3 (by decide))
      obtain ⟨pa_0, epa_0⟩ : ∃ z, z = pa.toNatClampNeg := ⟨_, rfl⟩
      have qpa_0 : pa = nI pa_0 := by rw [epa_0]; exact (isPart_N c_1 hmn hm9).1
      have bpa_0 : pa_0 < mn_0 := by rw [epa_0]; exact (isPart_N c_1 hmn hm9).2
      have kepa_0 : kEq pa_0 pa.toNatClampNeg := epa_0
      clear epa_0
      have hl : lv_has ls 5 [(0, .ref m0), (1, .int (nI pa_0)), (2, .int low), (3, .int many)] := by
        have h9 := hl
        rw [qpa_0] at h9
        exact h9
      obtain ⟨many_0, emany_0⟩ : ∃ z, z = many.toNatClampNeg := ⟨_, rfl⟩
      have qmany_0 : many = nI many_0 := by rw [emany_0]; exact (tried_N c_2).1
      have bmany_0 : many_0 ≤ 200 := by rw [emany_0]; exact (tried_N c_2).2.2
      have kemany_0 : kEq many_0 many.toNatClampNeg := emany_0
      clear emany_0
      have hl : lv_has ls 5 [(0, .ref m0), (1, .int (nI pa_0)), (2, .int low), (3, .int (nI many_0))] := by
        have h9 := hl
        rw [qmany_0] at h9
        exact h9
      refine lv_iconst (v := 0) hx hb dX8_firstBad_34 (by decide) ?_
      refine lv_istore (lv' := [(4, .int 0), (0, .ref m0), (1, .int (nI pa_0)), (2, .int low), (3, .int (nI many_0))]) hx hb dX8_firstBad_35 hl (by decide) rfl (fun ls hl => ?_)
      have hloop_37 : ∀ (nn_37 : Nat) (k : Nat) (t : KT), many_0 - k < nn_37 → ∀ (hk : k ≤ many_0) (hr9 : rFb nw pa_0 low (many_0 - k) k t = (rFb nw pa.toNatClampNeg low many.toNatClampNeg 0 (tr, cp, cn))) (H : Heap) (locs : List Loc) (ls : Array Slot), va_P D vwCl [(m0, .inr (8, [.int 0, .ref sc0, .int (nI ss), .int (nI sp), .int ig, .int lo, .ref rd0, .ref nw0, .ref tr0, .ref di0, .int (nI ac), .ref ke0, .ref ik0, .ref cp0, .ref cn0, .ref be0])), (nw0, .inl (g 0, 748, .inl nw)), (tr0, .inl (g 0, 748, .inl (t.1))), (cp0, .inl (g 0, 10, .inl (t.2.1))), (cn0, .inl (g 0, 10, .inl (t.2.2)))] H → va_D A [(m0, .inr (8, [.int 0, .ref sc0, .int (nI ss), .int (nI sp), .int ig, .int lo, .ref rd0, .ref nw0, .ref tr0, .ref di0, .int (nI ac), .ref ke0, .ref ik0, .ref cp0, .ref cn0, .ref be0])), (nw0, .inl (g 0, 748, .inl nw)), (tr0, .inl (g 0, 748, .inl (t.1))), (cp0, .inl (g 0, 10, .inl (t.2.1))), (cn0, .inl (g 0, 10, .inl (t.2.2)))] → va_S A s.heap H locs → lv_has ls 5 [(4, .int (nI k)), (0, .ref m0), (1, .int (nI pa_0)), (2, .int low), (3, .int (nI many_0))] → W pp l ee (kR 7 0 0) s mm args below meth cc H locs 0 0 Q (F0 mm 37 ls []) := by
        intro nn_37
        induction nn_37 with
        | zero => intro k t hm9; exact absurd hm9 (Nat.not_lt_zero _)
        | succ nn_37 ih_37 =>
          intro k t hm_37 hk hr9 H locs ls hP hD hS hl
          refine lv_iload hx hb dX8_firstBad_37 (lv_at hl 0 rfl) ?_
          refine lv_iload_n hx hb dX8_firstBad_39 rfl (lv_at hl 4 rfl) ?_
          refine lv_icmp_ge (tgt := 66) hx hb dX8_firstBad_40 (by decide) (fun c_4 => ?_) (fun c_4 => ?_)
          · have c_4 : many_0 ≤ k := (nI_leI (a := many_0) (b := k) (by omega) (by omega)).mp c_4
            refine lv_sipush (v := (-10000)) hx hb dX8_firstBad_66 (by decide) ?_
            have emany_0 : many.toNatClampNeg = many_0 := Eq.symm kemany_0
            have epa_0 : pa.toNatClampNeg = pa_0 := Eq.symm kepa_0
            have emn_0 : (nw 0).toNatClampNeg = mn_0 := Eq.symm kemn_0
            have hE2 := (rFb_end (nw := nw) (pa := pa_0) (low := low) (t := t) (show many_0 ≤ k by omega)).symm.trans hr9
            subst hQ
            exact k_ri hx hb hr hlocks hP hD hS dX8_firstBad_69 (by rw [← hE2]) (by rw [← hE2])
          · have c_4 : ¬ (many_0 ≤ k) := fun h9 => c_4 ((nI_leI (a := many_0) (b := k) (by omega) (by omega)).mpr h9)
            refine lv_aload_n hx hb dX8_firstBad_43 rfl (lv_at hl 1 rfl) ?_
            refine lv_iload_n hx hb dX8_firstBad_44 rfl (lv_at hl 2 rfl) ?_
            refine lv_iload_n hx hb dX8_firstBad_45 rfl (lv_at hl 3 rfl) ?_
            refine lv_iload hx hb dX8_firstBad_46 (lv_at hl 0 rfl) ?_
            refine lv_iadd hx hb dX8_firstBad_48 ?_
            have hC := c_X8_isBadH l D g m0 sc0 rd0 nw0 tr0 di0 ke0 ik0 cp0 cn0 be0 H.size 0 ss sp ig lo ac nw (t.1) (t.2.1) (t.2.2) pa_0 (low + (nI k)) hO (by omega)
            obtain ⟨v_5, ev_5⟩ : ∃ z, z = (h_X8_isBad nw (t.2.1) (t.2.2) pa_0 (low + (nI k))) := ⟨_, rfl⟩
            rw [← ev_5] at hC
            have kev_5 : kEq v_5 (h_X8_isBad nw (t.2.1) (t.2.2) pa_0 (low + (nI k))) := ev_5
            clear ev_5
            refine k_ai (wr := []) (w2 := [(m0, .inr (8, [.int 0, .ref sc0, .int (nI ss), .int (nI sp), .int ig, .int lo, .ref rd0, .ref nw0, .ref tr0, .ref di0, .int (nI ac), .ref ke0, .ref ik0, .ref cp0, .ref cn0, .ref be0])), (nw0, .inl (g 0, 748, .inl nw)), (tr0, .inl (g 0, 748, .inl v_5.2.1)), (cp0, .inl (g 0, 10, .inl v_5.2.2.1)), (cn0, .inl (g 0, 10, .inl v_5.2.2.2))]) (va_runV (As := [.int (nI pa_0), .int (low + (nI k))]) (rest := []) ⟨hx, hb, hml, hown, hts⟩ hC (cwV 2 hts gX8_firstBad_X8_isBad rfl rfl rfl (by decide +kernel) (k_lvl (by omega) (by decide))) (kPV hP hD hK hS hA hE [0, 1, 2, 3, 4] rfl (by decide) 0 8 rfl rfl rfl) rfl rfl hl.1 rfl (lv_room (Nat.le_of_ble_eq_true rfl)) dX8_firstBad_49 ⟨Nat.le_of_ble_eq_true rfl, Nat.le_of_ble_eq_true rfl⟩) hP hD hS hA [0, 1, 2, 3, 4] [] [0, 1, 2, 3, 4] rfl rfl (by decide) (by decide) rfl (by decide) (fun H locs hP hD hS => ?_)
            refine lv_if_eq (tgt := 60) hx hb dX8_firstBad_52 (by decide) (fun c_6 => ?_) (fun c_6 => ?_)
            · refine lv_iinc (v := (nI (k + 1))) (lv' := [(4, .int (nI (k + 1))), (0, .ref m0), (1, .int (nI pa_0)), (2, .int low), (3, .int (nI many_0))]) hx hb dX8_firstBad_60 hl (k := 0) rfl (nI_1 _) (by decide) rfl (fun ls hl => ?_)
              refine lv_goto (tgt := 37) hx hb dX8_firstBad_63 (by decide) ?_
              exact ih_37 (k + 1) v_5.2 (by omega) (by omega) ((rFb_go (show ¬ many_0 ≤ k by omega) kev_5 c_6).trans hr9) H locs ls hP hD hS (lv_sub hl [0, 1, 2, 3, 4] rfl)
            · refine lv_iload_n hx hb dX8_firstBad_55 rfl (lv_at hl 3 rfl) ?_
              refine lv_iload hx hb dX8_firstBad_56 (lv_at hl 0 rfl) ?_
              refine lv_iadd hx hb dX8_firstBad_58 ?_
              have ev_5 : (h_X8_isBad nw (t.2.1) (t.2.2) pa_0 (low + (nI k))) = v_5 := Eq.symm kev_5
              have emany_0 : many.toNatClampNeg = many_0 := Eq.symm kemany_0
              have epa_0 : pa.toNatClampNeg = pa_0 := Eq.symm kepa_0
              have emn_0 : (nw 0).toNatClampNeg = mn_0 := Eq.symm kemn_0
              have hE2 := (rFb_hit (show ¬ many_0 ≤ k by omega) kev_5 c_6).symm.trans hr9
              subst hQ
              exact k_ri hx hb hr hlocks hP hD hS dX8_firstBad_59 (by rw [← hE2]) (by rw [← hE2])
      exact hloop_37 ((many_0 - 0) + 1) 0 (tr, cp, cn) (Nat.lt_succ_self _) (by omega) (by have e1 : pa_0 = pa.toNatClampNeg := kepa_0; have e2 : many_0 = many.toNatClampNeg := kemany_0; rw [e1, e2]; rfl) H locs ls hP hD hS (lv_sub hl [0, 1, 2, 3, 4] rfl)
  · refine lv_iconst (v := 1) hx hb dX8_firstBad_9 (by decide) ?_
    refine lv_goto (tgt := 26) hx hb dX8_firstBad_10 (by decide) ?_
    have emn_0 : (nw 0).toNatClampNeg = mn_0 := Eq.symm kemn_0
    subst emn_0
    have h9 : (kc_X8_firstBad nw pa low many) = 1 := (if_pos c_1).trans (rfl)
    rw [hk] at h9
    exact absurd h9 (by decide)
set_option maxHeartbeats 4000000 in
set_option maxRecDepth 100000 in
theorem c_X8_firstBad_bad (l : Launch) (D : va_G) (g : Nat → Nat) (m0 sc0 rd0 nw0 tr0 di0 ke0 ik0 cp0 cn0 be0 : Nat) (sz : Nat) (rf : Int32) (ss : Nat) (sp : Nat) (ig : Int32) (lo : Int32) (ac : Nat) (nw : Nat → Int32) (tr : Nat → Int32) (cp : Nat → Int32) (cn : Nat → Int32) (pa : Int32) (low : Int32) (many : Int32) (hO : rdOk nw) (hk : ¬ (kc_X8_firstBad nw pa low many) = 0) : kMi l D g yX8_firstBad wsX8_firstBad 7 0 0 [.ref m0, .int pa, .int low, .int many] [(m0, .inr (8, [.int rf, .ref sc0, .int (nI ss), .int (nI sp), .int ig, .int lo, .ref rd0, .ref nw0, .ref tr0, .ref di0, .int (nI ac), .ref ke0, .ref ik0, .ref cp0, .ref cn0, .ref be0])), (nw0, .inl (g 0, 748, .inl nw)), (tr0, .inl (g 0, 748, .inl tr)), (cp0, .inl (g 0, 10, .inl cp)), (cn0, .inl (g 0, 10, .inl cn))] sz 0 [(m0, .inr (8, [.int (kc_X8_firstBad nw pa low many), .ref sc0, .int (nI ss), .int (nI sp), .int ig, .int lo, .ref rd0, .ref nw0, .ref tr0, .ref di0, .int (nI ac), .ref ke0, .ref ik0, .ref cp0, .ref cn0, .ref be0])), (nw0, .inl (g 0, 748, .inl nw)), (tr0, .inl (g 0, 748, .inl tr)), (cp0, .inl (g 0, 10, .inl cp)), (cn0, .inl (g 0, 10, .inl cn))] := by
  refine k_enter (nm := "firstBad") (own := RX8) (bytes := cX8_firstBad) (maxL := 5) (ret := (some .int)) (Qf := fun A => kQi D [(m0, .inr (8, [.int (kc_X8_firstBad nw pa low many), .ref sc0, .int (nI ss), .int (nI sp), .int ig, .int lo, .ref rd0, .ref nw0, .ref tr0, .ref di0, .int (nI ac), .ref ke0, .ref ik0, .ref cp0, .ref cn0, .ref be0])), (nw0, .inl (g 0, 748, .inl nw)), (tr0, .inl (g 0, 748, .inl tr)), (cp0, .inl (g 0, 10, .inl cp)), (cn0, .inl (g 0, 10, .inl cn))] A 0) (by decide) rfl rfl rfl (Nat.le_of_ble_eq_true rfl) ?_
  rintro pp ee s mm below meth cc A ls args Q H locs hQ ⟨hx, hb, hr, hml, hown, hts, hlocks, hin⟩ hP hK hD hA hS hE hl
  have hl : lv_has ls 5 [(0, .ref m0), (1, .int pa), (2, .int low), (3, .int many)] := hl
  refine lv_aload_n hx hb dX8_firstBad_0 rfl (lv_at hl 0 rfl) ?_
  refine lv_aload_n hx hb dX8_firstBad_1 rfl (lv_at hl 0 rfl) ?_
  refine lv_iload_n hx hb dX8_firstBad_2 rfl (lv_at hl 1 rfl) ?_
  refine k_ai (wr := [(tr0, .inl (g 0, 748, .inl tr)), (cp0, .inl (g 0, 10, .inl cp)), (cn0, .inl (g 0, 10, .inl cn))]) (w2 := [(m0, .inr (8, [.int rf, .ref sc0, .int (nI ss), .int (nI sp), .int ig, .int lo, .ref rd0, .ref nw0, .ref tr0, .ref di0, .int (nI ac), .ref ke0, .ref ik0, .ref cp0, .ref cn0, .ref be0])), (nw0, .inl (g 0, 748, .inl nw)), (tr0, .inl (g 0, 748, .inl tr)), (cp0, .inl (g 0, 10, .inl cp)), (cn0, .inl (g 0, 10, .inl cn))]) (va_runV (As := [.int pa]) (rest := [.ref m0]) ⟨hx, hb, hml, hown, hts⟩ (c_X8_isPart l D g m0 sc0 rd0 nw0 tr0 di0 ke0 ik0 cp0 cn0 be0 H.size rf ss sp ig lo ac nw pa) (cwV 1 hts gX8_firstBad_X8_isPart rfl rfl rfl (by decide +kernel) (k_lvl (by omega) (by decide))) (kPV hP hD hK hS hA hE [0, 1] rfl (by decide) 0 8 rfl rfl rfl) rfl rfl hl.1 rfl (lv_room (Nat.le_of_ble_eq_true rfl)) dX8_firstBad_3 ⟨Nat.le_of_ble_eq_true rfl, Nat.le_of_ble_eq_true rfl⟩) hP hD hS hA [0, 1] [2, 3, 4] [3, 4, 0, 1, 2] rfl rfl (by decide) (by decide) rfl (by decide) (fun H locs hP hD hS => ?_)
  refine lv_if_ne (tgt := 13) hx hb dX8_firstBad_6 (by decide) (fun c_1 => ?_) (fun c_1 => ?_)
  · refine lv_iload_n hx hb dX8_firstBad_13 rfl (lv_at hl 2 rfl) ?_
    refine lv_iload_n hx hb dX8_firstBad_14 rfl (lv_at hl 3 rfl) ?_
    refine k_ai (wr := [(m0, .inr (8, [.int rf, .ref sc0, .int (nI ss), .int (nI sp), .int ig, .int lo, .ref rd0, .ref nw0, .ref tr0, .ref di0, .int (nI ac), .ref ke0, .ref ik0, .ref cp0, .ref cn0, .ref be0])), (nw0, .inl (g 0, 748, .inl nw)), (tr0, .inl (g 0, 748, .inl tr)), (cp0, .inl (g 0, 10, .inl cp)), (cn0, .inl (g 0, 10, .inl cn))]) (w2 := [(m0, .inr (8, [.int rf, .ref sc0, .int (nI ss), .int (nI sp), .int ig, .int lo, .ref rd0, .ref nw0, .ref tr0, .ref di0, .int (nI ac), .ref ke0, .ref ik0, .ref cp0, .ref cn0, .ref be0])), (nw0, .inl (g 0, 748, .inl nw)), (tr0, .inl (g 0, 748, .inl tr)), (cp0, .inl (g 0, 10, .inl cp)), (cn0, .inl (g 0, 10, .inl cn))]) (va_runS (As := [.int low, .int many]) (rest := [.ref m0]) ⟨hx, hb, hml, hown, hts⟩ (c_X8_isTried l D g H.size low many) (va_cwS 2 hts gX8_firstBad_X8_isTried rfl rfl rfl (by decide +kernel) (k_lvl (by omega) (by decide))) (kPS hP hD hK hS hA hE [] rfl (by decide)) rfl rfl hl.1 rfl (lv_room (Nat.le_of_ble_eq_true rfl)) dX8_firstBad_15 ⟨Nat.le_of_ble_eq_true rfl, Nat.le_of_ble_eq_true rfl⟩) hP hD hS hA [] [0, 1, 2, 3, 4] [0, 1, 2, 3, 4] rfl rfl (by decide) (by decide) rfl (by decide) (fun H locs hP hD hS => ?_)
    refine lv_if_eq (tgt := 25) hx hb dX8_firstBad_18 (by decide) (fun c_2 => ?_) (fun c_2 => ?_)
    · refine lv_iconst (v := 2) hx hb dX8_firstBad_25 (by decide) ?_
      refine k_ai (wr := [(nw0, .inl (g 0, 748, .inl nw)), (tr0, .inl (g 0, 748, .inl tr)), (cp0, .inl (g 0, 10, .inl cp)), (cn0, .inl (g 0, 10, .inl cn))]) (w2 := [(m0, .inr (8, [.int 2, .ref sc0, .int (nI ss), .int (nI sp), .int ig, .int lo, .ref rd0, .ref nw0, .ref tr0, .ref di0, .int (nI ac), .ref ke0, .ref ik0, .ref cp0, .ref cn0, .ref be0])), (nw0, .inl (g 0, 748, .inl nw)), (tr0, .inl (g 0, 748, .inl tr)), (cp0, .inl (g 0, 10, .inl cp)), (cn0, .inl (g 0, 10, .inl cn))]) (va_runV (As := [.int 2]) (rest := []) ⟨hx, hb, hml, hown, hts⟩ (c_X8_refused2 l D g m0 sc0 rd0 nw0 tr0 di0 ke0 ik0 cp0 cn0 be0 H.size rf ss sp ig lo ac) (cwV 1 hts gX8_firstBad_X8_refused rfl rfl rfl (by decide +kernel) (k_lvl (by omega) (by decide))) (kPV hP hD hK hS hA hE [0] rfl (by decide) 0 8 rfl rfl rfl) rfl rfl hl.1 rfl (lv_room (Nat.le_of_ble_eq_true rfl)) dX8_firstBad_26 ⟨Nat.le_of_ble_eq_true rfl, Nat.le_of_ble_eq_true rfl⟩) hP hD hS hA [0] [1, 2, 3, 4] [4, 0, 1, 2, 3] rfl rfl (by decide) (by decide) rfl (by decide) (fun H locs hP hD hS => ?_)
      refine lv_if_eq (tgt := 34) hx hb dX8_firstBad_29 (by decide) (fun c_3 => absurd c_3 (by decide)) (fun _ => ?_)
      refine lv_iconst (v := 0) hx hb dX8_firstBad_32 (by decide) ?_
      subst hQ
      exact k_ri hx hb hr hlocks hP hD hS dX8_firstBad_33 (rfl) (by rw [show (kc_X8_firstBad nw pa low many) = 2 from (if_neg c_1).trans ((if_pos c_2).trans (rfl))])
    · refine lv_iconst (v := 0) hx hb dX8_firstBad_21 (by decide) ?_
      refine lv_goto (tgt := 26) hx hb dX8_firstBad_22 (by decide) ?_
      have h9 : (kc_X8_firstBad nw pa low many) = 0 := (if_neg c_1).trans ((if_neg c_2).trans (rfl))
      exact absurd h9 hk
  · refine lv_iconst (v := 1) hx hb dX8_firstBad_9 (by decide) ?_
    refine lv_goto (tgt := 26) hx hb dX8_firstBad_10 (by decide) ?_
    refine k_ai (wr := [(nw0, .inl (g 0, 748, .inl nw)), (tr0, .inl (g 0, 748, .inl tr)), (cp0, .inl (g 0, 10, .inl cp)), (cn0, .inl (g 0, 10, .inl cn))]) (w2 := [(m0, .inr (8, [.int 1, .ref sc0, .int (nI ss), .int (nI sp), .int ig, .int lo, .ref rd0, .ref nw0, .ref tr0, .ref di0, .int (nI ac), .ref ke0, .ref ik0, .ref cp0, .ref cn0, .ref be0])), (nw0, .inl (g 0, 748, .inl nw)), (tr0, .inl (g 0, 748, .inl tr)), (cp0, .inl (g 0, 10, .inl cp)), (cn0, .inl (g 0, 10, .inl cn))]) (va_runV (As := [.int 1]) (rest := []) ⟨hx, hb, hml, hown, hts⟩ (c_X8_refused1 l D g m0 sc0 rd0 nw0 tr0 di0 ke0 ik0 cp0 cn0 be0 H.size rf ss sp ig lo ac) (cwV 1 hts gX8_firstBad_X8_refused rfl rfl rfl (by decide +kernel) (k_lvl (by omega) (by decide))) (kPV hP hD hK hS hA hE [0] rfl (by decide) 0 8 rfl rfl rfl) rfl rfl hl.1 rfl (lv_room (Nat.le_of_ble_eq_true rfl)) dX8_firstBad_26 ⟨Nat.le_of_ble_eq_true rfl, Nat.le_of_ble_eq_true rfl⟩) hP hD hS hA [0] [1, 2, 3, 4] [4, 0, 1, 2, 3] rfl rfl (by decide) (by decide) rfl (by decide) (fun H locs hP hD hS => ?_)
    refine lv_if_eq (tgt := 34) hx hb dX8_firstBad_29 (by decide) (fun c_4 => absurd c_4 (by decide)) (fun _ => ?_)
    refine lv_iconst (v := 0) hx hb dX8_firstBad_32 (by decide) ?_
    subst hQ
    exact k_ri hx hb hr hlocks hP hD hS dX8_firstBad_33 (rfl) (by rw [show (kc_X8_firstBad nw pa low many) = 1 from (if_pos c_1).trans (rfl)])
/-- what mostBlamed answers before it does anything: 0, or which of its exceptions is thrown -/
def kc_X8_mostBlamed (nw : Nat → Int32) (pa : Int32) (low : Int32) (many : Int32) : Int32 :=
  if (f_X8_isPart nw pa) = 0 then
    1
  else
    if (f_X8_isTried low many) = 0 then
      2
    else
      0
theorem qX8_mostBlamed_0 : Cond.fieldLink RX8 16 "BlameChainsModel" "now" "[I" ∈ wsX8_mostBlamed := (List.mem_cons_of_mem _ (List.mem_append_left _ (List.mem_append_left _ (List.mem_of_getElem? (i := 1) rfl))))
theorem qX8_mostBlamed_1 : Cond.fieldLink RX8 19 "BlameChainsModel" "trial" "[I" ∈ wsX8_mostBlamed := (List.mem_cons_of_mem _ (List.mem_append_left _ (List.mem_append_left _ (List.mem_of_getElem? (i := 0) rfl))))
set_option maxHeartbeats 4000000 in
set_option maxRecDepth 100000 in
theorem c_X8_mostBlamed (l : Launch) (D : va_G) (g : Nat → Nat) (m0 sc0 rd0 nw0 tr0 di0 ke0 ik0 cp0 cn0 be0 : Nat) (sz : Nat) (rf : Int32) (ss : Nat) (sp : Nat) (ig : Int32) (lo : Int32) (ac : Nat) (nw : Nat → Int32) (tr : Nat → Int32) (cp : Nat → Int32) (cn : Nat → Int32) (pa : Int32) (low : Int32) (many : Int32) (hO : rdOk nw) (hk : (kc_X8_mostBlamed nw pa low many) = 0) : kMi l D g yX8_mostBlamed wsX8_mostBlamed 6 0 0 [.ref m0, .int pa, .int low, .int many] [(m0, .inr (8, [.int rf, .ref sc0, .int (nI ss), .int (nI sp), .int ig, .int lo, .ref rd0, .ref nw0, .ref tr0, .ref di0, .int (nI ac), .ref ke0, .ref ik0, .ref cp0, .ref cn0, .ref be0])), (nw0, .inl (g 0, 748, .inl nw)), (tr0, .inl (g 0, 748, .inl tr)), (cp0, .inl (g 0, 10, .inl cp)), (cn0, .inl (g 0, 10, .inl cn))] sz ((rMb (rCalls pa.toNatClampNeg low many.toNatClampNeg (nw, cp, cn)).1 nw (nw 0).toNatClampNeg).1) [(m0, .inr (8, [.int 0, .ref sc0, .int (nI ss), .int (nI sp), .int ig, .int lo, .ref rd0, .ref nw0, .ref tr0, .ref di0, .int (nI ac), .ref ke0, .ref ik0, .ref cp0, .ref cn0, .ref be0])), (nw0, .inl (g 0, 748, .inl nw)), (tr0, .inl (g 0, 748, .inl ((rCalls pa.toNatClampNeg low many.toNatClampNeg (nw, cp, cn)).1))), (cp0, .inl (g 0, 10, .inl ((rCalls pa.toNatClampNeg low many.toNatClampNeg (nw, cp, cn)).2.1))), (cn0, .inl (g 0, 10, .inl ((rCalls pa.toNatClampNeg low many.toNatClampNeg (nw, cp, cn)).2.2)))] := by
  refine k_enter (nm := "mostBlamed") (own := RX8) (bytes := cX8_mostBlamed) (maxL := 8) (ret := (some .int)) (Qf := fun A => kQi D [(m0, .inr (8, [.int 0, .ref sc0, .int (nI ss), .int (nI sp), .int ig, .int lo, .ref rd0, .ref nw0, .ref tr0, .ref di0, .int (nI ac), .ref ke0, .ref ik0, .ref cp0, .ref cn0, .ref be0])), (nw0, .inl (g 0, 748, .inl nw)), (tr0, .inl (g 0, 748, .inl ((rCalls pa.toNatClampNeg low many.toNatClampNeg (nw, cp, cn)).1))), (cp0, .inl (g 0, 10, .inl ((rCalls pa.toNatClampNeg low many.toNatClampNeg (nw, cp, cn)).2.1))), (cn0, .inl (g 0, 10, .inl ((rCalls pa.toNatClampNeg low many.toNatClampNeg (nw, cp, cn)).2.2)))] A ((rMb (rCalls pa.toNatClampNeg low many.toNatClampNeg (nw, cp, cn)).1 nw (nw 0).toNatClampNeg).1)) (by decide) rfl rfl rfl (Nat.le_of_ble_eq_true rfl) ?_
  rintro pp ee s mm below meth cc A ls args Q H locs hQ ⟨hx, hb, hr, hml, hown, hts, hlocks, hin⟩ hP hK hD hA hS hE hl
  have hl : lv_has ls 8 [(0, .ref m0), (1, .int pa), (2, .int low), (3, .int many)] := hl
  obtain ⟨mn_0, emn_0⟩ : ∃ z, z = (nw 0).toNatClampNeg := ⟨_, rfl⟩
  have hmn : nw 0 = nI mn_0 := by rw [emn_0]; exact (rdOk_mn hO).1
  have hm9 : mn_0 ≤ 10 := by rw [emn_0]; exact (rdOk_mn hO).2
  have kemn_0 : kEq mn_0 (nw 0).toNatClampNeg := emn_0
  clear emn_0
  refine lv_aload_n hx hb dX8_mostBlamed_0 rfl (lv_at hl 0 rfl) ?_
  refine lv_aload_n hx hb dX8_mostBlamed_1 rfl (lv_at hl 0 rfl) ?_
  refine lv_iload_n hx hb dX8_mostBlamed_2 rfl (lv_at hl 1 rfl) ?_
  refine k_ai (wr := [(tr0, .inl (g 0, 748, .inl tr)), (cp0, .inl (g 0, 10, .inl cp)), (cn0, .inl (g 0, 10, .inl cn))]) (w2 := [(m0, .inr (8, [.int rf, .ref sc0, .int (nI ss), .int (nI sp), .int ig, .int lo, .ref rd0, .ref nw0, .ref tr0, .ref di0, .int (nI ac), .ref ke0, .ref ik0, .ref cp0, .ref cn0, .ref be0])), (nw0, .inl (g 0, 748, .inl nw)), (tr0, .inl (g 0, 748, .inl tr)), (cp0, .inl (g 0, 10, .inl cp)), (cn0, .inl (g 0, 10, .inl cn))]) (va_runV (As := [.int pa]) (rest := [.ref m0]) ⟨hx, hb, hml, hown, hts⟩ (c_X8_isPart l D g m0 sc0 rd0 nw0 tr0 di0 ke0 ik0 cp0 cn0 be0 H.size rf ss sp ig lo ac nw pa) (cwV 1 hts gX8_mostBlamed_X8_isPart rfl rfl rfl (by decide +kernel) (k_lvl (by omega) (by decide))) (kPV hP hD hK hS hA hE [0, 1] rfl (by decide) 0 8 rfl rfl rfl) rfl rfl hl.1 rfl (lv_room (Nat.le_of_ble_eq_true rfl)) dX8_mostBlamed_3 ⟨Nat.le_of_ble_eq_true rfl, Nat.le_of_ble_eq_true rfl⟩) hP hD hS hA [0, 1] [2, 3, 4] [3, 4, 0, 1, 2] rfl rfl (by decide) (by decide) rfl (by decide) (fun H locs hP hD hS => ?_)
  refine lv_if_ne (tgt := 13) hx hb dX8_mostBlamed_6 (by decide) (fun c_1 => ?_) (fun c_1 => ?_)
  · refine lv_iload_n hx hb dX8_mostBlamed_13 rfl (lv_at hl 2 rfl) ?_
    refine lv_iload_n hx hb dX8_mostBlamed_14 rfl (lv_at hl 3 rfl) ?_
    refine k_ai (wr := [(m0, .inr (8, [.int rf, .ref sc0, .int (nI ss), .int (nI sp), .int ig, .int lo, .ref rd0, .ref nw0, .ref tr0, .ref di0, .int (nI ac), .ref ke0, .ref ik0, .ref cp0, .ref cn0, .ref be0])), (nw0, .inl (g 0, 748, .inl nw)), (tr0, .inl (g 0, 748, .inl tr)), (cp0, .inl (g 0, 10, .inl cp)), (cn0, .inl (g 0, 10, .inl cn))]) (w2 := [(m0, .inr (8, [.int rf, .ref sc0, .int (nI ss), .int (nI sp), .int ig, .int lo, .ref rd0, .ref nw0, .ref tr0, .ref di0, .int (nI ac), .ref ke0, .ref ik0, .ref cp0, .ref cn0, .ref be0])), (nw0, .inl (g 0, 748, .inl nw)), (tr0, .inl (g 0, 748, .inl tr)), (cp0, .inl (g 0, 10, .inl cp)), (cn0, .inl (g 0, 10, .inl cn))]) (va_runS (As := [.int low, .int many]) (rest := [.ref m0]) ⟨hx, hb, hml, hown, hts⟩ (c_X8_isTried l D g H.size low many) (va_cwS 2 hts gX8_mostBlamed_X8_isTried rfl rfl rfl (by decide +kernel) (k_lvl (by omega) (by decide))) (kPS hP hD hK hS hA hE [] rfl (by decide)) rfl rfl hl.1 rfl (lv_room (Nat.le_of_ble_eq_true rfl)) dX8_mostBlamed_15 ⟨Nat.le_of_ble_eq_true rfl, Nat.le_of_ble_eq_true rfl⟩) hP hD hS hA [] [0, 1, 2, 3, 4] [0, 1, 2, 3, 4] rfl rfl (by decide) (by decide) rfl (by decide) (fun H locs hP hD hS => ?_)
    refine lv_if_eq (tgt := 25) hx hb dX8_mostBlamed_18 (by decide) (fun c_2 => ?_) (fun c_2 => ?_)
    · refine lv_iconst (v := 2) hx hb dX8_mostBlamed_25 (by decide) ?_
      have emn_0 : (nw 0).toNatClampNeg = mn_0 := Eq.symm kemn_0
      subst emn_0
      have h9 : (kc_X8_mostBlamed nw pa low many) = 2 := (if_neg c_1).trans ((if_pos c_2).trans (rfl))
      rw [hk] at h9
      exact absurd h9 (by decide)
    · refine lv_iconst (v := 0) hx hb dX8_mostBlamed_21 (by decide) ?_
      refine lv_goto (tgt := 26) hx hb dX8_mostBlamed_22 (by decide) ?_
      refine k_ai (wr := [(nw0, .inl (g 0, 748, .inl nw)), (tr0, .inl (g 0, 748, .inl tr)), (cp0, .inl (g 0, 10, .inl cp)), (cn0, .inl (g 0, 10, .inl cn))]) (w2 := [(m0, .inr (8, [.int 0, .ref sc0, .int (nI ss), .int (nI sp), .int ig, .int lo, .ref rd0, .ref nw0, .ref tr0, .ref di0, .int (nI ac), .ref ke0, .ref ik0, .ref cp0, .ref cn0, .ref be0])), (nw0, .inl (g 0, 748, .inl nw)), (tr0, .inl (g 0, 748, .inl tr)), (cp0, .inl (g 0, 10, .inl cp)), (cn0, .inl (g 0, 10, .inl cn))]) (va_runV (As := [.int 0]) (rest := []) ⟨hx, hb, hml, hown, hts⟩ (c_X8_refused0 l D g m0 sc0 rd0 nw0 tr0 di0 ke0 ik0 cp0 cn0 be0 H.size rf ss sp ig lo ac) (cwV 1 hts gX8_mostBlamed_X8_refused rfl rfl rfl (by decide +kernel) (k_lvl (by omega) (by decide))) (kPV hP hD hK hS hA hE [0] rfl (by decide) 0 8 rfl rfl rfl) rfl rfl hl.1 rfl (lv_room (Nat.le_of_ble_eq_true rfl)) dX8_mostBlamed_26 ⟨Nat.le_of_ble_eq_true rfl, Nat.le_of_ble_eq_true rfl⟩) hP hD hS hA [0] [1, 2, 3, 4] [4, 0, 1, 2, 3] rfl rfl (by decide) (by decide) rfl (by decide) (fun H locs hP hD hS => ?_)
      refine lv_if_eq (tgt := 34) hx hb dX8_mostBlamed_29 (by decide) (fun _ => ?_) (fun c_3 => absurd c_3 (by decide))
      obtain ⟨pa_0, epa_0⟩ : ∃ z, z = pa.toNatClampNeg := ⟨_, rfl⟩
      have qpa_0 : pa = nI pa_0 := by rw [epa_0]; exact (isPart_N c_1 hmn hm9).1
      have bpa_0 : pa_0 < mn_0 := by rw [epa_0]; exact (isPart_N c_1 hmn hm9).2
      have kepa_0 : kEq pa_0 pa.toNatClampNeg := epa_0
      clear epa_0
      have hl : lv_has ls 8 [(0, .ref m0), (1, .int (nI pa_0)), (2, .int low), (3, .int many)] := by
        have h9 := hl
        rw [qpa_0] at h9
        exact h9
      obtain ⟨many_0, emany_0⟩ : ∃ z, z = many.toNatClampNeg := ⟨_, rfl⟩
      have qmany_0 : many = nI many_0 := by rw [emany_0]; exact (tried_N c_2).1
      have bmany_0 : many_0 ≤ 200 := by rw [emany_0]; exact (tried_N c_2).2.2
      have kemany_0 : kEq many_0 many.toNatClampNeg := emany_0
      clear emany_0
      have hl : lv_has ls 8 [(0, .ref m0), (1, .int (nI pa_0)), (2, .int low), (3, .int (nI many_0))] := by
        have h9 := hl
        rw [qmany_0] at h9
        exact h9
      refine lv_aload_n hx hb dX8_mostBlamed_34 rfl (lv_at hl 0 rfl) ?_
      refine k_av (wr := [(cp0, .inl (g 0, 10, .inl cp)), (cn0, .inl (g 0, 10, .inl cn))]) (w2 := [(m0, .inr (8, [.int 0, .ref sc0, .int (nI ss), .int (nI sp), .int ig, .int lo, .ref rd0, .ref nw0, .ref tr0, .ref di0, .int (nI ac), .ref ke0, .ref ik0, .ref cp0, .ref cn0, .ref be0])), (nw0, .inl (g 0, 748, .inl nw)), (tr0, .inl (g 0, 748, .inl nw)), (cp0, .inl (g 0, 10, .inl cp)), (cn0, .inl (g 0, 10, .inl cn))]) (va_runV (As := []) (rest := []) ⟨hx, hb, hml, hown, hts⟩ (c_X8_tryIt l D g m0 sc0 rd0 nw0 tr0 di0 ke0 ik0 cp0 cn0 be0 H.size 0 ss sp ig lo ac nw tr) (cwV 0 hts gX8_mostBlamed_X8_tryIt rfl rfl rfl (by decide +kernel) (k_lvl (by omega) (by decide))) (kPV hP hD hK hS hA hE [0, 1, 2] rfl (by decide) 0 8 rfl rfl rfl) rfl rfl hl.1 rfl (lv_room (Nat.le_of_ble_eq_true rfl)) dX8_mostBlamed_35 ⟨Nat.le_of_ble_eq_true rfl, Nat.le_of_ble_eq_true rfl⟩) hP hD hS hA [0, 1, 2] [3, 4] [2, 3, 4, 0, 1] rfl rfl (by decide) (by decide) rfl (by decide) (fun H locs hP hD hS => ?_)
      refine lv_iconst (v := 0) hx hb dX8_mostBlamed_38 (by decide) ?_
      refine lv_istore (lv' := [(4, .int 0), (0, .ref m0), (1, .int (nI pa_0)), (2, .int low), (3, .int (nI many_0))]) hx hb dX8_mostBlamed_39 hl (by decide) rfl (fun ls hl => ?_)
      have hloop_41 : ∀ (nn_41 : Nat) (k : Nat) (t : KT), many_0 - k < nn_41 → ∀ (hk : k ≤ many_0) (ht : t = rCalls pa_0 low k (nw, cp, cn)) (hT : rdOk t.1) (H : Heap) (locs : List Loc) (ls : Array Slot), va_P D vwCl [(m0, .inr (8, [.int 0, .ref sc0, .int (nI ss), .int (nI sp), .int ig, .int lo, .ref rd0, .ref nw0, .ref tr0, .ref di0, .int (nI ac), .ref ke0, .ref ik0, .ref cp0, .ref cn0, .ref be0])), (nw0, .inl (g 0, 748, .inl nw)), (tr0, .inl (g 0, 748, .inl (t.1))), (cp0, .inl (g 0, 10, .inl (t.2.1))), (cn0, .inl (g 0, 10, .inl (t.2.2)))] H → va_D A [(m0, .inr (8, [.int 0, .ref sc0, .int (nI ss), .int (nI sp), .int ig, .int lo, .ref rd0, .ref nw0, .ref tr0, .ref di0, .int (nI ac), .ref ke0, .ref ik0, .ref cp0, .ref cn0, .ref be0])), (nw0, .inl (g 0, 748, .inl nw)), (tr0, .inl (g 0, 748, .inl (t.1))), (cp0, .inl (g 0, 10, .inl (t.2.1))), (cn0, .inl (g 0, 10, .inl (t.2.2)))] → va_S A s.heap H locs → lv_has ls 8 [(4, .int (nI k)), (0, .ref m0), (1, .int (nI pa_0)), (2, .int low), (3, .int (nI many_0))] → W pp l ee (kR 6 0 0) s mm args below meth cc H locs 0 0 Q (F0 mm 41 ls []) := by
        intro nn_41
        induction nn_41 with
        | zero => intro k t hm9; exact absurd hm9 (Nat.not_lt_zero _)
        | succ nn_41 ih_41 =>
          intro k t hm_41 hk ht hT H locs ls hP hD hS hl
          refine lv_iload hx hb dX8_mostBlamed_41 (lv_at hl 0 rfl) ?_
          refine lv_iload_n hx hb dX8_mostBlamed_43 rfl (lv_at hl 4 rfl) ?_
          refine lv_icmp_ge (tgt := 67) hx hb dX8_mostBlamed_44 (by decide) (fun c_4 => ?_) (fun c_4 => ?_)
          · have c_4 : many_0 ≤ k := (nI_leI (a := many_0) (b := k) (by omega) (by omega)).mp c_4
            refine lv_sipush (v := (-10000)) hx hb dX8_mostBlamed_67 (by decide) ?_
            refine lv_istore (lv' := [(4, .int (-10000)), (0, .ref m0), (1, .int (nI pa_0)), (2, .int low), (3, .int (nI many_0))]) hx hb dX8_mostBlamed_70 hl (by decide) rfl (fun ls hl => ?_)
            refine lv_iconst (v := 0) hx hb dX8_mostBlamed_72 (by decide) ?_
            refine lv_istore (lv' := [(5, .int 0), (4, .int (-10000)), (0, .ref m0), (1, .int (nI pa_0)), (2, .int low), (3, .int (nI many_0))]) hx hb dX8_mostBlamed_73 hl (by decide) rfl (fun ls hl => ?_)
            refine lv_iconst (v := 0) hx hb dX8_mostBlamed_75 (by decide) ?_
            refine lv_istore (lv' := [(6, .int 0), (5, .int 0), (4, .int (-10000)), (0, .ref m0), (1, .int (nI pa_0)), (2, .int low), (3, .int (nI many_0))]) hx hb dX8_mostBlamed_76 hl (by decide) rfl (fun ls hl => ?_)
            have hloop_78 : ∀ (nn_78 : Nat) (q : Nat) (r : Int32 × Int32), mn_0 - q < nn_78 → ∀ (hq : q ≤ mn_0) (hrm9 : r = rMb t.1 nw q) (H : Heap) (locs : List Loc) (ls : Array Slot), va_P D vwCl [(m0, .inr (8, [.int 0, .ref sc0, .int (nI ss), .int (nI sp), .int ig, .int lo, .ref rd0, .ref nw0, .ref tr0, .ref di0, .int (nI ac), .ref ke0, .ref ik0, .ref cp0, .ref cn0, .ref be0])), (nw0, .inl (g 0, 748, .inl nw)), (tr0, .inl (g 0, 748, .inl (t.1))), (cp0, .inl (g 0, 10, .inl (t.2.1))), (cn0, .inl (g 0, 10, .inl (t.2.2)))] H → va_D A [(m0, .inr (8, [.int 0, .ref sc0, .int (nI ss), .int (nI sp), .int ig, .int lo, .ref rd0, .ref nw0, .ref tr0, .ref di0, .int (nI ac), .ref ke0, .ref ik0, .ref cp0, .ref cn0, .ref be0])), (nw0, .inl (g 0, 748, .inl nw)), (tr0, .inl (g 0, 748, .inl (t.1))), (cp0, .inl (g 0, 10, .inl (t.2.1))), (cn0, .inl (g 0, 10, .inl (t.2.2)))] → va_S A s.heap H locs → lv_has ls 8 [(6, .int (nI q)), (4, .int r.1), (5, .int r.2), (0, .ref m0)] → W pp l ee (kR 6 0 0) s mm args below meth cc H locs 0 0 Q (F0 mm 78 ls []) := by
              intro nn_78
              induction nn_78 with
              | zero => intro q r hm9; exact absurd hm9 (Nat.not_lt_zero _)
              | succ nn_78 ih_78 =>
                intro q r hm_78 hq hrm9 H locs ls hP hD hS hl
                refine lv_iload hx hb dX8_mostBlamed_78 (lv_at hl 0 rfl) ?_
                refine lv_aload_n hx hb dX8_mostBlamed_80 rfl (lv_at hl 3 rfl) ?_
                refine va_get (D := D) (ci := 8) (v := .ref nw0) (C := RX8) (T := TX8) (N := 16) hx hb hts (fun w h => (List.mem_cons_of_mem _ (List.mem_append_right _ h))) hown hK hP 0 rfl rfl 7 (by decide) (hts _ qX8_mostBlamed_0) (fun _ h9 => h9) rfl dX8_mostBlamed_81 ?_
                refine lv_iconst (v := 0) hx hb dX8_mostBlamed_84 (by decide) ?_
                refine va_iald (i := 0) hx hb hK hP 1 0 rfl rfl (vp_in_nI (n := 0) (by decide) (by decide)) dX8_mostBlamed_85 ?_
                refine k_top (y := (nw 0)) rfl ?_
                refine k_top (y := (nI mn_0)) (hmn) ?_
                refine lv_icmp_ge (tgt := 154) hx hb dX8_mostBlamed_86 (by decide) (fun c_5 => ?_) (fun c_5 => ?_)
                · have c_5 : mn_0 ≤ q := (nI_leI (a := mn_0) (b := q) (by omega) (by omega)).mp c_5
                  refine lv_iload hx hb dX8_mostBlamed_154 (lv_at hl 1 rfl) ?_
                  have emany_0 : many.toNatClampNeg = many_0 := Eq.symm kemany_0
                  have epa_0 : pa.toNatClampNeg = pa_0 := Eq.symm kepa_0
                  have emn_0 : (nw 0).toNatClampNeg = mn_0 := Eq.symm kemn_0
                  obtain rfl : q = mn_0 := by omega
                  obtain rfl : k = many_0 := by omega
                  subst emany_0
                  subst epa_0
                  subst emn_0
                  subst ht
                  subst hQ
                  exact k_ri hx hb hr hlocks hP hD hS dX8_mostBlamed_156 (by rw [hrm9]) (rfl)
                · have c_5 : ¬ (mn_0 ≤ q) := fun h9 => c_5 ((nI_leI (a := mn_0) (b := q) (by omega) (by omega)).mpr h9)
                  refine lv_aload_n hx hb dX8_mostBlamed_89 rfl (lv_at hl 3 rfl) ?_
                  refine va_get (D := D) (ci := 8) (v := .ref tr0) (C := RX8) (T := TX8) (N := 16) hx hb hts (fun w h => (List.mem_cons_of_mem _ (List.mem_append_right _ h))) hown hK hP 0 rfl rfl 8 (by decide) (hts _ qX8_mostBlamed_1) (fun _ h9 => h9) rfl dX8_mostBlamed_90 ?_
                  refine lv_iload hx hb dX8_mostBlamed_93 (lv_at hl 0 rfl) ?_
                  refine lv_bipush (v := 6) hx hb dX8_mostBlamed_95 (by decide) ?_
                  refine k_ai (wr := [(m0, .inr (8, [.int 0, .ref sc0, .int (nI ss), .int (nI sp), .int ig, .int lo, .ref rd0, .ref nw0, .ref tr0, .ref di0, .int (nI ac), .ref ke0, .ref ik0, .ref cp0, .ref cn0, .ref be0])), (nw0, .inl (g 0, 748, .inl nw)), (tr0, .inl (g 0, 748, .inl (t.1))), (cp0, .inl (g 0, 10, .inl (t.2.1))), (cn0, .inl (g 0, 10, .inl (t.2.2)))]) (w2 := [(m0, .inr (8, [.int 0, .ref sc0, .int (nI ss), .int (nI sp), .int ig, .int lo, .ref rd0, .ref nw0, .ref tr0, .ref di0, .int (nI ac), .ref ke0, .ref ik0, .ref cp0, .ref cn0, .ref be0])), (nw0, .inl (g 0, 748, .inl nw)), (tr0, .inl (g 0, 748, .inl (t.1))), (cp0, .inl (g 0, 10, .inl (t.2.1))), (cn0, .inl (g 0, 10, .inl (t.2.2)))]) (va_runS (As := [.int (nI q), .int 6]) (rest := [.ref tr0]) ⟨hx, hb, hml, hown, hts⟩ (c_X8_partAt l D g H.size q 6) (va_cwS 2 hts gX8_mostBlamed_X8_partAt rfl rfl rfl (by decide +kernel) (k_lvl (by omega) (by decide))) (kPS hP hD hK hS hA hE [] rfl (by decide)) rfl rfl hl.1 rfl (lv_room (Nat.le_of_ble_eq_true rfl)) dX8_mostBlamed_97 ⟨Nat.le_of_ble_eq_true rfl, Nat.le_of_ble_eq_true rfl⟩) hP hD hS hA [] [0, 1, 2, 3, 4] [0, 1, 2, 3, 4] rfl rfl (by decide) (by decide) rfl (by decide) (fun H locs hP hD hS => ?_)
                  refine va_iald (i := (nI (1 + 8 * q + 6))) hx hb hK hP 2 0 rfl rfl (vp_in_nI (n := (1 + 8 * q + 6)) (by omega) (by omega)) dX8_mostBlamed_100 ?_
                  refine k_top (y := ((t.1) (1 + 8 * q + 6))) (by rw [nI_clamp (by omega)]) ?_
                  refine lv_aload_n hx hb dX8_mostBlamed_101 rfl (lv_at hl 3 rfl) ?_
                  refine va_get (D := D) (ci := 8) (v := .ref nw0) (C := RX8) (T := TX8) (N := 16) hx hb hts (fun w h => (List.mem_cons_of_mem _ (List.mem_append_right _ h))) hown hK hP 0 rfl rfl 7 (by decide) (hts _ qX8_mostBlamed_0) (fun _ h9 => h9) rfl dX8_mostBlamed_102 ?_
                  refine lv_iload hx hb dX8_mostBlamed_105 (lv_at hl 0 rfl) ?_
                  refine lv_bipush (v := 6) hx hb dX8_mostBlamed_107 (by decide) ?_
                  refine k_ai (wr := [(m0, .inr (8, [.int 0, .ref sc0, .int (nI ss), .int (nI sp), .int ig, .int lo, .ref rd0, .ref nw0, .ref tr0, .ref di0, .int (nI ac), .ref ke0, .ref ik0, .ref cp0, .ref cn0, .ref be0])), (nw0, .inl (g 0, 748, .inl nw)), (tr0, .inl (g 0, 748, .inl (t.1))), (cp0, .inl (g 0, 10, .inl (t.2.1))), (cn0, .inl (g 0, 10, .inl (t.2.2)))]) (w2 := [(m0, .inr (8, [.int 0, .ref sc0, .int (nI ss), .int (nI sp), .int ig, .int lo, .ref rd0, .ref nw0, .ref tr0, .ref di0, .int (nI ac), .ref ke0, .ref ik0, .ref cp0, .ref cn0, .ref be0])), (nw0, .inl (g 0, 748, .inl nw)), (tr0, .inl (g 0, 748, .inl (t.1))), (cp0, .inl (g 0, 10, .inl (t.2.1))), (cn0, .inl (g 0, 10, .inl (t.2.2)))]) (va_runS (As := [.int (nI q), .int 6]) (rest := [.ref nw0, .int ((t.1) (1 + 8 * q + 6))]) ⟨hx, hb, hml, hown, hts⟩ (c_X8_partAt l D g H.size q 6) (va_cwS 2 hts gX8_mostBlamed_X8_partAt rfl rfl rfl (by decide +kernel) (k_lvl (by omega) (by decide))) (kPS hP hD hK hS hA hE [] rfl (by decide)) rfl rfl hl.1 rfl (lv_room (Nat.le_of_ble_eq_true rfl)) dX8_mostBlamed_109 ⟨Nat.le_of_ble_eq_true rfl, Nat.le_of_ble_eq_true rfl⟩) hP hD hS hA [] [0, 1, 2, 3, 4] [0, 1, 2, 3, 4] rfl rfl (by decide) (by decide) rfl (by decide) (fun H locs hP hD hS => ?_)
                  refine va_iald (i := (nI (1 + 8 * q + 6))) hx hb hK hP 1 0 rfl rfl (vp_in_nI (n := (1 + 8 * q + 6)) (by omega) (by omega)) dX8_mostBlamed_112 ?_
                  refine k_top (y := (nw (1 + 8 * q + 6))) (by rw [nI_clamp (by omega)]) ?_
                  refine lv_isub hx hb dX8_mostBlamed_113 ?_
                  refine lv_istore (lv' := [(7, .int (((t.1) (1 + 8 * q + 6)) - (nw (1 + 8 * q + 6)))), (6, .int (nI q)), (4, .int r.1), (5, .int r.2), (0, .ref m0)]) hx hb dX8_mostBlamed_114 hl (by decide) rfl (fun ls hl => ?_)
                  refine lv_iload hx hb dX8_mostBlamed_116 (lv_at hl 0 rfl) ?_
                  refine lv_iload hx hb dX8_mostBlamed_118 (lv_at hl 3 rfl) ?_
                  refine lv_icmp_le (tgt := 128) hx hb dX8_mostBlamed_120 (by decide) (fun c_6 => ?_) (fun c_6 => ?_)
                  · refine lv_iload hx hb dX8_mostBlamed_128 (lv_at hl 2 rfl) ?_
                    refine lv_istore (lv' := [(4, .int r.1), (7, .int (((t.1) (1 + 8 * q + 6)) - (nw (1 + 8 * q + 6)))), (6, .int (nI q)), (5, .int r.2), (0, .ref m0)]) hx hb dX8_mostBlamed_130 hl (by decide) rfl (fun ls hl => ?_)
                    refine lv_iload hx hb dX8_mostBlamed_132 (lv_at hl 1 rfl) ?_
                    refine lv_iload hx hb dX8_mostBlamed_134 (lv_at hl 3 rfl) ?_
                    refine lv_icmp_le (tgt := 144) hx hb dX8_mostBlamed_136 (by decide) (fun _ => ?_) (fun c_7 => absurd c_6 c_7)
                    refine lv_iload hx hb dX8_mostBlamed_144 (lv_at hl 3 rfl) ?_
                    refine lv_istore (lv' := [(5, .int r.2), (4, .int r.1), (7, .int (((t.1) (1 + 8 * q + 6)) - (nw (1 + 8 * q + 6)))), (6, .int (nI q)), (0, .ref m0)]) hx hb dX8_mostBlamed_146 hl (by decide) rfl (fun ls hl => ?_)
                    refine lv_iinc (v := (nI (q + 1))) (lv' := [(6, .int (nI (q + 1))), (5, .int r.2), (4, .int r.1), (7, .int (((t.1) (1 + 8 * q + 6)) - (nw (1 + 8 * q + 6)))), (0, .ref m0)]) hx hb dX8_mostBlamed_148 hl (k := 3) rfl (nI_1 _) (by decide) rfl (fun ls hl => ?_)
                    refine lv_goto (tgt := 78) hx hb dX8_mostBlamed_151 (by decide) ?_
                    exact ih_78 (q + 1) (r.1, r.2) (by omega) (by omega) (by rw [rMb, ← hrm9, if_pos c_6, if_pos c_6]) H locs ls hP hD hS (lv_sub hl [0, 2, 1, 4] rfl)
                  · refine lv_iload hx hb dX8_mostBlamed_123 (lv_at hl 1 rfl) ?_
                    refine lv_goto (tgt := 130) hx hb dX8_mostBlamed_125 (by decide) ?_
                    refine lv_istore (lv' := [(4, .int (nI q)), (7, .int (((t.1) (1 + 8 * q + 6)) - (nw (1 + 8 * q + 6)))), (6, .int (nI q)), (5, .int r.2), (0, .ref m0)]) hx hb dX8_mostBlamed_130 hl (by decide) rfl (fun ls hl => ?_)
                    refine lv_iload hx hb dX8_mostBlamed_132 (lv_at hl 1 rfl) ?_
                    refine lv_iload hx hb dX8_mostBlamed_134 (lv_at hl 3 rfl) ?_
                    refine lv_icmp_le (tgt := 144) hx hb dX8_mostBlamed_136 (by decide) (fun c_8 => absurd c_8 c_6) (fun _ => ?_)
                    refine lv_iload hx hb dX8_mostBlamed_139 (lv_at hl 1 rfl) ?_
                    refine lv_goto (tgt := 146) hx hb dX8_mostBlamed_141 (by decide) ?_
                    refine lv_istore (lv' := [(5, .int (((t.1) (1 + 8 * q + 6)) - (nw (1 + 8 * q + 6)))), (4, .int (nI q)), (7, .int (((t.1) (1 + 8 * q + 6)) - (nw (1 + 8 * q + 6)))), (6, .int (nI q)), (0, .ref m0)]) hx hb dX8_mostBlamed_146 hl (by decide) rfl (fun ls hl => ?_)
                    refine lv_iinc (v := (nI (q + 1))) (lv' := [(6, .int (nI (q + 1))), (5, .int (((t.1) (1 + 8 * q + 6)) - (nw (1 + 8 * q + 6)))), (4, .int (nI q)), (7, .int (((t.1) (1 + 8 * q + 6)) - (nw (1 + 8 * q + 6)))), (0, .ref m0)]) hx hb dX8_mostBlamed_148 hl (k := 3) rfl (nI_1 _) (by decide) rfl (fun ls hl => ?_)
                    refine lv_goto (tgt := 78) hx hb dX8_mostBlamed_151 (by decide) ?_
                    exact ih_78 (q + 1) ((nI q), (((t.1) (1 + 8 * q + 6)) - (nw (1 + 8 * q + 6)))) (by omega) (by omega) (by rw [rMb, ← hrm9, if_neg c_6, if_neg c_6]) H locs ls hP hD hS (lv_sub hl [0, 2, 1, 4] rfl)
            exact hloop_78 ((mn_0 - 0) + 1) 0 ((-10000), 0) (Nat.lt_succ_self _) (by omega) rfl H locs ls hP hD hS (lv_sub hl [0, 2, 1, 3] rfl)
          · have c_4 : ¬ (many_0 ≤ k) := fun h9 => c_4 ((nI_leI (a := many_0) (b := k) (by omega) (by omega)).mpr h9)
            refine lv_aload_n hx hb dX8_mostBlamed_47 rfl (lv_at hl 1 rfl) ?_
            refine lv_aload_n hx hb dX8_mostBlamed_48 rfl (lv_at hl 1 rfl) ?_
            refine va_get (D := D) (ci := 8) (v := .ref tr0) (C := RX8) (T := TX8) (N := 16) hx hb hts (fun w h => (List.mem_cons_of_mem _ (List.mem_append_right _ h))) hown hK hP 0 rfl rfl 8 (by decide) (hts _ qX8_mostBlamed_1) (fun _ h9 => h9) rfl dX8_mostBlamed_49 ?_
            refine lv_iload_n hx hb dX8_mostBlamed_52 rfl (lv_at hl 2 rfl) ?_
            refine lv_iload_n hx hb dX8_mostBlamed_53 rfl (lv_at hl 3 rfl) ?_
            refine lv_iload hx hb dX8_mostBlamed_54 (lv_at hl 0 rfl) ?_
            refine lv_iadd hx hb dX8_mostBlamed_56 ?_
            have hC := c_X8_callInH l D g m0 tr0 sc0 rd0 nw0 tr0 di0 ke0 ik0 cp0 cn0 be0 H.size 0 ss sp ig lo ac (t.2.1) (t.2.2) (t.1) pa_0 (low + (nI k)) (by omega) hT.2
            obtain ⟨v_9, ev_9⟩ : ∃ z, z = (h_X8_callIn (t.2.1) (t.2.2) (t.1) pa_0 (low + (nI k))) := ⟨_, rfl⟩
            rw [← ev_9] at hC
            have kev_9 : kEq v_9 (h_X8_callIn (t.2.1) (t.2.2) (t.1) pa_0 (low + (nI k))) := ev_9
            clear ev_9
            refine k_ai (wr := [(nw0, .inl (g 0, 748, .inl nw))]) (w2 := [(m0, .inr (8, [.int 0, .ref sc0, .int (nI ss), .int (nI sp), .int ig, .int lo, .ref rd0, .ref nw0, .ref tr0, .ref di0, .int (nI ac), .ref ke0, .ref ik0, .ref cp0, .ref cn0, .ref be0])), (nw0, .inl (g 0, 748, .inl nw)), (tr0, .inl (g 0, 748, .inl v_9.2.1)), (cp0, .inl (g 0, 10, .inl v_9.2.2.1)), (cn0, .inl (g 0, 10, .inl v_9.2.2.2))]) (va_runV (As := [.ref tr0, .int (nI pa_0), .int (low + (nI k))]) (rest := []) ⟨hx, hb, hml, hown, hts⟩ hC (cwV 3 hts gX8_mostBlamed_X8_callIn rfl rfl rfl (by decide +kernel) (k_lvl (by omega) (by decide))) (kPV hP hD hK hS hA hE [0, 3, 4, 2] rfl (by decide) 0 8 rfl rfl rfl) rfl rfl hl.1 rfl (lv_room (Nat.le_of_ble_eq_true rfl)) dX8_mostBlamed_57 ⟨Nat.le_of_ble_eq_true rfl, Nat.le_of_ble_eq_true rfl⟩) hP hD hS hA [0, 3, 4, 2] [1] [1, 0, 4, 2, 3] rfl rfl (by decide) (by decide) rfl (by decide) (fun H locs hP hD hS => ?_)
            refine lv_pop hx hb dX8_mostBlamed_60 rfl ?_
            refine lv_iinc (v := (nI (k + 1))) (lv' := [(4, .int (nI (k + 1))), (0, .ref m0), (1, .int (nI pa_0)), (2, .int low), (3, .int (nI many_0))]) hx hb dX8_mostBlamed_61 hl (k := 0) rfl (nI_1 _) (by decide) rfl (fun ls hl => ?_)
            refine lv_goto (tgt := 41) hx hb dX8_mostBlamed_64 (by decide) ?_
            exact ih_41 (k + 1) v_9.2 (by omega) (by omega) (by rw [rCalls, ← ht]; exact congrArg Prod.snd (show v_9 = (h_X8_callIn (t.2.1) (t.2.2) (t.1) pa_0 (low + (nI k))) from kev_9)) (by have e9 : v_9 = (h_X8_callIn (t.2.1) (t.2.2) (t.1) pa_0 (low + (nI k))) := kev_9; rw [e9]; exact rdOk_same (callIn_same hT.2 (by omega)) hT) H locs ls hP hD hS (lv_sub hl [0, 1, 2, 3, 4] rfl)
      exact hloop_41 ((many_0 - 0) + 1) 0 (nw, cp, cn) (Nat.lt_succ_self _) (by omega) rfl hO H locs ls hP hD hS (lv_sub hl [0, 1, 2, 3, 4] rfl)
  · refine lv_iconst (v := 1) hx hb dX8_mostBlamed_9 (by decide) ?_
    refine lv_goto (tgt := 26) hx hb dX8_mostBlamed_10 (by decide) ?_
    have emn_0 : (nw 0).toNatClampNeg = mn_0 := Eq.symm kemn_0
    subst emn_0
    have h9 : (kc_X8_mostBlamed nw pa low many) = 1 := (if_pos c_1).trans (rfl)
    rw [hk] at h9
    exact absurd h9 (by decide)
set_option maxHeartbeats 4000000 in
set_option maxRecDepth 100000 in
theorem c_X8_mostBlamed_bad (l : Launch) (D : va_G) (g : Nat → Nat) (m0 sc0 rd0 nw0 tr0 di0 ke0 ik0 cp0 cn0 be0 : Nat) (sz : Nat) (rf : Int32) (ss : Nat) (sp : Nat) (ig : Int32) (lo : Int32) (ac : Nat) (nw : Nat → Int32) (tr : Nat → Int32) (cp : Nat → Int32) (cn : Nat → Int32) (pa : Int32) (low : Int32) (many : Int32) (hO : rdOk nw) (hk : ¬ (kc_X8_mostBlamed nw pa low many) = 0) : kMi l D g yX8_mostBlamed wsX8_mostBlamed 6 0 0 [.ref m0, .int pa, .int low, .int many] [(m0, .inr (8, [.int rf, .ref sc0, .int (nI ss), .int (nI sp), .int ig, .int lo, .ref rd0, .ref nw0, .ref tr0, .ref di0, .int (nI ac), .ref ke0, .ref ik0, .ref cp0, .ref cn0, .ref be0])), (nw0, .inl (g 0, 748, .inl nw)), (tr0, .inl (g 0, 748, .inl tr)), (cp0, .inl (g 0, 10, .inl cp)), (cn0, .inl (g 0, 10, .inl cn))] sz 0 [(m0, .inr (8, [.int (kc_X8_mostBlamed nw pa low many), .ref sc0, .int (nI ss), .int (nI sp), .int ig, .int lo, .ref rd0, .ref nw0, .ref tr0, .ref di0, .int (nI ac), .ref ke0, .ref ik0, .ref cp0, .ref cn0, .ref be0])), (nw0, .inl (g 0, 748, .inl nw)), (tr0, .inl (g 0, 748, .inl tr)), (cp0, .inl (g 0, 10, .inl cp)), (cn0, .inl (g 0, 10, .inl cn))] := by
  refine k_enter (nm := "mostBlamed") (own := RX8) (bytes := cX8_mostBlamed) (maxL := 8) (ret := (some .int)) (Qf := fun A => kQi D [(m0, .inr (8, [.int (kc_X8_mostBlamed nw pa low many), .ref sc0, .int (nI ss), .int (nI sp), .int ig, .int lo, .ref rd0, .ref nw0, .ref tr0, .ref di0, .int (nI ac), .ref ke0, .ref ik0, .ref cp0, .ref cn0, .ref be0])), (nw0, .inl (g 0, 748, .inl nw)), (tr0, .inl (g 0, 748, .inl tr)), (cp0, .inl (g 0, 10, .inl cp)), (cn0, .inl (g 0, 10, .inl cn))] A 0) (by decide) rfl rfl rfl (Nat.le_of_ble_eq_true rfl) ?_
  rintro pp ee s mm below meth cc A ls args Q H locs hQ ⟨hx, hb, hr, hml, hown, hts, hlocks, hin⟩ hP hK hD hA hS hE hl
  have hl : lv_has ls 8 [(0, .ref m0), (1, .int pa), (2, .int low), (3, .int many)] := hl
  refine lv_aload_n hx hb dX8_mostBlamed_0 rfl (lv_at hl 0 rfl) ?_
  refine lv_aload_n hx hb dX8_mostBlamed_1 rfl (lv_at hl 0 rfl) ?_
  refine lv_iload_n hx hb dX8_mostBlamed_2 rfl (lv_at hl 1 rfl) ?_
  refine k_ai (wr := [(tr0, .inl (g 0, 748, .inl tr)), (cp0, .inl (g 0, 10, .inl cp)), (cn0, .inl (g 0, 10, .inl cn))]) (w2 := [(m0, .inr (8, [.int rf, .ref sc0, .int (nI ss), .int (nI sp), .int ig, .int lo, .ref rd0, .ref nw0, .ref tr0, .ref di0, .int (nI ac), .ref ke0, .ref ik0, .ref cp0, .ref cn0, .ref be0])), (nw0, .inl (g 0, 748, .inl nw)), (tr0, .inl (g 0, 748, .inl tr)), (cp0, .inl (g 0, 10, .inl cp)), (cn0, .inl (g 0, 10, .inl cn))]) (va_runV (As := [.int pa]) (rest := [.ref m0]) ⟨hx, hb, hml, hown, hts⟩ (c_X8_isPart l D g m0 sc0 rd0 nw0 tr0 di0 ke0 ik0 cp0 cn0 be0 H.size rf ss sp ig lo ac nw pa) (cwV 1 hts gX8_mostBlamed_X8_isPart rfl rfl rfl (by decide +kernel) (k_lvl (by omega) (by decide))) (kPV hP hD hK hS hA hE [0, 1] rfl (by decide) 0 8 rfl rfl rfl) rfl rfl hl.1 rfl (lv_room (Nat.le_of_ble_eq_true rfl)) dX8_mostBlamed_3 ⟨Nat.le_of_ble_eq_true rfl, Nat.le_of_ble_eq_true rfl⟩) hP hD hS hA [0, 1] [2, 3, 4] [3, 4, 0, 1, 2] rfl rfl (by decide) (by decide) rfl (by decide) (fun H locs hP hD hS => ?_)
  refine lv_if_ne (tgt := 13) hx hb dX8_mostBlamed_6 (by decide) (fun c_1 => ?_) (fun c_1 => ?_)
  · refine lv_iload_n hx hb dX8_mostBlamed_13 rfl (lv_at hl 2 rfl) ?_
    refine lv_iload_n hx hb dX8_mostBlamed_14 rfl (lv_at hl 3 rfl) ?_
    refine k_ai (wr := [(m0, .inr (8, [.int rf, .ref sc0, .int (nI ss), .int (nI sp), .int ig, .int lo, .ref rd0, .ref nw0, .ref tr0, .ref di0, .int (nI ac), .ref ke0, .ref ik0, .ref cp0, .ref cn0, .ref be0])), (nw0, .inl (g 0, 748, .inl nw)), (tr0, .inl (g 0, 748, .inl tr)), (cp0, .inl (g 0, 10, .inl cp)), (cn0, .inl (g 0, 10, .inl cn))]) (w2 := [(m0, .inr (8, [.int rf, .ref sc0, .int (nI ss), .int (nI sp), .int ig, .int lo, .ref rd0, .ref nw0, .ref tr0, .ref di0, .int (nI ac), .ref ke0, .ref ik0, .ref cp0, .ref cn0, .ref be0])), (nw0, .inl (g 0, 748, .inl nw)), (tr0, .inl (g 0, 748, .inl tr)), (cp0, .inl (g 0, 10, .inl cp)), (cn0, .inl (g 0, 10, .inl cn))]) (va_runS (As := [.int low, .int many]) (rest := [.ref m0]) ⟨hx, hb, hml, hown, hts⟩ (c_X8_isTried l D g H.size low many) (va_cwS 2 hts gX8_mostBlamed_X8_isTried rfl rfl rfl (by decide +kernel) (k_lvl (by omega) (by decide))) (kPS hP hD hK hS hA hE [] rfl (by decide)) rfl rfl hl.1 rfl (lv_room (Nat.le_of_ble_eq_true rfl)) dX8_mostBlamed_15 ⟨Nat.le_of_ble_eq_true rfl, Nat.le_of_ble_eq_true rfl⟩) hP hD hS hA [] [0, 1, 2, 3, 4] [0, 1, 2, 3, 4] rfl rfl (by decide) (by decide) rfl (by decide) (fun H locs hP hD hS => ?_)
    refine lv_if_eq (tgt := 25) hx hb dX8_mostBlamed_18 (by decide) (fun c_2 => ?_) (fun c_2 => ?_)
    · refine lv_iconst (v := 2) hx hb dX8_mostBlamed_25 (by decide) ?_
      refine k_ai (wr := [(nw0, .inl (g 0, 748, .inl nw)), (tr0, .inl (g 0, 748, .inl tr)), (cp0, .inl (g 0, 10, .inl cp)), (cn0, .inl (g 0, 10, .inl cn))]) (w2 := [(m0, .inr (8, [.int 2, .ref sc0, .int (nI ss), .int (nI sp), .int ig, .int lo, .ref rd0, .ref nw0, .ref tr0, .ref di0, .int (nI ac), .ref ke0, .ref ik0, .ref cp0, .ref cn0, .ref be0])), (nw0, .inl (g 0, 748, .inl nw)), (tr0, .inl (g 0, 748, .inl tr)), (cp0, .inl (g 0, 10, .inl cp)), (cn0, .inl (g 0, 10, .inl cn))]) (va_runV (As := [.int 2]) (rest := []) ⟨hx, hb, hml, hown, hts⟩ (c_X8_refused2 l D g m0 sc0 rd0 nw0 tr0 di0 ke0 ik0 cp0 cn0 be0 H.size rf ss sp ig lo ac) (cwV 1 hts gX8_mostBlamed_X8_refused rfl rfl rfl (by decide +kernel) (k_lvl (by omega) (by decide))) (kPV hP hD hK hS hA hE [0] rfl (by decide) 0 8 rfl rfl rfl) rfl rfl hl.1 rfl (lv_room (Nat.le_of_ble_eq_true rfl)) dX8_mostBlamed_26 ⟨Nat.le_of_ble_eq_true rfl, Nat.le_of_ble_eq_true rfl⟩) hP hD hS hA [0] [1, 2, 3, 4] [4, 0, 1, 2, 3] rfl rfl (by decide) (by decide) rfl (by decide) (fun H locs hP hD hS => ?_)
      refine lv_if_eq (tgt := 34) hx hb dX8_mostBlamed_29 (by decide) (fun c_3 => absurd c_3 (by decide)) (fun _ => ?_)
      refine lv_iconst (v := 0) hx hb dX8_mostBlamed_32 (by decide) ?_
      subst hQ
      exact k_ri hx hb hr hlocks hP hD hS dX8_mostBlamed_33 (rfl) (by rw [show (kc_X8_mostBlamed nw pa low many) = 2 from (if_neg c_1).trans ((if_pos c_2).trans (rfl))])
    · refine lv_iconst (v := 0) hx hb dX8_mostBlamed_21 (by decide) ?_
      refine lv_goto (tgt := 26) hx hb dX8_mostBlamed_22 (by decide) ?_
      have h9 : (kc_X8_mostBlamed nw pa low many) = 0 := (if_neg c_1).trans ((if_neg c_2).trans (rfl))
      exact absurd h9 hk
  · refine lv_iconst (v := 1) hx hb dX8_mostBlamed_9 (by decide) ?_
    refine lv_goto (tgt := 26) hx hb dX8_mostBlamed_10 (by decide) ?_
    refine k_ai (wr := [(nw0, .inl (g 0, 748, .inl nw)), (tr0, .inl (g 0, 748, .inl tr)), (cp0, .inl (g 0, 10, .inl cp)), (cn0, .inl (g 0, 10, .inl cn))]) (w2 := [(m0, .inr (8, [.int 1, .ref sc0, .int (nI ss), .int (nI sp), .int ig, .int lo, .ref rd0, .ref nw0, .ref tr0, .ref di0, .int (nI ac), .ref ke0, .ref ik0, .ref cp0, .ref cn0, .ref be0])), (nw0, .inl (g 0, 748, .inl nw)), (tr0, .inl (g 0, 748, .inl tr)), (cp0, .inl (g 0, 10, .inl cp)), (cn0, .inl (g 0, 10, .inl cn))]) (va_runV (As := [.int 1]) (rest := []) ⟨hx, hb, hml, hown, hts⟩ (c_X8_refused1 l D g m0 sc0 rd0 nw0 tr0 di0 ke0 ik0 cp0 cn0 be0 H.size rf ss sp ig lo ac) (cwV 1 hts gX8_mostBlamed_X8_refused rfl rfl rfl (by decide +kernel) (k_lvl (by omega) (by decide))) (kPV hP hD hK hS hA hE [0] rfl (by decide) 0 8 rfl rfl rfl) rfl rfl hl.1 rfl (lv_room (Nat.le_of_ble_eq_true rfl)) dX8_mostBlamed_26 ⟨Nat.le_of_ble_eq_true rfl, Nat.le_of_ble_eq_true rfl⟩) hP hD hS hA [0] [1, 2, 3, 4] [4, 0, 1, 2, 3] rfl rfl (by decide) (by decide) rfl (by decide) (fun H locs hP hD hS => ?_)
    refine lv_if_eq (tgt := 34) hx hb dX8_mostBlamed_29 (by decide) (fun c_4 => absurd c_4 (by decide)) (fun _ => ?_)
    refine lv_iconst (v := 0) hx hb dX8_mostBlamed_32 (by decide) ?_
    subst hQ
    exact k_ri hx hb hr hlocks hP hD hS dX8_mostBlamed_33 (rfl) (by rw [show (kc_X8_mostBlamed nw pa low many) = 1 from (if_pos c_1).trans (rfl)])
def rReach (nw cp cn : Nat → Int32) (pa : Nat) (x high : Int32) : Int32 × KT := if (h_X8_isBad nw cp cn pa x).1 = 0 then (if high = 0 then rRe nw pa x (-1) 200 0 (h_X8_isBad nw cp cn pa x).2 else rRe nw pa x 1 200 0 (h_X8_isBad nw cp cn pa x).2) else (-10000, (h_X8_isBad nw cp cn pa x).2)
/-- what reach answers before it does anything: 0, or which of its exceptions is thrown -/
def kc_X8_reach (nw : Nat → Int32) (pa : Int32) (x : Int32) : Int32 :=
  if (f_X8_isPart nw pa) = 0 then
    1
  else
    if (f_X8_isNumber x) = 0 then
      2
    else
      0
set_option maxHeartbeats 4000000 in
set_option maxRecDepth 100000 in
theorem c_X8_reach (l : Launch) (D : va_G) (g : Nat → Nat) (m0 sc0 rd0 nw0 tr0 di0 ke0 ik0 cp0 cn0 be0 : Nat) (sz : Nat) (rf : Int32) (ss : Nat) (sp : Nat) (ig : Int32) (lo : Int32) (ac : Nat) (nw : Nat → Int32) (tr : Nat → Int32) (cp : Nat → Int32) (cn : Nat → Int32) (pa : Int32) (x : Int32) (high : Int32) (hO : rdOk nw) (hk : (kc_X8_reach nw pa x) = 0) : kMi l D g yX8_reach wsX8_reach 7 0 0 [.ref m0, .int pa, .int x, .int high] [(m0, .inr (8, [.int rf, .ref sc0, .int (nI ss), .int (nI sp), .int ig, .int lo, .ref rd0, .ref nw0, .ref tr0, .ref di0, .int (nI ac), .ref ke0, .ref ik0, .ref cp0, .ref cn0, .ref be0])), (nw0, .inl (g 0, 748, .inl nw)), (tr0, .inl (g 0, 748, .inl tr)), (cp0, .inl (g 0, 10, .inl cp)), (cn0, .inl (g 0, 10, .inl cn))] sz ((rReach nw cp cn pa.toNatClampNeg x high).1) [(m0, .inr (8, [.int 0, .ref sc0, .int (nI ss), .int (nI sp), .int ig, .int lo, .ref rd0, .ref nw0, .ref tr0, .ref di0, .int (nI ac), .ref ke0, .ref ik0, .ref cp0, .ref cn0, .ref be0])), (nw0, .inl (g 0, 748, .inl nw)), (tr0, .inl (g 0, 748, .inl ((rReach nw cp cn pa.toNatClampNeg x high).2.1))), (cp0, .inl (g 0, 10, .inl ((rReach nw cp cn pa.toNatClampNeg x high).2.2.1))), (cn0, .inl (g 0, 10, .inl ((rReach nw cp cn pa.toNatClampNeg x high).2.2.2)))] := by
  refine k_enter (nm := "reach") (own := RX8) (bytes := cX8_reach) (maxL := 6) (ret := (some .int)) (Qf := fun A => kQi D [(m0, .inr (8, [.int 0, .ref sc0, .int (nI ss), .int (nI sp), .int ig, .int lo, .ref rd0, .ref nw0, .ref tr0, .ref di0, .int (nI ac), .ref ke0, .ref ik0, .ref cp0, .ref cn0, .ref be0])), (nw0, .inl (g 0, 748, .inl nw)), (tr0, .inl (g 0, 748, .inl ((rReach nw cp cn pa.toNatClampNeg x high).2.1))), (cp0, .inl (g 0, 10, .inl ((rReach nw cp cn pa.toNatClampNeg x high).2.2.1))), (cn0, .inl (g 0, 10, .inl ((rReach nw cp cn pa.toNatClampNeg x high).2.2.2)))] A ((rReach nw cp cn pa.toNatClampNeg x high).1)) (by decide) rfl rfl rfl (Nat.le_of_ble_eq_true rfl) ?_
  rintro pp ee s mm below meth cc A ls args Q H locs hQ ⟨hx, hb, hr, hml, hown, hts, hlocks, hin⟩ hP hK hD hA hS hE hl
  have hl : lv_has ls 6 [(0, .ref m0), (1, .int pa), (2, .int x), (3, .int high)] := hl
  obtain ⟨mn_0, emn_0⟩ : ∃ z, z = (nw 0).toNatClampNeg := ⟨_, rfl⟩
  have hmn : nw 0 = nI mn_0 := by rw [emn_0]; exact (rdOk_mn hO).1
  have hm9 : mn_0 ≤ 10 := by rw [emn_0]; exact (rdOk_mn hO).2
  have kemn_0 : kEq mn_0 (nw 0).toNatClampNeg := emn_0
  clear emn_0
  refine lv_aload_n hx hb dX8_reach_0 rfl (lv_at hl 0 rfl) ?_
  refine lv_aload_n hx hb dX8_reach_1 rfl (lv_at hl 0 rfl) ?_
  refine lv_iload_n hx hb dX8_reach_2 rfl (lv_at hl 1 rfl) ?_
  refine k_ai (wr := [(tr0, .inl (g 0, 748, .inl tr)), (cp0, .inl (g 0, 10, .inl cp)), (cn0, .inl (g 0, 10, .inl cn))]) (w2 := [(m0, .inr (8, [.int rf, .ref sc0, .int (nI ss), .int (nI sp), .int ig, .int lo, .ref rd0, .ref nw0, .ref tr0, .ref di0, .int (nI ac), .ref ke0, .ref ik0, .ref cp0, .ref cn0, .ref be0])), (nw0, .inl (g 0, 748, .inl nw)), (tr0, .inl (g 0, 748, .inl tr)), (cp0, .inl (g 0, 10, .inl cp)), (cn0, .inl (g 0, 10, .inl cn))]) (va_runV (As := [.int pa]) (rest := [.ref m0]) ⟨hx, hb, hml, hown, hts⟩ (c_X8_isPart l D g m0 sc0 rd0 nw0 tr0 di0 ke0 ik0 cp0 cn0 be0 H.size rf ss sp ig lo ac nw pa) (cwV 1 hts gX8_reach_X8_isPart rfl rfl rfl (by decide +kernel) (k_lvl (by omega) (by decide))) (kPV hP hD hK hS hA hE [0, 1] rfl (by decide) 0 8 rfl rfl rfl) rfl rfl hl.1 rfl (lv_room (Nat.le_of_ble_eq_true rfl)) dX8_reach_3 ⟨Nat.le_of_ble_eq_true rfl, Nat.le_of_ble_eq_true rfl⟩) hP hD hS hA [0, 1] [2, 3, 4] [3, 4, 0, 1, 2] rfl rfl (by decide) (by decide) rfl (by decide) (fun H locs hP hD hS => ?_)
  refine lv_if_ne (tgt := 13) hx hb dX8_reach_6 (by decide) (fun c_1 => ?_) (fun c_1 => ?_)
  · refine lv_iload_n hx hb dX8_reach_13 rfl (lv_at hl 2 rfl) ?_
    refine k_ai (wr := [(m0, .inr (8, [.int rf, .ref sc0, .int (nI ss), .int (nI sp), .int ig, .int lo, .ref rd0, .ref nw0, .ref tr0, .ref di0, .int (nI ac), .ref ke0, .ref ik0, .ref cp0, .ref cn0, .ref be0])), (nw0, .inl (g 0, 748, .inl nw)), (tr0, .inl (g 0, 748, .inl tr)), (cp0, .inl (g 0, 10, .inl cp)), (cn0, .inl (g 0, 10, .inl cn))]) (w2 := [(m0, .inr (8, [.int rf, .ref sc0, .int (nI ss), .int (nI sp), .int ig, .int lo, .ref rd0, .ref nw0, .ref tr0, .ref di0, .int (nI ac), .ref ke0, .ref ik0, .ref cp0, .ref cn0, .ref be0])), (nw0, .inl (g 0, 748, .inl nw)), (tr0, .inl (g 0, 748, .inl tr)), (cp0, .inl (g 0, 10, .inl cp)), (cn0, .inl (g 0, 10, .inl cn))]) (va_runS (As := [.int x]) (rest := [.ref m0]) ⟨hx, hb, hml, hown, hts⟩ (c_X8_isNumber l D g H.size x) (va_cwS 1 hts gX8_reach_X8_isNumber rfl rfl rfl (by decide +kernel) (k_lvl (by omega) (by decide))) (kPS hP hD hK hS hA hE [] rfl (by decide)) rfl rfl hl.1 rfl (lv_room (Nat.le_of_ble_eq_true rfl)) dX8_reach_14 ⟨Nat.le_of_ble_eq_true rfl, Nat.le_of_ble_eq_true rfl⟩) hP hD hS hA [] [0, 1, 2, 3, 4] [0, 1, 2, 3, 4] rfl rfl (by decide) (by decide) rfl (by decide) (fun H locs hP hD hS => ?_)
    refine lv_if_eq (tgt := 24) hx hb dX8_reach_17 (by decide) (fun c_2 => ?_) (fun c_2 => ?_)
    · refine lv_iconst (v := 2) hx hb dX8_reach_24 (by decide) ?_
      have emn_0 : (nw 0).toNatClampNeg = mn_0 := Eq.symm kemn_0
      subst emn_0
      have h9 : (kc_X8_reach nw pa x) = 2 := (if_neg c_1).trans ((if_pos c_2).trans (rfl))
      rw [hk] at h9
      exact absurd h9 (by decide)
    · refine lv_iconst (v := 0) hx hb dX8_reach_20 (by decide) ?_
      refine lv_goto (tgt := 25) hx hb dX8_reach_21 (by decide) ?_
      refine k_ai (wr := [(nw0, .inl (g 0, 748, .inl nw)), (tr0, .inl (g 0, 748, .inl tr)), (cp0, .inl (g 0, 10, .inl cp)), (cn0, .inl (g 0, 10, .inl cn))]) (w2 := [(m0, .inr (8, [.int 0, .ref sc0, .int (nI ss), .int (nI sp), .int ig, .int lo, .ref rd0, .ref nw0, .ref tr0, .ref di0, .int (nI ac), .ref ke0, .ref ik0, .ref cp0, .ref cn0, .ref be0])), (nw0, .inl (g 0, 748, .inl nw)), (tr0, .inl (g 0, 748, .inl tr)), (cp0, .inl (g 0, 10, .inl cp)), (cn0, .inl (g 0, 10, .inl cn))]) (va_runV (As := [.int 0]) (rest := []) ⟨hx, hb, hml, hown, hts⟩ (c_X8_refused0 l D g m0 sc0 rd0 nw0 tr0 di0 ke0 ik0 cp0 cn0 be0 H.size rf ss sp ig lo ac) (cwV 1 hts gX8_reach_X8_refused rfl rfl rfl (by decide +kernel) (k_lvl (by omega) (by decide))) (kPV hP hD hK hS hA hE [0] rfl (by decide) 0 8 rfl rfl rfl) rfl rfl hl.1 rfl (lv_room (Nat.le_of_ble_eq_true rfl)) dX8_reach_25 ⟨Nat.le_of_ble_eq_true rfl, Nat.le_of_ble_eq_true rfl⟩) hP hD hS hA [0] [1, 2, 3, 4] [4, 0, 1, 2, 3] rfl rfl (by decide) (by decide) rfl (by decide) (fun H locs hP hD hS => ?_)
      refine lv_if_eq (tgt := 33) hx hb dX8_reach_28 (by decide) (fun _ => ?_) (fun c_3 => absurd c_3 (by decide))
      obtain ⟨pa_0, epa_0⟩ : ∃ z, z = pa.toNatClampNeg := ⟨_, rfl⟩
      have qpa_0 : pa = nI pa_0 := by rw [epa_0]; exact (isPart_N c_1 hmn hm9).1
      have bpa_0 : pa_0 < mn_0 := by rw [epa_0]; exact (isPart_N c_1 hmn hm9).2
      have kepa_0 : kEq pa_0 pa.toNatClampNeg := epa_0
      clear epa_0
      have hl : lv_has ls 6 [(0, .ref m0), (1, .int (nI pa_0)), (2, .int x), (3, .int high)] := by
        have h9 := hl
        rw [qpa_0] at h9
        exact h9
      refine lv_aload_n hx hb dX8_reach_33 rfl (lv_at hl 0 rfl) ?_
      refine lv_iload_n hx hb dX8_reach_34 rfl (lv_at hl 1 rfl) ?_
      refine lv_iload_n hx hb dX8_reach_35 rfl (lv_at hl 2 rfl) ?_
      have hC := c_X8_isBadH l D g m0 sc0 rd0 nw0 tr0 di0 ke0 ik0 cp0 cn0 be0 H.size 0 ss sp ig lo ac nw tr cp cn pa_0 x hO (by omega)
      obtain ⟨v_4, ev_4⟩ : ∃ z, z = (h_X8_isBad nw cp cn pa_0 x) := ⟨_, rfl⟩
      rw [← ev_4] at hC
      have kev_4 : kEq v_4 (h_X8_isBad nw cp cn pa_0 x) := ev_4
      clear ev_4
      refine k_ai (wr := []) (w2 := [(m0, .inr (8, [.int 0, .ref sc0, .int (nI ss), .int (nI sp), .int ig, .int lo, .ref rd0, .ref nw0, .ref tr0, .ref di0, .int (nI ac), .ref ke0, .ref ik0, .ref cp0, .ref cn0, .ref be0])), (nw0, .inl (g 0, 748, .inl nw)), (tr0, .inl (g 0, 748, .inl v_4.2.1)), (cp0, .inl (g 0, 10, .inl v_4.2.2.1)), (cn0, .inl (g 0, 10, .inl v_4.2.2.2))]) (va_runV (As := [.int (nI pa_0), .int x]) (rest := []) ⟨hx, hb, hml, hown, hts⟩ hC (cwV 2 hts gX8_reach_X8_isBad rfl rfl rfl (by decide +kernel) (k_lvl (by omega) (by decide))) (kPV hP hD hK hS hA hE [0, 1, 2, 3, 4] rfl (by decide) 0 8 rfl rfl rfl) rfl rfl hl.1 rfl (lv_room (Nat.le_of_ble_eq_true rfl)) dX8_reach_36 ⟨Nat.le_of_ble_eq_true rfl, Nat.le_of_ble_eq_true rfl⟩) hP hD hS hA [0, 1, 2, 3, 4] [] [0, 1, 2, 3, 4] rfl rfl (by decide) (by decide) rfl (by decide) (fun H locs hP hD hS => ?_)
      refine lv_if_eq (tgt := 46) hx hb dX8_reach_39 (by decide) (fun c_5 => ?_) (fun c_5 => ?_)
      · refine lv_iload_n hx hb dX8_reach_46 rfl (lv_at hl 2 rfl) ?_
        refine lv_istore (lv' := [(4, .int x), (0, .ref m0), (1, .int (nI pa_0)), (2, .int x), (3, .int high)]) hx hb dX8_reach_47 hl (by decide) rfl (fun ls hl => ?_)
        refine lv_iload_n hx hb dX8_reach_49 rfl (lv_at hl 4 rfl) ?_
        refine lv_if_eq (tgt := 57) hx hb dX8_reach_50 (by decide) (fun c_6 => ?_) (fun c_6 => ?_)
        · refine lv_iconst (v := (-1)) hx hb dX8_reach_57 (by decide) ?_
          refine lv_istore (lv' := [(5, .int (-1)), (4, .int x), (0, .ref m0), (1, .int (nI pa_0)), (2, .int x), (3, .int high)]) hx hb dX8_reach_58 hl (by decide) rfl (fun ls hl => ?_)
          have hl : lv_has ls 6 [(5, .int (-1)), (4, .int (rAt x (-1) 0)), (0, .ref m0), (1, .int (nI pa_0)), (2, .int x), (3, .int high)] := by
            rw [rAt_0]
            exact hl
          have hloop_60 : ∀ (nn_60 : Nat) (a : Nat) (t : KT), 200 - a < nn_60 → ∀ (ha : a ≤ 200) (hr9 : rRe nw pa_0 x (-1) (200 - a) a t = (rReach nw cp cn pa.toNatClampNeg x high)) (H : Heap) (locs : List Loc) (ls : Array Slot), va_P D vwCl [(m0, .inr (8, [.int 0, .ref sc0, .int (nI ss), .int (nI sp), .int ig, .int lo, .ref rd0, .ref nw0, .ref tr0, .ref di0, .int (nI ac), .ref ke0, .ref ik0, .ref cp0, .ref cn0, .ref be0])), (nw0, .inl (g 0, 748, .inl nw)), (tr0, .inl (g 0, 748, .inl (t.1))), (cp0, .inl (g 0, 10, .inl (t.2.1))), (cn0, .inl (g 0, 10, .inl (t.2.2)))] H → va_D A [(m0, .inr (8, [.int 0, .ref sc0, .int (nI ss), .int (nI sp), .int ig, .int lo, .ref rd0, .ref nw0, .ref tr0, .ref di0, .int (nI ac), .ref ke0, .ref ik0, .ref cp0, .ref cn0, .ref be0])), (nw0, .inl (g 0, 748, .inl nw)), (tr0, .inl (g 0, 748, .inl (t.1))), (cp0, .inl (g 0, 10, .inl (t.2.1))), (cn0, .inl (g 0, 10, .inl (t.2.2)))] → va_S A s.heap H locs → lv_has ls 6 [(4, .int (rAt x (-1) a)), (5, .int (-1)), (0, .ref m0), (1, .int (nI pa_0)), (2, .int x)] → W pp l ee (kR 7 0 0) s mm args below meth cc H locs 0 0 Q (F0 mm 60 ls []) := by
            intro nn_60
            induction nn_60 with
            | zero => intro a t hm9; exact absurd hm9 (Nat.not_lt_zero _)
            | succ nn_60 ih_60 =>
              intro a t hm_60 ha hr9 H locs ls hP hD hS hl
              refine lv_iload hx hb dX8_reach_60 (lv_at hl 0 rfl) ?_
              refine lv_iload_n hx hb dX8_reach_62 rfl (lv_at hl 4 rfl) ?_
              refine lv_iload hx hb dX8_reach_63 (lv_at hl 1 rfl) ?_
              refine lv_sipush (v := 200) hx hb dX8_reach_65 (by decide) ?_
              refine lv_imul hx hb dX8_reach_68 ?_
              refine k_top (y := (-200)) (by decide) ?_
              refine lv_iadd hx hb dX8_reach_69 ?_
              refine lv_icmp_eq (tgt := 96) hx hb dX8_reach_70 (by decide) (fun c_7 => ?_) (fun c_7 => ?_)
              · refine lv_iload hx hb dX8_reach_96 (lv_at hl 0 rfl) ?_
                have ev_4 : (h_X8_isBad nw cp cn pa_0 x) = v_4 := Eq.symm kev_4
                have epa_0 : pa.toNatClampNeg = pa_0 := Eq.symm kepa_0
                have emn_0 : (nw 0).toNatClampNeg = mn_0 := Eq.symm kemn_0
                have hE2 := (rRe_end (nw := nw) (pa := pa_0) (x := x) (b := (-1)) (t := t) (rAt_200 ha (Or.inr ⟨rfl, rfl⟩) c_7)).symm.trans hr9
                subst hQ
                exact k_ri hx hb hr hlocks hP hD hS dX8_reach_98 (by rw [← hE2]) (by rw [← hE2])
              · have ha2 : a < 200 := by
                  rcases Nat.lt_or_ge a 200 with h8 | h8
                  · exact h8
                  · exfalso; obtain rfl : a = 200 := by omega
                    exact c_7 rfl
                refine lv_aload_n hx hb dX8_reach_73 rfl (lv_at hl 2 rfl) ?_
                refine lv_iload_n hx hb dX8_reach_74 rfl (lv_at hl 3 rfl) ?_
                refine lv_iload hx hb dX8_reach_75 (lv_at hl 0 rfl) ?_
                refine lv_iload hx hb dX8_reach_77 (lv_at hl 1 rfl) ?_
                refine lv_iadd hx hb dX8_reach_79 ?_
                refine k_top (y := (rAt x (-1) (a + 1))) (rAt_s _ _ _) ?_
                have hC := c_X8_isBadH l D g m0 sc0 rd0 nw0 tr0 di0 ke0 ik0 cp0 cn0 be0 H.size 0 ss sp ig lo ac nw (t.1) (t.2.1) (t.2.2) pa_0 (rAt x (-1) (a + 1)) hO (by omega)
                obtain ⟨v_8, ev_8⟩ : ∃ z, z = (h_X8_isBad nw (t.2.1) (t.2.2) pa_0 (rAt x (-1) (a + 1))) := ⟨_, rfl⟩
                rw [← ev_8] at hC
                have kev_8 : kEq v_8 (h_X8_isBad nw (t.2.1) (t.2.2) pa_0 (rAt x (-1) (a + 1))) := ev_8
                clear ev_8
                refine k_ai (wr := []) (w2 := [(m0, .inr (8, [.int 0, .ref sc0, .int (nI ss), .int (nI sp), .int ig, .int lo, .ref rd0, .ref nw0, .ref tr0, .ref di0, .int (nI ac), .ref ke0, .ref ik0, .ref cp0, .ref cn0, .ref be0])), (nw0, .inl (g 0, 748, .inl nw)), (tr0, .inl (g 0, 748, .inl v_8.2.1)), (cp0, .inl (g 0, 10, .inl v_8.2.2.1)), (cn0, .inl (g 0, 10, .inl v_8.2.2.2))]) (va_runV (As := [.int (nI pa_0), .int (rAt x (-1) (a + 1))]) (rest := []) ⟨hx, hb, hml, hown, hts⟩ hC (cwV 2 hts gX8_reach_X8_isBad rfl rfl rfl (by decide +kernel) (k_lvl (by omega) (by decide))) (kPV hP hD hK hS hA hE [0, 1, 2, 3, 4] rfl (by decide) 0 8 rfl rfl rfl) rfl rfl hl.1 rfl (lv_room (Nat.le_of_ble_eq_true rfl)) dX8_reach_80 ⟨Nat.le_of_ble_eq_true rfl, Nat.le_of_ble_eq_true rfl⟩) hP hD hS hA [0, 1, 2, 3, 4] [] [0, 1, 2, 3, 4] rfl rfl (by decide) (by decide) rfl (by decide) (fun H locs hP hD hS => ?_)
                refine lv_if_ne (tgt := 96) hx hb dX8_reach_83 (by decide) (fun c_9 => ?_) (fun c_9 => ?_)
                · refine lv_iload hx hb dX8_reach_96 (lv_at hl 0 rfl) ?_
                  have ev_8 : (h_X8_isBad nw (t.2.1) (t.2.2) pa_0 (rAt x (-1) (a + 1))) = v_8 := Eq.symm kev_8
                  have ev_4 : (h_X8_isBad nw cp cn pa_0 x) = v_4 := Eq.symm kev_4
                  have epa_0 : pa.toNatClampNeg = pa_0 := Eq.symm kepa_0
                  have emn_0 : (nw 0).toNatClampNeg = mn_0 := Eq.symm kemn_0
                  have hE2 := (rRe_hit (show a < 200 by omega) kev_8 c_9).symm.trans hr9
                  subst hQ
                  exact k_ri hx hb hr hlocks hP hD hS dX8_reach_98 (by rw [← hE2]) (by rw [← hE2])
                · refine lv_iload hx hb dX8_reach_86 (lv_at hl 0 rfl) ?_
                  refine lv_iload hx hb dX8_reach_88 (lv_at hl 1 rfl) ?_
                  refine lv_iadd hx hb dX8_reach_90 ?_
                  refine k_top (y := (rAt x (-1) (a + 1))) (rAt_s _ _ _) ?_
                  refine lv_istore (lv' := [(4, .int (rAt x (-1) (a + 1))), (5, .int (-1)), (0, .ref m0), (1, .int (nI pa_0)), (2, .int x)]) hx hb dX8_reach_91 hl (by decide) rfl (fun ls hl => ?_)
                  refine lv_goto (tgt := 60) hx hb dX8_reach_93 (by decide) ?_
                  exact ih_60 (a + 1) v_8.2 (by omega) (by omega) ((rRe_go (show a < 200 by omega) kev_8 c_9).trans hr9) H locs ls hP hD hS (lv_sub hl [0, 1, 2, 3, 4] rfl)
          exact hloop_60 ((200 - 0) + 1) 0 v_4.2 (Nat.lt_succ_self _) (by omega) (by have e1 : pa_0 = pa.toNatClampNeg := kepa_0; have e9 : v_4 = (h_X8_isBad nw cp cn pa_0 x) := kev_4; unfold rReach; rw [← e1, ← e9, if_pos c_5, if_pos c_6]) H locs ls hP hD hS (lv_sub hl [1, 0, 2, 3, 4] rfl)
        · refine lv_iconst (v := 1) hx hb dX8_reach_53 (by decide) ?_
          refine lv_goto (tgt := 58) hx hb dX8_reach_54 (by decide) ?_
          refine lv_istore (lv' := [(5, .int 1), (4, .int x), (0, .ref m0), (1, .int (nI pa_0)), (2, .int x), (3, .int high)]) hx hb dX8_reach_58 hl (by decide) rfl (fun ls hl => ?_)
          have hl : lv_has ls 6 [(5, .int 1), (4, .int (rAt x 1 0)), (0, .ref m0), (1, .int (nI pa_0)), (2, .int x), (3, .int high)] := by
            rw [rAt_0]
            exact hl
          have hloop_60 : ∀ (nn_60 : Nat) (a : Nat) (t : KT), 200 - a < nn_60 → ∀ (ha : a ≤ 200) (hr9 : rRe nw pa_0 x 1 (200 - a) a t = (rReach nw cp cn pa.toNatClampNeg x high)) (H : Heap) (locs : List Loc) (ls : Array Slot), va_P D vwCl [(m0, .inr (8, [.int 0, .ref sc0, .int (nI ss), .int (nI sp), .int ig, .int lo, .ref rd0, .ref nw0, .ref tr0, .ref di0, .int (nI ac), .ref ke0, .ref ik0, .ref cp0, .ref cn0, .ref be0])), (nw0, .inl (g 0, 748, .inl nw)), (tr0, .inl (g 0, 748, .inl (t.1))), (cp0, .inl (g 0, 10, .inl (t.2.1))), (cn0, .inl (g 0, 10, .inl (t.2.2)))] H → va_D A [(m0, .inr (8, [.int 0, .ref sc0, .int (nI ss), .int (nI sp), .int ig, .int lo, .ref rd0, .ref nw0, .ref tr0, .ref di0, .int (nI ac), .ref ke0, .ref ik0, .ref cp0, .ref cn0, .ref be0])), (nw0, .inl (g 0, 748, .inl nw)), (tr0, .inl (g 0, 748, .inl (t.1))), (cp0, .inl (g 0, 10, .inl (t.2.1))), (cn0, .inl (g 0, 10, .inl (t.2.2)))] → va_S A s.heap H locs → lv_has ls 6 [(4, .int (rAt x 1 a)), (5, .int 1), (0, .ref m0), (1, .int (nI pa_0)), (2, .int x)] → W pp l ee (kR 7 0 0) s mm args below meth cc H locs 0 0 Q (F0 mm 60 ls []) := by
            intro nn_60
            induction nn_60 with
            | zero => intro a t hm9; exact absurd hm9 (Nat.not_lt_zero _)
            | succ nn_60 ih_60 =>
              intro a t hm_60 ha hr9 H locs ls hP hD hS hl
              refine lv_iload hx hb dX8_reach_60 (lv_at hl 0 rfl) ?_
              refine lv_iload_n hx hb dX8_reach_62 rfl (lv_at hl 4 rfl) ?_
              refine lv_iload hx hb dX8_reach_63 (lv_at hl 1 rfl) ?_
              refine lv_sipush (v := 200) hx hb dX8_reach_65 (by decide) ?_
              refine lv_imul hx hb dX8_reach_68 ?_
              refine k_top (y := 200) (by decide) ?_
              refine lv_iadd hx hb dX8_reach_69 ?_
              refine lv_icmp_eq (tgt := 96) hx hb dX8_reach_70 (by decide) (fun c_10 => ?_) (fun c_10 => ?_)
              · refine lv_iload hx hb dX8_reach_96 (lv_at hl 0 rfl) ?_
                have ev_4 : (h_X8_isBad nw cp cn pa_0 x) = v_4 := Eq.symm kev_4
                have epa_0 : pa.toNatClampNeg = pa_0 := Eq.symm kepa_0
                have emn_0 : (nw 0).toNatClampNeg = mn_0 := Eq.symm kemn_0
                have hE2 := (rRe_end (nw := nw) (pa := pa_0) (x := x) (b := 1) (t := t) (rAt_200 ha (Or.inl ⟨rfl, rfl⟩) c_10)).symm.trans hr9
                subst hQ
                exact k_ri hx hb hr hlocks hP hD hS dX8_reach_98 (by rw [← hE2]) (by rw [← hE2])
              · have ha2 : a < 200 := by
                  rcases Nat.lt_or_ge a 200 with h8 | h8
                  · exact h8
                  · exfalso; obtain rfl : a = 200 := by omega
                    exact c_10 rfl
                refine lv_aload_n hx hb dX8_reach_73 rfl (lv_at hl 2 rfl) ?_
                refine lv_iload_n hx hb dX8_reach_74 rfl (lv_at hl 3 rfl) ?_
                refine lv_iload hx hb dX8_reach_75 (lv_at hl 0 rfl) ?_
                refine lv_iload hx hb dX8_reach_77 (lv_at hl 1 rfl) ?_
                refine lv_iadd hx hb dX8_reach_79 ?_
                refine k_top (y := (rAt x 1 (a + 1))) (rAt_s _ _ _) ?_
                have hC := c_X8_isBadH l D g m0 sc0 rd0 nw0 tr0 di0 ke0 ik0 cp0 cn0 be0 H.size 0 ss sp ig lo ac nw (t.1) (t.2.1) (t.2.2) pa_0 (rAt x 1 (a + 1)) hO (by omega)
                obtain ⟨v_11, ev_11⟩ : ∃ z, z = (h_X8_isBad nw (t.2.1) (t.2.2) pa_0 (rAt x 1 (a + 1))) := ⟨_, rfl⟩
                rw [← ev_11] at hC
                have kev_11 : kEq v_11 (h_X8_isBad nw (t.2.1) (t.2.2) pa_0 (rAt x 1 (a + 1))) := ev_11
                clear ev_11
                refine k_ai (wr := []) (w2 := [(m0, .inr (8, [.int 0, .ref sc0, .int (nI ss), .int (nI sp), .int ig, .int lo, .ref rd0, .ref nw0, .ref tr0, .ref di0, .int (nI ac), .ref ke0, .ref ik0, .ref cp0, .ref cn0, .ref be0])), (nw0, .inl (g 0, 748, .inl nw)), (tr0, .inl (g 0, 748, .inl v_11.2.1)), (cp0, .inl (g 0, 10, .inl v_11.2.2.1)), (cn0, .inl (g 0, 10, .inl v_11.2.2.2))]) (va_runV (As := [.int (nI pa_0), .int (rAt x 1 (a + 1))]) (rest := []) ⟨hx, hb, hml, hown, hts⟩ hC (cwV 2 hts gX8_reach_X8_isBad rfl rfl rfl (by decide +kernel) (k_lvl (by omega) (by decide))) (kPV hP hD hK hS hA hE [0, 1, 2, 3, 4] rfl (by decide) 0 8 rfl rfl rfl) rfl rfl hl.1 rfl (lv_room (Nat.le_of_ble_eq_true rfl)) dX8_reach_80 ⟨Nat.le_of_ble_eq_true rfl, Nat.le_of_ble_eq_true rfl⟩) hP hD hS hA [0, 1, 2, 3, 4] [] [0, 1, 2, 3, 4] rfl rfl (by decide) (by decide) rfl (by decide) (fun H locs hP hD hS => ?_)
                refine lv_if_ne (tgt := 96) hx hb dX8_reach_83 (by decide) (fun c_12 => ?_) (fun c_12 => ?_)
                · refine lv_iload hx hb dX8_reach_96 (lv_at hl 0 rfl) ?_
                  have ev_11 : (h_X8_isBad nw (t.2.1) (t.2.2) pa_0 (rAt x 1 (a + 1))) = v_11 := Eq.symm kev_11
                  have ev_4 : (h_X8_isBad nw cp cn pa_0 x) = v_4 := Eq.symm kev_4
                  have epa_0 : pa.toNatClampNeg = pa_0 := Eq.symm kepa_0
                  have emn_0 : (nw 0).toNatClampNeg = mn_0 := Eq.symm kemn_0
                  have hE2 := (rRe_hit (show a < 200 by omega) kev_11 c_12).symm.trans hr9
                  subst hQ
                  exact k_ri hx hb hr hlocks hP hD hS dX8_reach_98 (by rw [← hE2]) (by rw [← hE2])
                · refine lv_iload hx hb dX8_reach_86 (lv_at hl 0 rfl) ?_
                  refine lv_iload hx hb dX8_reach_88 (lv_at hl 1 rfl) ?_
                  refine lv_iadd hx hb dX8_reach_90 ?_
                  refine k_top (y := (rAt x 1 (a + 1))) (rAt_s _ _ _) ?_
                  refine lv_istore (lv' := [(4, .int (rAt x 1 (a + 1))), (5, .int 1), (0, .ref m0), (1, .int (nI pa_0)), (2, .int x)]) hx hb dX8_reach_91 hl (by decide) rfl (fun ls hl => ?_)
                  refine lv_goto (tgt := 60) hx hb dX8_reach_93 (by decide) ?_
                  exact ih_60 (a + 1) v_11.2 (by omega) (by omega) ((rRe_go (show a < 200 by omega) kev_11 c_12).trans hr9) H locs ls hP hD hS (lv_sub hl [0, 1, 2, 3, 4] rfl)
          exact hloop_60 ((200 - 0) + 1) 0 v_4.2 (Nat.lt_succ_self _) (by omega) (by have e1 : pa_0 = pa.toNatClampNeg := kepa_0; have e9 : v_4 = (h_X8_isBad nw cp cn pa_0 x) := kev_4; unfold rReach; rw [← e1, ← e9, if_pos c_5, if_neg c_6]) H locs ls hP hD hS (lv_sub hl [1, 0, 2, 3, 4] rfl)
      · refine lv_sipush (v := (-10000)) hx hb dX8_reach_42 (by decide) ?_
        have ev_4 : (h_X8_isBad nw cp cn pa_0 x) = v_4 := Eq.symm kev_4
        have epa_0 : pa.toNatClampNeg = pa_0 := Eq.symm kepa_0
        have emn_0 : (nw 0).toNatClampNeg = mn_0 := Eq.symm kemn_0
        have hE2 : (rReach nw cp cn pa.toNatClampNeg x high) = (-10000, v_4.2) := by
          have e1 : pa_0 = pa.toNatClampNeg := kepa_0
          have e9 : v_4 = (h_X8_isBad nw cp cn pa_0 x) := kev_4
          unfold rReach; rw [← e1, ← e9, if_neg c_5]
        subst hQ
        exact k_ri hx hb hr hlocks hP hD hS dX8_reach_45 (by rw [hE2]) (by rw [hE2])
  · refine lv_iconst (v := 1) hx hb dX8_reach_9 (by decide) ?_
    refine lv_goto (tgt := 25) hx hb dX8_reach_10 (by decide) ?_
    have emn_0 : (nw 0).toNatClampNeg = mn_0 := Eq.symm kemn_0
    subst emn_0
    have h9 : (kc_X8_reach nw pa x) = 1 := (if_pos c_1).trans (rfl)
    rw [hk] at h9
    exact absurd h9 (by decide)
set_option maxHeartbeats 4000000 in
set_option maxRecDepth 100000 in
theorem c_X8_reach_bad (l : Launch) (D : va_G) (g : Nat → Nat) (m0 sc0 rd0 nw0 tr0 di0 ke0 ik0 cp0 cn0 be0 : Nat) (sz : Nat) (rf : Int32) (ss : Nat) (sp : Nat) (ig : Int32) (lo : Int32) (ac : Nat) (nw : Nat → Int32) (tr : Nat → Int32) (cp : Nat → Int32) (cn : Nat → Int32) (pa : Int32) (x : Int32) (high : Int32) (hO : rdOk nw) (hk : ¬ (kc_X8_reach nw pa x) = 0) : kMi l D g yX8_reach wsX8_reach 7 0 0 [.ref m0, .int pa, .int x, .int high] [(m0, .inr (8, [.int rf, .ref sc0, .int (nI ss), .int (nI sp), .int ig, .int lo, .ref rd0, .ref nw0, .ref tr0, .ref di0, .int (nI ac), .ref ke0, .ref ik0, .ref cp0, .ref cn0, .ref be0])), (nw0, .inl (g 0, 748, .inl nw)), (tr0, .inl (g 0, 748, .inl tr)), (cp0, .inl (g 0, 10, .inl cp)), (cn0, .inl (g 0, 10, .inl cn))] sz 0 [(m0, .inr (8, [.int (kc_X8_reach nw pa x), .ref sc0, .int (nI ss), .int (nI sp), .int ig, .int lo, .ref rd0, .ref nw0, .ref tr0, .ref di0, .int (nI ac), .ref ke0, .ref ik0, .ref cp0, .ref cn0, .ref be0])), (nw0, .inl (g 0, 748, .inl nw)), (tr0, .inl (g 0, 748, .inl tr)), (cp0, .inl (g 0, 10, .inl cp)), (cn0, .inl (g 0, 10, .inl cn))] := by
  refine k_enter (nm := "reach") (own := RX8) (bytes := cX8_reach) (maxL := 6) (ret := (some .int)) (Qf := fun A => kQi D [(m0, .inr (8, [.int (kc_X8_reach nw pa x), .ref sc0, .int (nI ss), .int (nI sp), .int ig, .int lo, .ref rd0, .ref nw0, .ref tr0, .ref di0, .int (nI ac), .ref ke0, .ref ik0, .ref cp0, .ref cn0, .ref be0])), (nw0, .inl (g 0, 748, .inl nw)), (tr0, .inl (g 0, 748, .inl tr)), (cp0, .inl (g 0, 10, .inl cp)), (cn0, .inl (g 0, 10, .inl cn))] A 0) (by decide) rfl rfl rfl (Nat.le_of_ble_eq_true rfl) ?_
  rintro pp ee s mm below meth cc A ls args Q H locs hQ ⟨hx, hb, hr, hml, hown, hts, hlocks, hin⟩ hP hK hD hA hS hE hl
  have hl : lv_has ls 6 [(0, .ref m0), (1, .int pa), (2, .int x), (3, .int high)] := hl
  refine lv_aload_n hx hb dX8_reach_0 rfl (lv_at hl 0 rfl) ?_
  refine lv_aload_n hx hb dX8_reach_1 rfl (lv_at hl 0 rfl) ?_
  refine lv_iload_n hx hb dX8_reach_2 rfl (lv_at hl 1 rfl) ?_
  refine k_ai (wr := [(tr0, .inl (g 0, 748, .inl tr)), (cp0, .inl (g 0, 10, .inl cp)), (cn0, .inl (g 0, 10, .inl cn))]) (w2 := [(m0, .inr (8, [.int rf, .ref sc0, .int (nI ss), .int (nI sp), .int ig, .int lo, .ref rd0, .ref nw0, .ref tr0, .ref di0, .int (nI ac), .ref ke0, .ref ik0, .ref cp0, .ref cn0, .ref be0])), (nw0, .inl (g 0, 748, .inl nw)), (tr0, .inl (g 0, 748, .inl tr)), (cp0, .inl (g 0, 10, .inl cp)), (cn0, .inl (g 0, 10, .inl cn))]) (va_runV (As := [.int pa]) (rest := [.ref m0]) ⟨hx, hb, hml, hown, hts⟩ (c_X8_isPart l D g m0 sc0 rd0 nw0 tr0 di0 ke0 ik0 cp0 cn0 be0 H.size rf ss sp ig lo ac nw pa) (cwV 1 hts gX8_reach_X8_isPart rfl rfl rfl (by decide +kernel) (k_lvl (by omega) (by decide))) (kPV hP hD hK hS hA hE [0, 1] rfl (by decide) 0 8 rfl rfl rfl) rfl rfl hl.1 rfl (lv_room (Nat.le_of_ble_eq_true rfl)) dX8_reach_3 ⟨Nat.le_of_ble_eq_true rfl, Nat.le_of_ble_eq_true rfl⟩) hP hD hS hA [0, 1] [2, 3, 4] [3, 4, 0, 1, 2] rfl rfl (by decide) (by decide) rfl (by decide) (fun H locs hP hD hS => ?_)
  refine lv_if_ne (tgt := 13) hx hb dX8_reach_6 (by decide) (fun c_1 => ?_) (fun c_1 => ?_)
  · refine lv_iload_n hx hb dX8_reach_13 rfl (lv_at hl 2 rfl) ?_
    refine k_ai (wr := [(m0, .inr (8, [.int rf, .ref sc0, .int (nI ss), .int (nI sp), .int ig, .int lo, .ref rd0, .ref nw0, .ref tr0, .ref di0, .int (nI ac), .ref ke0, .ref ik0, .ref cp0, .ref cn0, .ref be0])), (nw0, .inl (g 0, 748, .inl nw)), (tr0, .inl (g 0, 748, .inl tr)), (cp0, .inl (g 0, 10, .inl cp)), (cn0, .inl (g 0, 10, .inl cn))]) (w2 := [(m0, .inr (8, [.int rf, .ref sc0, .int (nI ss), .int (nI sp), .int ig, .int lo, .ref rd0, .ref nw0, .ref tr0, .ref di0, .int (nI ac), .ref ke0, .ref ik0, .ref cp0, .ref cn0, .ref be0])), (nw0, .inl (g 0, 748, .inl nw)), (tr0, .inl (g 0, 748, .inl tr)), (cp0, .inl (g 0, 10, .inl cp)), (cn0, .inl (g 0, 10, .inl cn))]) (va_runS (As := [.int x]) (rest := [.ref m0]) ⟨hx, hb, hml, hown, hts⟩ (c_X8_isNumber l D g H.size x) (va_cwS 1 hts gX8_reach_X8_isNumber rfl rfl rfl (by decide +kernel) (k_lvl (by omega) (by decide))) (kPS hP hD hK hS hA hE [] rfl (by decide)) rfl rfl hl.1 rfl (lv_room (Nat.le_of_ble_eq_true rfl)) dX8_reach_14 ⟨Nat.le_of_ble_eq_true rfl, Nat.le_of_ble_eq_true rfl⟩) hP hD hS hA [] [0, 1, 2, 3, 4] [0, 1, 2, 3, 4] rfl rfl (by decide) (by decide) rfl (by decide) (fun H locs hP hD hS => ?_)
    refine lv_if_eq (tgt := 24) hx hb dX8_reach_17 (by decide) (fun c_2 => ?_) (fun c_2 => ?_)
    · refine lv_iconst (v := 2) hx hb dX8_reach_24 (by decide) ?_
      refine k_ai (wr := [(nw0, .inl (g 0, 748, .inl nw)), (tr0, .inl (g 0, 748, .inl tr)), (cp0, .inl (g 0, 10, .inl cp)), (cn0, .inl (g 0, 10, .inl cn))]) (w2 := [(m0, .inr (8, [.int 2, .ref sc0, .int (nI ss), .int (nI sp), .int ig, .int lo, .ref rd0, .ref nw0, .ref tr0, .ref di0, .int (nI ac), .ref ke0, .ref ik0, .ref cp0, .ref cn0, .ref be0])), (nw0, .inl (g 0, 748, .inl nw)), (tr0, .inl (g 0, 748, .inl tr)), (cp0, .inl (g 0, 10, .inl cp)), (cn0, .inl (g 0, 10, .inl cn))]) (va_runV (As := [.int 2]) (rest := []) ⟨hx, hb, hml, hown, hts⟩ (c_X8_refused2 l D g m0 sc0 rd0 nw0 tr0 di0 ke0 ik0 cp0 cn0 be0 H.size rf ss sp ig lo ac) (cwV 1 hts gX8_reach_X8_refused rfl rfl rfl (by decide +kernel) (k_lvl (by omega) (by decide))) (kPV hP hD hK hS hA hE [0] rfl (by decide) 0 8 rfl rfl rfl) rfl rfl hl.1 rfl (lv_room (Nat.le_of_ble_eq_true rfl)) dX8_reach_25 ⟨Nat.le_of_ble_eq_true rfl, Nat.le_of_ble_eq_true rfl⟩) hP hD hS hA [0] [1, 2, 3, 4] [4, 0, 1, 2, 3] rfl rfl (by decide) (by decide) rfl (by decide) (fun H locs hP hD hS => ?_)
      refine lv_if_eq (tgt := 33) hx hb dX8_reach_28 (by decide) (fun c_3 => absurd c_3 (by decide)) (fun _ => ?_)
      refine lv_iconst (v := 0) hx hb dX8_reach_31 (by decide) ?_
      subst hQ
      exact k_ri hx hb hr hlocks hP hD hS dX8_reach_32 (rfl) (by rw [show (kc_X8_reach nw pa x) = 2 from (if_neg c_1).trans ((if_pos c_2).trans (rfl))])
    · refine lv_iconst (v := 0) hx hb dX8_reach_20 (by decide) ?_
      refine lv_goto (tgt := 25) hx hb dX8_reach_21 (by decide) ?_
      have h9 : (kc_X8_reach nw pa x) = 0 := (if_neg c_1).trans ((if_neg c_2).trans (rfl))
      exact absurd h9 hk
  · refine lv_iconst (v := 1) hx hb dX8_reach_9 (by decide) ?_
    refine lv_goto (tgt := 25) hx hb dX8_reach_10 (by decide) ?_
    refine k_ai (wr := [(nw0, .inl (g 0, 748, .inl nw)), (tr0, .inl (g 0, 748, .inl tr)), (cp0, .inl (g 0, 10, .inl cp)), (cn0, .inl (g 0, 10, .inl cn))]) (w2 := [(m0, .inr (8, [.int 1, .ref sc0, .int (nI ss), .int (nI sp), .int ig, .int lo, .ref rd0, .ref nw0, .ref tr0, .ref di0, .int (nI ac), .ref ke0, .ref ik0, .ref cp0, .ref cn0, .ref be0])), (nw0, .inl (g 0, 748, .inl nw)), (tr0, .inl (g 0, 748, .inl tr)), (cp0, .inl (g 0, 10, .inl cp)), (cn0, .inl (g 0, 10, .inl cn))]) (va_runV (As := [.int 1]) (rest := []) ⟨hx, hb, hml, hown, hts⟩ (c_X8_refused1 l D g m0 sc0 rd0 nw0 tr0 di0 ke0 ik0 cp0 cn0 be0 H.size rf ss sp ig lo ac) (cwV 1 hts gX8_reach_X8_refused rfl rfl rfl (by decide +kernel) (k_lvl (by omega) (by decide))) (kPV hP hD hK hS hA hE [0] rfl (by decide) 0 8 rfl rfl rfl) rfl rfl hl.1 rfl (lv_room (Nat.le_of_ble_eq_true rfl)) dX8_reach_25 ⟨Nat.le_of_ble_eq_true rfl, Nat.le_of_ble_eq_true rfl⟩) hP hD hS hA [0] [1, 2, 3, 4] [4, 0, 1, 2, 3] rfl rfl (by decide) (by decide) rfl (by decide) (fun H locs hP hD hS => ?_)
    refine lv_if_eq (tgt := 33) hx hb dX8_reach_28 (by decide) (fun c_4 => absurd c_4 (by decide)) (fun _ => ?_)
    refine lv_iconst (v := 0) hx hb dX8_reach_31 (by decide) ?_
    subst hQ
    exact k_ri hx hb hr hlocks hP hD hS dX8_reach_32 (rfl) (by rw [show (kc_X8_reach nw pa x) = 1 from (if_pos c_1).trans (rfl)])
end
