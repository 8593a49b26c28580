-- MODULE: the reference, its methods, 2
noncomputable section
def f_X8_remember (ac : Nat) (nw : Nat → Int32) (di : Nat → Int32) : Nat × (Nat → Int32) :=
  if ac = 14 then
    (((ac - 1) + 1), (va_cpy nw (va_cpy di di 748 0 9724) 0 (748 * (ac - 1)) 748))
  else
    ((ac + 1), (va_cpy nw di 0 (748 * ac) 748))
theorem qX8_remember_0 : Cond.fieldLink RX8 47 "BlameChainsModel" "acts" "I" ∈ wsX8_remember := (List.mem_cons_of_mem _ (List.mem_append_left _ (List.mem_of_getElem? (i := 0) rfl)))
theorem qX8_remember_1 : Cond.fieldLink RX8 16 "BlameChainsModel" "now" "[I" ∈ wsX8_remember := (List.mem_cons_of_mem _ (List.mem_append_left _ (List.mem_of_getElem? (i := 2) rfl)))
theorem qX8_remember_2 : Cond.fieldLink RX8 22 "BlameChainsModel" "diary" "[I" ∈ wsX8_remember := (List.mem_cons_of_mem _ (List.mem_append_left _ (List.mem_of_getElem? (i := 1) rfl)))
set_option maxHeartbeats 4000000 in
set_option maxRecDepth 100000 in
theorem c_X8_remember (l : Launch) (D : va_G) (g : Nat → Nat) (m0 sc0 rd0 nw0 tr0 di0 ke0 ik0 cp0 cn0 be0 : Nat) (sz : Nat) (rf : Int32) (ss : Nat) (sp : Nat) (ig : Int32) (lo : Int32) (ac : Nat) (nw : Nat → Int32) (di : Nat → Int32) (hac : ac ≤ 14) : kMv l D g yX8_remember wsX8_remember 2 0 0 [.ref m0] [(m0, .inr (8, [.int rf, .ref sc0, .int (nI ss), .int (nI sp), .int ig, .int lo, .ref rd0, .ref nw0, .ref tr0, .ref di0, .int (nI ac), .ref ke0, .ref ik0, .ref cp0, .ref cn0, .ref be0])), (nw0, .inl (g 0, 748, .inl nw)), (di0, .inl (g 0, 10472, .inl di))] sz [(m0, .inr (8, [.int rf, .ref sc0, .int (nI ss), .int (nI sp), .int ig, .int lo, .ref rd0, .ref nw0, .ref tr0, .ref di0, .int (nI ((f_X8_remember ac nw di).1)), .ref ke0, .ref ik0, .ref cp0, .ref cn0, .ref be0])), (nw0, .inl (g 0, 748, .inl nw)), (di0, .inl (g 0, 10472, .inl ((f_X8_remember ac nw di).2)))] := by
  refine k_enter (nm := "remember") (own := RX8) (bytes := cX8_remember) (maxL := 1) (ret := none) (Qf := fun A => kQv D [(m0, .inr (8, [.int rf, .ref sc0, .int (nI ss), .int (nI sp), .int ig, .int lo, .ref rd0, .ref nw0, .ref tr0, .ref di0, .int (nI ((f_X8_remember ac nw di).1)), .ref ke0, .ref ik0, .ref cp0, .ref cn0, .ref be0])), (nw0, .inl (g 0, 748, .inl nw)), (di0, .inl (g 0, 10472, .inl ((f_X8_remember ac nw di).2)))] A) (by decide) rfl rfl rfl (Nat.le_of_ble_eq_true rfl) ?_
  rintro pp ee s mm below meth cc A ls args Q H locs hQ ⟨hx, hb, hr, hml, hown, hts, hlocks, hin⟩ hP hK hD hA hS hE hl
  have hl : lv_has ls 1 [(0, .ref m0)] := hl
  refine lv_aload_n hx hb dX8_remember_0 rfl (lv_at hl 0 rfl) ?_
  refine va_get (D := D) (ci := 8) (v := .int (nI ac)) (C := RX8) (T := TX8) (N := 16) hx hb hts (fun w h => (List.mem_cons_of_mem _ (List.mem_append_right _ h))) hown hK hP 0 rfl rfl 10 (by decide) (hts _ qX8_remember_0) (fun _ h9 => h9) rfl dX8_remember_1 ?_
  refine lv_bipush (v := 14) hx hb dX8_remember_4 (by decide) ?_
  refine lv_icmp_ne (tgt := 37) hx hb dX8_remember_6 (by decide) (fun c_1 => ?_) (fun c_1 => ?_)
  · have c_1 : ¬ (ac = 14) := fun h9 => c_1 ((nI_eq (a := ac) (b := 14) (by omega) (by omega)).mpr h9)
    refine lv_aload_n hx hb dX8_remember_37 rfl (lv_at hl 0 rfl) ?_
    refine va_get (D := D) (ci := 8) (v := .ref nw0) (C := RX8) (T := TX8) (N := 16) hx hb hts (fun w h => (List.mem_cons_of_mem _ (List.mem_append_right _ h))) hown hK hP 0 rfl rfl 7 (by decide) (hts _ qX8_remember_1) (fun _ h9 => h9) rfl dX8_remember_38 ?_
    refine lv_iconst (v := 0) hx hb dX8_remember_41 (by decide) ?_
    refine lv_aload_n hx hb dX8_remember_42 rfl (lv_at hl 0 rfl) ?_
    refine va_get (D := D) (ci := 8) (v := .ref di0) (C := RX8) (T := TX8) (N := 16) hx hb hts (fun w h => (List.mem_cons_of_mem _ (List.mem_append_right _ h))) hown hK hP 0 rfl rfl 9 (by decide) (hts _ qX8_remember_2) (fun _ h9 => h9) rfl dX8_remember_43 ?_
    refine lv_sipush (v := 748) hx hb dX8_remember_46 (by decide) ?_
    refine lv_aload_n hx hb dX8_remember_49 rfl (lv_at hl 0 rfl) ?_
    refine va_get (D := D) (ci := 8) (v := .int (nI ac)) (C := RX8) (T := TX8) (N := 16) hx hb hts (fun w h => (List.mem_cons_of_mem _ (List.mem_append_right _ h))) hown hK hP 0 rfl rfl 10 (by decide) (hts _ qX8_remember_0) (fun _ h9 => h9) rfl dX8_remember_50 ?_
    refine lv_imul hx hb dX8_remember_53 ?_
    refine k_top (y := (nI (748 * ac))) (pk_mul 748 ac) ?_
    refine lv_sipush (v := 748) hx hb dX8_remember_54 (by decide) ?_
    refine k_av (wr := [(m0, .inr (8, [.int rf, .ref sc0, .int (nI ss), .int (nI sp), .int ig, .int lo, .ref rd0, .ref nw0, .ref tr0, .ref di0, .int (nI ac), .ref ke0, .ref ik0, .ref cp0, .ref cn0, .ref be0]))]) (w2 := [(m0, .inr (8, [.int rf, .ref sc0, .int (nI ss), .int (nI sp), .int ig, .int lo, .ref rd0, .ref nw0, .ref tr0, .ref di0, .int (nI ac), .ref ke0, .ref ik0, .ref cp0, .ref cn0, .ref be0])), (nw0, .inl (g 0, 748, .inl nw)), (di0, .inl (g 0, 10472, .inl (va_cpy nw di 0 (748 * ac) 748)))]) (va_runS (As := [.ref nw0, .int 0, .ref di0, .int (nI (748 * ac)), .int 748]) (rest := []) ⟨hx, hb, hml, hown, hts⟩ (c_X8_copy l D g nw0 di0 H.size nw di 0 (748 * ac) 748 748 10472 (by omega) (by omega) (by omega) (by omega)) (va_cwS 5 hts gX8_remember_X8_copy rfl rfl rfl (by decide +kernel) (k_lvl (by omega) (by decide))) (kPS hP hD hK hS hA hE [1, 2] rfl (by decide)) rfl rfl hl.1 rfl (lv_room (Nat.le_of_ble_eq_true rfl)) dX8_remember_57 ⟨Nat.le_of_ble_eq_true rfl, Nat.le_of_ble_eq_true rfl⟩) hP hD hS hA [1, 2] [0] [0, 1, 2] rfl rfl (by decide) (by decide) rfl (by decide) (fun H locs hP hD hS => ?_)
    refine lv_aload_n hx hb dX8_remember_60 rfl (lv_at hl 0 rfl) ?_
    refine lv_dup hx hb dX8_remember_61 rfl ?_
    refine va_get (D := D) (ci := 8) (v := .int (nI ac)) (C := RX8) (T := TX8) (N := 16) hx hb hts (fun w h => (List.mem_cons_of_mem _ (List.mem_append_right _ h))) hown hK hP 0 rfl rfl 10 (by decide) (hts _ qX8_remember_0) (fun _ h9 => h9) rfl dX8_remember_62 ?_
    refine lv_iconst (v := 1) hx hb dX8_remember_65 (by decide) ?_
    refine lv_iadd hx hb dX8_remember_66 ?_
    refine k_top (y := (nI (ac + 1))) (nI_add ac 1) ?_
    refine va_put (D := D) (ci := 8) (v := .int (nI (ac + 1))) (ty := .int) (C := RX8) (T := TX8) (N := 16) hx hb hts (fun w h => (List.mem_cons_of_mem _ (List.mem_append_right _ h))) tyX8 tyX8_ok nmX8 hown hK hP hD hS 0 rfl rfl 10 (by decide) (hts _ qX8_remember_0) (fun _ h9 => h9) rfl (by decide +kernel) rfl rfl (Nat.le_of_ble_eq_true rfl) dX8_remember_67 (fun H locs hP hD hS => ?_)
    have hP : va_P D vwCl [(m0, .inr (8, [.int rf, .ref sc0, .int (nI ss), .int (nI sp), .int ig, .int lo, .ref rd0, .ref nw0, .ref tr0, .ref di0, .int (nI (ac + 1)), .ref ke0, .ref ik0, .ref cp0, .ref cn0, .ref be0])), (nw0, .inl (g 0, 748, .inl nw)), (di0, .inl (g 0, 10472, .inl (va_cpy nw di 0 (748 * ac) 748)))] H := hP
    have hD : va_D A [(m0, .inr (8, [.int rf, .ref sc0, .int (nI ss), .int (nI sp), .int ig, .int lo, .ref rd0, .ref nw0, .ref tr0, .ref di0, .int (nI (ac + 1)), .ref ke0, .ref ik0, .ref cp0, .ref cn0, .ref be0])), (nw0, .inl (g 0, 748, .inl nw)), (di0, .inl (g 0, 10472, .inl (va_cpy nw di 0 (748 * ac) 748)))] := hD
    have hE2 : (f_X8_remember ac nw di) = ((ac + 1), (va_cpy nw di 0 (748 * ac) 748)) := by
      exact (if_neg c_1).trans (rfl)
    subst hQ
    exact k_rv hx hb hr hlocks hP hD hS dX8_remember_70 (by rw [hE2])
  · have c_1 : ac = 14 := (nI_eq (a := ac) (b := 14) (by omega) (by omega)).mp c_1
    refine lv_aload_n hx hb dX8_remember_9 rfl (lv_at hl 0 rfl) ?_
    refine va_get (D := D) (ci := 8) (v := .ref di0) (C := RX8) (T := TX8) (N := 16) hx hb hts (fun w h => (List.mem_cons_of_mem _ (List.mem_append_right _ h))) hown hK hP 0 rfl rfl 9 (by decide) (hts _ qX8_remember_2) (fun _ h9 => h9) rfl dX8_remember_10 ?_
    refine lv_sipush (v := 748) hx hb dX8_remember_13 (by decide) ?_
    refine lv_aload_n hx hb dX8_remember_16 rfl (lv_at hl 0 rfl) ?_
    refine va_get (D := D) (ci := 8) (v := .ref di0) (C := RX8) (T := TX8) (N := 16) hx hb hts (fun w h => (List.mem_cons_of_mem _ (List.mem_append_right _ h))) hown hK hP 0 rfl rfl 9 (by decide) (hts _ qX8_remember_2) (fun _ h9 => h9) rfl dX8_remember_17 ?_
    refine lv_iconst (v := 0) hx hb dX8_remember_20 (by decide) ?_
    refine lv_sipush (v := 9724) hx hb dX8_remember_21 (by decide) ?_
    refine k_av (wr := [(m0, .inr (8, [.int rf, .ref sc0, .int (nI ss), .int (nI sp), .int ig, .int lo, .ref rd0, .ref nw0, .ref tr0, .ref di0, .int (nI ac), .ref ke0, .ref ik0, .ref cp0, .ref cn0, .ref be0])), (nw0, .inl (g 0, 748, .inl nw))]) (w2 := [(m0, .inr (8, [.int rf, .ref sc0, .int (nI ss), .int (nI sp), .int ig, .int lo, .ref rd0, .ref nw0, .ref tr0, .ref di0, .int (nI ac), .ref ke0, .ref ik0, .ref cp0, .ref cn0, .ref be0])), (nw0, .inl (g 0, 748, .inl nw)), (di0, .inl (g 0, 10472, .inl (va_cpy di di 748 0 9724)))]) (va_runS (As := [.ref di0, .int 748, .ref di0, .int 0, .int 9724]) (rest := []) ⟨hx, hb, hml, hown, hts⟩ (c_X8_copyS l D g di0 H.size di 748 0 9724 10472 rfl (by omega) (by omega)) (va_cwS 5 hts gX8_remember_X8_copy rfl rfl rfl (by decide +kernel) (k_lvl (by omega) (by decide))) (kPS hP hD hK hS hA hE [2] rfl (by decide)) rfl rfl hl.1 rfl (lv_room (Nat.le_of_ble_eq_true rfl)) dX8_remember_24 ⟨Nat.le_of_ble_eq_true rfl, Nat.le_of_ble_eq_true rfl⟩) hP hD hS hA [2] [0, 1] [0, 1, 2] rfl rfl (by decide) (by decide) rfl (by decide) (fun H locs hP hD hS => ?_)
    refine lv_aload_n hx hb dX8_remember_27 rfl (lv_at hl 0 rfl) ?_
    refine lv_dup hx hb dX8_remember_28 rfl ?_
    refine va_get (D := D) (ci := 8) (v := .int (nI ac)) (C := RX8) (T := TX8) (N := 16) hx hb hts (fun w h => (List.mem_cons_of_mem _ (List.mem_append_right _ h))) hown hK hP 0 rfl rfl 10 (by decide) (hts _ qX8_remember_0) (fun _ h9 => h9) rfl dX8_remember_29 ?_
    refine lv_iconst (v := 1) hx hb dX8_remember_32 (by decide) ?_
    refine lv_isub hx hb dX8_remember_33 ?_
    refine k_top (y := (nI (ac - 1))) (pk_sub (a := ac) (b := 1) (by omega)) ?_
    refine va_put (D := D) (ci := 8) (v := .int (nI (ac - 1))) (ty := .int) (C := RX8) (T := TX8) (N := 16) hx hb hts (fun w h => (List.mem_cons_of_mem _ (List.mem_append_right _ h))) tyX8 tyX8_ok nmX8 hown hK hP hD hS 0 rfl rfl 10 (by decide) (hts _ qX8_remember_0) (fun _ h9 => h9) rfl (by decide +kernel) rfl rfl (Nat.le_of_ble_eq_true rfl) dX8_remember_34 (fun H locs hP hD hS => ?_)
    have hP : va_P D vwCl [(m0, .inr (8, [.int rf, .ref sc0, .int (nI ss), .int (nI sp), .int ig, .int lo, .ref rd0, .ref nw0, .ref tr0, .ref di0, .int (nI (ac - 1)), .ref ke0, .ref ik0, .ref cp0, .ref cn0, .ref be0])), (nw0, .inl (g 0, 748, .inl nw)), (di0, .inl (g 0, 10472, .inl (va_cpy di di 748 0 9724)))] H := hP
    have hD : va_D A [(m0, .inr (8, [.int rf, .ref sc0, .int (nI ss), .int (nI sp), .int ig, .int lo, .ref rd0, .ref nw0, .ref tr0, .ref di0, .int (nI (ac - 1)), .ref ke0, .ref ik0, .ref cp0, .ref cn0, .ref be0])), (nw0, .inl (g 0, 748, .inl nw)), (di0, .inl (g 0, 10472, .inl (va_cpy di di 748 0 9724)))] := hD
    refine lv_aload_n hx hb dX8_remember_37 rfl (lv_at hl 0 rfl) ?_
    refine va_get (D := D) (ci := 8) (v := .ref nw0) (C := RX8) (T := TX8) (N := 16) hx hb hts (fun w h => (List.mem_cons_of_mem _ (List.mem_append_right _ h))) hown hK hP 0 rfl rfl 7 (by decide) (hts _ qX8_remember_1) (fun _ h9 => h9) rfl dX8_remember_38 ?_
    refine lv_iconst (v := 0) hx hb dX8_remember_41 (by decide) ?_
    refine lv_aload_n hx hb dX8_remember_42 rfl (lv_at hl 0 rfl) ?_
    refine va_get (D := D) (ci := 8) (v := .ref di0) (C := RX8) (T := TX8) (N := 16) hx hb hts (fun w h => (List.mem_cons_of_mem _ (List.mem_append_right _ h))) hown hK hP 0 rfl rfl 9 (by decide) (hts _ qX8_remember_2) (fun _ h9 => h9) rfl dX8_remember_43 ?_
    refine lv_sipush (v := 748) hx hb dX8_remember_46 (by decide) ?_
    refine lv_aload_n hx hb dX8_remember_49 rfl (lv_at hl 0 rfl) ?_
    refine va_get (D := D) (ci := 8) (v := .int (nI (ac - 1))) (C := RX8) (T := TX8) (N := 16) hx hb hts (fun w h => (List.mem_cons_of_mem _ (List.mem_append_right _ h))) hown hK hP 0 rfl rfl 10 (by decide) (hts _ qX8_remember_0) (fun _ h9 => h9) rfl dX8_remember_50 ?_
    refine lv_imul hx hb dX8_remember_53 ?_
    refine k_top (y := (nI (748 * (ac - 1)))) (pk_mul 748 (ac - 1)) ?_
    refine lv_sipush (v := 748) hx hb dX8_remember_54 (by decide) ?_
    refine k_av (wr := [(m0, .inr (8, [.int rf, .ref sc0, .int (nI ss), .int (nI sp), .int ig, .int lo, .ref rd0, .ref nw0, .ref tr0, .ref di0, .int (nI (ac - 1)), .ref ke0, .ref ik0, .ref cp0, .ref cn0, .ref be0]))]) (w2 := [(m0, .inr (8, [.int rf, .ref sc0, .int (nI ss), .int (nI sp), .int ig, .int lo, .ref rd0, .ref nw0, .ref tr0, .ref di0, .int (nI (ac - 1)), .ref ke0, .ref ik0, .ref cp0, .ref cn0, .ref be0])), (nw0, .inl (g 0, 748, .inl nw)), (di0, .inl (g 0, 10472, .inl (va_cpy nw (va_cpy di di 748 0 9724) 0 (748 * (ac - 1)) 748)))]) (va_runS (As := [.ref nw0, .int 0, .ref di0, .int (nI (748 * (ac - 1))), .int 748]) (rest := []) ⟨hx, hb, hml, hown, hts⟩ (c_X8_copy l D g nw0 di0 H.size nw (va_cpy di di 748 0 9724) 0 (748 * (ac - 1)) 748 748 10472 (by omega) (by omega) (by omega) (by omega)) (va_cwS 5 hts gX8_remember_X8_copy rfl rfl rfl (by decide +kernel) (k_lvl (by omega) (by decide))) (kPS hP hD hK hS hA hE [1, 2] rfl (by decide)) rfl rfl hl.1 rfl (lv_room (Nat.le_of_ble_eq_true rfl)) dX8_remember_57 ⟨Nat.le_of_ble_eq_true rfl, Nat.le_of_ble_eq_true rfl⟩) hP hD hS hA [1, 2] [0] [0, 1, 2] rfl rfl (by decide) (by decide) rfl (by decide) (fun H locs hP hD hS => ?_)
    refine lv_aload_n hx hb dX8_remember_60 rfl (lv_at hl 0 rfl) ?_
    refine lv_dup hx hb dX8_remember_61 rfl ?_
    refine va_get (D := D) (ci := 8) (v := .int (nI (ac - 1))) (C := RX8) (T := TX8) (N := 16) hx hb hts (fun w h => (List.mem_cons_of_mem _ (List.mem_append_right _ h))) hown hK hP 0 rfl rfl 10 (by decide) (hts _ qX8_remember_0) (fun _ h9 => h9) rfl dX8_remember_62 ?_
    refine lv_iconst (v := 1) hx hb dX8_remember_65 (by decide) ?_
    refine lv_iadd hx hb dX8_remember_66 ?_
    refine k_top (y := (nI ((ac - 1) + 1))) (nI_add (ac - 1) 1) ?_
    refine va_put (D := D) (ci := 8) (v := .int (nI ((ac - 1) + 1))) (ty := .int) (C := RX8) (T := TX8) (N := 16) hx hb hts (fun w h => (List.mem_cons_of_mem _ (List.mem_append_right _ h))) tyX8 tyX8_ok nmX8 hown hK hP hD hS 0 rfl rfl 10 (by decide) (hts _ qX8_remember_0) (fun _ h9 => h9) rfl (by decide +kernel) rfl rfl (Nat.le_of_ble_eq_true rfl) dX8_remember_67 (fun H locs hP hD hS => ?_)
    have hP : va_P D vwCl [(m0, .inr (8, [.int rf, .ref sc0, .int (nI ss), .int (nI sp), .int ig, .int lo, .ref rd0, .ref nw0, .ref tr0, .ref di0, .int (nI ((ac - 1) + 1)), .ref ke0, .ref ik0, .ref cp0, .ref cn0, .ref be0])), (nw0, .inl (g 0, 748, .inl nw)), (di0, .inl (g 0, 10472, .inl (va_cpy nw (va_cpy di di 748 0 9724) 0 (748 * (ac - 1)) 748)))] H := hP
    have hD : va_D A [(m0, .inr (8, [.int rf, .ref sc0, .int (nI ss), .int (nI sp), .int ig, .int lo, .ref rd0, .ref nw0, .ref tr0, .ref di0, .int (nI ((ac - 1) + 1)), .ref ke0, .ref ik0, .ref cp0, .ref cn0, .ref be0])), (nw0, .inl (g 0, 748, .inl nw)), (di0, .inl (g 0, 10472, .inl (va_cpy nw (va_cpy di di 748 0 9724) 0 (748 * (ac - 1)) 748)))] := hD
    have hE2 : (f_X8_remember ac nw di) = (((ac - 1) + 1), (va_cpy nw (va_cpy di di 748 0 9724) 0 (748 * (ac - 1)) 748)) := by
      exact (if_pos c_1).trans (rfl)
    subst hQ
    exact k_rv hx hb hr hlocks hP hD hS dX8_remember_70 (by rw [hE2])
theorem qX8_tryIt_0 : Cond.fieldLink RX8 16 "BlameChainsModel" "now" "[I" ∈ wsX8_tryIt := (List.mem_cons_of_mem _ (List.mem_append_left _ (List.mem_of_getElem? (i := 0) rfl)))
theorem qX8_tryIt_1 : Cond.fieldLink RX8 19 "BlameChainsModel" "trial" "[I" ∈ wsX8_tryIt := (List.mem_cons_of_mem _ (List.mem_append_left _ (List.mem_of_getElem? (i := 1) rfl)))
set_option maxHeartbeats 4000000 in
set_option maxRecDepth 100000 in
theorem c_X8_tryIt (l : Launch) (D : va_G) (g : Nat → Nat) (m0 sc0 rd0 nw0 tr0 di0 ke0 ik0 cp0 cn0 be0 : Nat) (sz : Nat) (rf : Int32) (ss : Nat) (sp : Nat) (ig : Int32) (lo : Int32) (ac : Nat) (nw : Nat → Int32) (tr : Nat → Int32) : kMv l D g yX8_tryIt wsX8_tryIt 2 0 0 [.ref m0] [(m0, .inr (8, [.int rf, .ref sc0, .int (nI ss), .int (nI sp), .int ig, .int lo, .ref rd0, .ref nw0, .ref tr0, .ref di0, .int (nI ac), .ref ke0, .ref ik0, .ref cp0, .ref cn0, .ref be0])), (nw0, .inl (g 0, 748, .inl nw)), (tr0, .inl (g 0, 748, .inl tr))] sz [(m0, .inr (8, [.int rf, .ref sc0, .int (nI ss), .int (nI sp), .int ig, .int lo, .ref rd0, .ref nw0, .ref tr0, .ref di0, .int (nI ac), .ref ke0, .ref ik0, .ref cp0, .ref cn0, .ref be0])), (nw0, .inl (g 0, 748, .inl nw)), (tr0, .inl (g 0, 748, .inl nw))] := by
  refine k_enter (nm := "tryIt") (own := RX8) (bytes := cX8_tryIt) (maxL := 1) (ret := none) (Qf := fun A => kQv D [(m0, .inr (8, [.int rf, .ref sc0, .int (nI ss), .int (nI sp), .int ig, .int lo, .ref rd0, .ref nw0, .ref tr0, .ref di0, .int (nI ac), .ref ke0, .ref ik0, .ref cp0, .ref cn0, .ref be0])), (nw0, .inl (g 0, 748, .inl nw)), (tr0, .inl (g 0, 748, .inl nw))] A) (by decide) rfl rfl rfl (Nat.le_of_ble_eq_true rfl) ?_
  rintro pp ee s mm below meth cc A ls args Q H locs hQ ⟨hx, hb, hr, hml, hown, hts, hlocks, hin⟩ hP hK hD hA hS hE hl
  have hl : lv_has ls 1 [(0, .ref m0)] := hl
  refine lv_aload_n hx hb dX8_tryIt_0 rfl (lv_at hl 0 rfl) ?_
  refine va_get (D := D) (ci := 8) (v := .ref nw0) (C := RX8) (T := TX8) (N := 16) hx hb hts (fun w h => (List.mem_cons_of_mem _ (List.mem_append_right _ h))) hown hK hP 0 rfl rfl 7 (by decide) (hts _ qX8_tryIt_0) (fun _ h9 => h9) rfl dX8_tryIt_1 ?_
  refine lv_iconst (v := 0) hx hb dX8_tryIt_4 (by decide) ?_
  refine lv_aload_n hx hb dX8_tryIt_5 rfl (lv_at hl 0 rfl) ?_
  refine va_get (D := D) (ci := 8) (v := .ref tr0) (C := RX8) (T := TX8) (N := 16) hx hb hts (fun w h => (List.mem_cons_of_mem _ (List.mem_append_right _ h))) hown hK hP 0 rfl rfl 8 (by decide) (hts _ qX8_tryIt_1) (fun _ h9 => h9) rfl dX8_tryIt_6 ?_
  refine lv_iconst (v := 0) hx hb dX8_tryIt_9 (by decide) ?_
  refine lv_sipush (v := 748) hx hb dX8_tryIt_10 (by decide) ?_
  refine k_av (wr := [(m0, .inr (8, [.int rf, .ref sc0, .int (nI ss), .int (nI sp), .int ig, .int lo, .ref rd0, .ref nw0, .ref tr0, .ref di0, .int (nI ac), .ref ke0, .ref ik0, .ref cp0, .ref cn0, .ref be0]))]) (w2 := [(m0, .inr (8, [.int rf, .ref sc0, .int (nI ss), .int (nI sp), .int ig, .int lo, .ref rd0, .ref nw0, .ref tr0, .ref di0, .int (nI ac), .ref ke0, .ref ik0, .ref cp0, .ref cn0, .ref be0])), (nw0, .inl (g 0, 748, .inl nw)), (tr0, .inl (g 0, 748, .inl nw))]) (va_runS (As := [.ref nw0, .int 0, .ref tr0, .int 0, .int 748]) (rest := []) ⟨hx, hb, hml, hown, hts⟩ ((fun l D g f0 t0 sz ff tf => c_X8_copyF l D g f0 t0 sz ff tf 748 (by decide)) l D g nw0 tr0 H.size nw tr) (va_cwS 5 hts gX8_tryIt_X8_copy rfl rfl rfl (by decide +kernel) (k_lvl (by omega) (by decide))) (kPS hP hD hK hS hA hE [1, 2] rfl (by decide)) rfl rfl hl.1 rfl (lv_room (Nat.le_of_ble_eq_true rfl)) dX8_tryIt_13 ⟨Nat.le_of_ble_eq_true rfl, Nat.le_of_ble_eq_true rfl⟩) hP hD hS hA [1, 2] [0] [0, 1, 2] rfl rfl (by decide) (by decide) rfl (by decide) (fun H locs hP hD hS => ?_)
  subst hQ
  exact k_rv hx hb hr hlocks hP hD hS dX8_tryIt_16 (rfl)
def f_X8_isSmall (v : Int32) : Int32 :=
  (f_X8_in (Int32.toInt64 v) (-99) 99)
theorem qX8_isSmall_0 : Cond.constantLong RX8 204 (-99) ∈ wsX8_isSmall := (List.mem_cons_of_mem _ (List.mem_of_getElem? (i := 0) rfl))
theorem qX8_isSmall_1 : Cond.constantLong RX8 206 (99) ∈ wsX8_isSmall := (List.mem_cons_of_mem _ (List.mem_of_getElem? (i := 1) rfl))
set_option maxHeartbeats 4000000 in
set_option maxRecDepth 100000 in
theorem c_X8_isSmall (l : Launch) (D : va_G) (g : Nat → Nat) (sz : Nat) (v : Int32) : kMi l D g yX8_isSmall wsX8_isSmall 2 0 0 [.int v] [] sz (f_X8_isSmall v) [] := by
  refine k_enter (nm := "isSmall") (own := RX8) (bytes := cX8_isSmall) (maxL := 1) (ret := (some .boolean)) (Qf := fun A => kQi D [] A (f_X8_isSmall v)) (by decide) rfl rfl rfl (Nat.le_of_ble_eq_true rfl) ?_
  rintro pp ee s mm below meth cc A ls args Q H locs hQ ⟨hx, hb, hr, hml, hown, hts, hlocks, hin⟩ hP hK hD hA hS hE hl
  have hl : lv_has ls 1 [(0, .int v)] := hl
  refine lv_iload_n hx hb dX8_isSmall_0 rfl (lv_at hl 0 rfl) ?_
  refine lv_i2l (v := (Int32.toInt64 v)) hx hb dX8_isSmall_1 rfl ?_
  refine lv_ldc2 hx hb hown (hts _ qX8_isSmall_0) dX8_isSmall_2 ?_
  refine lv_ldc2 hx hb hown (hts _ qX8_isSmall_1) dX8_isSmall_5 ?_
  refine k_ai (wr := []) (w2 := []) (va_runS (As := [.long (Int32.toInt64 v), .long (-99), .long 99]) (rest := []) ⟨hx, hb, hml, hown, hts⟩ (c_X8_in l D g H.size (Int32.toInt64 v) (-99) 99) (va_cwS 3 hts gX8_isSmall_X8_in rfl rfl rfl (by decide +kernel) (k_lvl (by omega) (by decide))) (kPS hP hD hK hS hA hE [] rfl (by decide)) rfl rfl hl.1 rfl (lv_room (Nat.le_of_ble_eq_true rfl)) dX8_isSmall_8 ⟨Nat.le_of_ble_eq_true rfl, Nat.le_of_ble_eq_true rfl⟩) hP hD hS hA [] [] [] rfl rfl (by decide) (by decide) rfl (by decide) (fun H locs hP hD hS => ?_)
  have hE2 : (f_X8_isSmall v) = (f_X8_in (Int32.toInt64 v) (-99) 99) := by
    exact rfl
  subst hQ
  exact k_rz hx hb hr hlocks hP hD hS dX8_isSmall_11 (in_nar _ _ _) (hE2.symm) (rfl)
def f_X8_isNumber (x : Int32) : Int32 :=
  (f_X8_in (Int32.toInt64 x) (-999) 999)
theorem qX8_isNumber_0 : Cond.constantLong RX8 225 (-999) ∈ wsX8_isNumber := (List.mem_cons_of_mem _ (List.mem_of_getElem? (i := 0) rfl))
theorem qX8_isNumber_1 : Cond.constantLong RX8 227 (999) ∈ wsX8_isNumber := (List.mem_cons_of_mem _ (List.mem_of_getElem? (i := 1) rfl))
set_option maxHeartbeats 4000000 in
set_option maxRecDepth 100000 in
theorem c_X8_isNumber (l : Launch) (D : va_G) (g : Nat → Nat) (sz : Nat) (x : Int32) : kMi l D g yX8_isNumber wsX8_isNumber 2 0 0 [.int x] [] sz (f_X8_isNumber x) [] := by
  refine k_enter (nm := "isNumber") (own := RX8) (bytes := cX8_isNumber) (maxL := 1) (ret := (some .boolean)) (Qf := fun A => kQi D [] A (f_X8_isNumber x)) (by decide) rfl rfl rfl (Nat.le_of_ble_eq_true rfl) ?_
  rintro pp ee s mm below meth cc A ls args Q H locs hQ ⟨hx, hb, hr, hml, hown, hts, hlocks, hin⟩ hP hK hD hA hS hE hl
  have hl : lv_has ls 1 [(0, .int x)] := hl
  refine lv_iload_n hx hb dX8_isNumber_0 rfl (lv_at hl 0 rfl) ?_
  refine lv_i2l (v := (Int32.toInt64 x)) hx hb dX8_isNumber_1 rfl ?_
  refine lv_ldc2 hx hb hown (hts _ qX8_isNumber_0) dX8_isNumber_2 ?_
  refine lv_ldc2 hx hb hown (hts _ qX8_isNumber_1) dX8_isNumber_5 ?_
  refine k_ai (wr := []) (w2 := []) (va_runS (As := [.long (Int32.toInt64 x), .long (-999), .long 999]) (rest := []) ⟨hx, hb, hml, hown, hts⟩ (c_X8_in l D g H.size (Int32.toInt64 x) (-999) 999) (va_cwS 3 hts gX8_isNumber_X8_in rfl rfl rfl (by decide +kernel) (k_lvl (by omega) (by decide))) (kPS hP hD hK hS hA hE [] rfl (by decide)) rfl rfl hl.1 rfl (lv_room (Nat.le_of_ble_eq_true rfl)) dX8_isNumber_8 ⟨Nat.le_of_ble_eq_true rfl, Nat.le_of_ble_eq_true rfl⟩) hP hD hS hA [] [] [] rfl rfl (by decide) (by decide) rfl (by decide) (fun H locs hP hD hS => ?_)
  have hE2 : (f_X8_isNumber x) = (f_X8_in (Int32.toInt64 x) (-999) 999) := by
    exact rfl
  subst hQ
  exact k_rz hx hb hr hlocks hP hD hS dX8_isNumber_11 (in_nar _ _ _) (hE2.symm) (rfl)
def f_X8_isRange (low : Int32) (high : Int32) : Int32 :=
  if (f_X8_in (Int32.toInt64 low) (-9999) 9999) = 0 then
    0
  else
    if (f_X8_in (Int32.toInt64 high) (-9999) 9999) = 0 then
      0
    else
      if high < low then
        0
      else
        1
theorem qX8_isRange_0 : Cond.constantLong RX8 218 (-9999) ∈ wsX8_isRange := (List.mem_cons_of_mem _ (List.mem_of_getElem? (i := 0) rfl))
theorem qX8_isRange_1 : Cond.constantLong RX8 220 (9999) ∈ wsX8_isRange := (List.mem_cons_of_mem _ (List.mem_of_getElem? (i := 1) rfl))
set_option maxHeartbeats 4000000 in
set_option maxRecDepth 100000 in
theorem c_X8_isRange (l : Launch) (D : va_G) (g : Nat → Nat) (sz : Nat) (low : Int32) (high : Int32) : kMi l D g yX8_isRange wsX8_isRange 2 0 0 [.int low, .int high] [] sz (f_X8_isRange low high) [] := by
  refine k_enter (nm := "isRange") (own := RX8) (bytes := cX8_isRange) (maxL := 2) (ret := (some .boolean)) (Qf := fun A => kQi D [] A (f_X8_isRange low high)) (by decide) rfl rfl rfl (Nat.le_of_ble_eq_true rfl) ?_
  rintro pp ee s mm below meth cc A ls args Q H locs hQ ⟨hx, hb, hr, hml, hown, hts, hlocks, hin⟩ hP hK hD hA hS hE hl
  have hl : lv_has ls 2 [(0, .int low), (1, .int high)] := hl
  refine lv_iload_n hx hb dX8_isRange_0 rfl (lv_at hl 0 rfl) ?_
  refine lv_i2l (v := (Int32.toInt64 low)) hx hb dX8_isRange_1 rfl ?_
  refine lv_ldc2 hx hb hown (hts _ qX8_isRange_0) dX8_isRange_2 ?_
  refine lv_ldc2 hx hb hown (hts _ qX8_isRange_1) dX8_isRange_5 ?_
  refine k_ai (wr := []) (w2 := []) (va_runS (As := [.long (Int32.toInt64 low), .long (-9999), .long 9999]) (rest := []) ⟨hx, hb, hml, hown, hts⟩ (c_X8_in l D g H.size (Int32.toInt64 low) (-9999) 9999) (va_cwS 3 hts gX8_isRange_X8_in rfl rfl rfl (by decide +kernel) (k_lvl (by omega) (by decide))) (kPS hP hD hK hS hA hE [] rfl (by decide)) rfl rfl hl.1 rfl (lv_room (Nat.le_of_ble_eq_true rfl)) dX8_isRange_8 ⟨Nat.le_of_ble_eq_true rfl, Nat.le_of_ble_eq_true rfl⟩) hP hD hS hA [] [] [] rfl rfl (by decide) (by decide) rfl (by decide) (fun H locs hP hD hS => ?_)
  refine lv_if_eq (tgt := 37) hx hb dX8_isRange_11 (by decide) (fun c_1 => ?_) (fun c_1 => ?_)
  · refine lv_iconst (v := 0) hx hb dX8_isRange_37 (by decide) ?_
    have hE2 : (f_X8_isRange low high) = 0 := by
      exact (if_pos c_1).trans (rfl)
    subst hQ
    exact k_rz hx hb hr hlocks hP hD hS dX8_isRange_38 (by rfl) (hE2.symm) (rfl)
  · refine lv_iload_n hx hb dX8_isRange_14 rfl (lv_at hl 1 rfl) ?_
    refine lv_i2l (v := (Int32.toInt64 high)) hx hb dX8_isRange_15 rfl ?_
    refine lv_ldc2 hx hb hown (hts _ qX8_isRange_0) dX8_isRange_16 ?_
    refine lv_ldc2 hx hb hown (hts _ qX8_isRange_1) dX8_isRange_19 ?_
    refine k_ai (wr := []) (w2 := []) (va_runS (As := [.long (Int32.toInt64 high), .long (-9999), .long 9999]) (rest := []) ⟨hx, hb, hml, hown, hts⟩ (c_X8_in l D g H.size (Int32.toInt64 high) (-9999) 9999) (va_cwS 3 hts gX8_isRange_X8_in rfl rfl rfl (by decide +kernel) (k_lvl (by omega) (by decide))) (kPS hP hD hK hS hA hE [] rfl (by decide)) rfl rfl hl.1 rfl (lv_room (Nat.le_of_ble_eq_true rfl)) dX8_isRange_22 ⟨Nat.le_of_ble_eq_true rfl, Nat.le_of_ble_eq_true rfl⟩) hP hD hS hA [] [] [] rfl rfl (by decide) (by decide) rfl (by decide) (fun H locs hP hD hS => ?_)
    refine lv_if_eq (tgt := 37) hx hb dX8_isRange_25 (by decide) (fun c_2 => ?_) (fun c_2 => ?_)
    · refine lv_iconst (v := 0) hx hb dX8_isRange_37 (by decide) ?_
      have hE2 : (f_X8_isRange low high) = 0 := by
        exact (if_neg c_1).trans ((if_pos c_2).trans (rfl))
      subst hQ
      exact k_rz hx hb hr hlocks hP hD hS dX8_isRange_38 (by rfl) (hE2.symm) (rfl)
    · refine lv_iload_n hx hb dX8_isRange_28 rfl (lv_at hl 0 rfl) ?_
      refine lv_iload_n hx hb dX8_isRange_29 rfl (lv_at hl 1 rfl) ?_
      refine lv_icmp_gt (tgt := 37) hx hb dX8_isRange_30 (by decide) (fun c_3 => ?_) (fun c_3 => ?_)
      · refine lv_iconst (v := 0) hx hb dX8_isRange_37 (by decide) ?_
        have hE2 : (f_X8_isRange low high) = 0 := by
          exact (if_neg c_1).trans ((if_neg c_2).trans ((if_pos c_3).trans (rfl)))
        subst hQ
        exact k_rz hx hb hr hlocks hP hD hS dX8_isRange_38 (by rfl) (hE2.symm) (rfl)
      · refine lv_iconst (v := 1) hx hb dX8_isRange_33 (by decide) ?_
        refine lv_goto (tgt := 38) hx hb dX8_isRange_34 (by decide) ?_
        have hE2 : (f_X8_isRange low high) = 1 := by
          exact (if_neg c_1).trans ((if_neg c_2).trans ((if_neg c_3).trans (rfl)))
        subst hQ
        exact k_rz hx hb hr hlocks hP hD hS dX8_isRange_38 (by rfl) (hE2.symm) (rfl)
theorem side_ok {caller : Int32} (h : ¬ f_X8_in (Int32.toInt64 caller) (-10001) (-10000) = 0) : (caller = -10001 ∨ caller = -10000 ∨ ¬ caller < 0) ∧ kSide caller < 2 := by
  unfold f_X8_in at h
  have e : (Int32.toInt64 caller).toInt = caller.toInt := Int32.toInt_toInt64 caller
  have e0 : (-10001 : Int64).toInt = -10001 := by decide
  have e1 : (-10000 : Int64).toInt = -10000 := by decide
  by_cases h1 : (Int32.toInt64 caller) < -10001
  · rw [if_pos h1] at h; exact absurd rfl h
  · rw [if_neg h1] at h
    by_cases h2 : -10000 < Int32.toInt64 caller
    · rw [if_pos h2] at h; exact absurd rfl h
    · have h3 : ¬ caller.toInt < -10001 := fun q => h1 (Int64.lt_iff_toInt_lt.mpr (by omega))
      have h4 : ¬ -10000 < caller.toInt := fun q => h2 (Int64.lt_iff_toInt_lt.mpr (by omega))
      have h5 : caller = -10001 ∨ caller = -10000 := by
        by_cases h6 : caller.toInt = -10001
        · exact Or.inl (Int32.toInt_inj.mp (h6.trans (by decide)))
        · exact Or.inr (Int32.toInt_inj.mp ((show caller.toInt = -10000 by omega).trans (by decide)))
      rcases h5 with rfl | rfl
      · exact ⟨Or.inl rfl, by decide⟩
      · exact ⟨Or.inr (Or.inl rfl), by decide⟩
theorem side_part {caller : Int32} {mn : Nat} (h : caller = nI caller.toNatClampNeg ∧ caller.toNatClampNeg < mn) (h9 : mn ≤ 10) : (caller = -10001 ∨ caller = -10000 ∨ ¬ caller < 0) ∧ kSide caller = 2 + caller.toNatClampNeg ∧ kSide caller < 12 := by
  obtain ⟨h1, h2⟩ := h
  have h3 : ¬ caller < 0 := by rw [h1]; exact nI_pos (by omega)
  have h4 : kSide caller = 2 + caller.toNatClampNeg := by
    have h5 := kSide_N (c := caller.toNatClampNeg) (by omega)
    rw [← h1] at h5
    exact h5
  exact ⟨Or.inr (Or.inr h3), h4, by omega⟩
def f_X8_isContract (nw : Nat → Int32) (caller : Int32) (pa : Int32) : Int32 :=
  let mn_0 := (nw 0).toNatClampNeg
  let pa_0 := pa.toNatClampNeg
  if (f_X8_isPart nw pa) = 0 then
    0
  else
    if (f_X8_in (Int32.toInt64 caller) (-10001) (-10000)) = 0 then
      if (f_X8_isPart nw caller) = 0 then
        0
      else
        if (f_X8_hasContract nw (kSide caller) pa_0) = 0 then
          0
        else
          1
    else
      if (f_X8_hasContract nw (kSide caller) pa_0) = 0 then
        if (f_X8_isPart nw caller) = 0 then
          0
        else
          0
      else
        1
theorem qX8_isContract_0 : Cond.constantLong RX8 192 (-10001) ∈ wsX8_isContract := (List.mem_cons_of_mem _ (List.mem_append_left _ (List.mem_of_getElem? (i := 0) rfl)))
theorem qX8_isContract_1 : Cond.constantLong RX8 194 (-10000) ∈ wsX8_isContract := (List.mem_cons_of_mem _ (List.mem_append_left _ (List.mem_of_getElem? (i := 1) rfl)))
theorem qX8_isContract_2 : Cond.fieldLink RX8 16 "BlameChainsModel" "now" "[I" ∈ wsX8_isContract := (List.mem_cons_of_mem _ (List.mem_append_left _ (List.mem_of_getElem? (i := 2) rfl)))
set_option maxHeartbeats 4000000 in
set_option maxRecDepth 100000 in
theorem c_X8_isContract (l : Launch) (D : va_G) (g : Nat → Nat) (m0 sc0 rd0 nw0 tr0 di0 ke0 ik0 cp0 cn0 be0 : Nat) (sz : Nat) (rf : Int32) (ss : Nat) (sp : Nat) (ig : Int32) (lo : Int32) (ac : Nat) (nw : Nat → Int32) (caller : Int32) (pa : Int32) (hO : rdOk nw) : kMi l D g yX8_isContract wsX8_isContract 3 0 0 [.ref m0, .int caller, .int pa] [(m0, .inr (8, [.int rf, .ref sc0, .int (nI ss), .int (nI sp), .int ig, .int lo, .ref rd0, .ref nw0, .ref tr0, .ref di0, .int (nI ac), .ref ke0, .ref ik0, .ref cp0, .ref cn0, .ref be0])), (nw0, .inl (g 0, 748, .inl nw))] sz (f_X8_isContract nw caller pa) [(m0, .inr (8, [.int rf, .ref sc0, .int (nI ss), .int (nI sp), .int ig, .int lo, .ref rd0, .ref nw0, .ref tr0, .ref di0, .int (nI ac), .ref ke0, .ref ik0, .ref cp0, .ref cn0, .ref be0])), (nw0, .inl (g 0, 748, .inl nw))] := by
  refine k_enter (nm := "isContract") (own := RX8) (bytes := cX8_isContract) (maxL := 3) (ret := (some .boolean)) (Qf := fun A => kQi D [(m0, .inr (8, [.int rf, .ref sc0, .int (nI ss), .int (nI sp), .int ig, .int lo, .ref rd0, .ref nw0, .ref tr0, .ref di0, .int (nI ac), .ref ke0, .ref ik0, .ref cp0, .ref cn0, .ref be0])), (nw0, .inl (g 0, 748, .inl nw))] A (f_X8_isContract nw caller pa)) (by decide) rfl rfl rfl (Nat.le_of_ble_eq_true rfl) ?_
  rintro pp ee s mm below meth cc A ls args Q H locs hQ ⟨hx, hb, hr, hml, hown, hts, hlocks, hin⟩ hP hK hD hA hS hE hl
  have hl : lv_has ls 3 [(0, .ref m0), (1, .int caller), (2, .int pa)] := hl
  obtain ⟨mn_0, emn_0⟩ : ∃ z, z = (nw 0).toNatClampNeg := ⟨_, rfl⟩
  have hmn : nw 0 = nI mn_0 := by rw [emn_0]; exact (rdOk_mn hO).1
  have hm9 : mn_0 ≤ 10 := by rw [emn_0]; exact (rdOk_mn hO).2
  have kemn_0 : kEq mn_0 (nw 0).toNatClampNeg := emn_0
  clear emn_0
  refine lv_aload_n hx hb dX8_isContract_0 rfl (lv_at hl 0 rfl) ?_
  refine lv_iload_n hx hb dX8_isContract_1 rfl (lv_at hl 2 rfl) ?_
  refine k_ai (wr := []) (w2 := [(m0, .inr (8, [.int rf, .ref sc0, .int (nI ss), .int (nI sp), .int ig, .int lo, .ref rd0, .ref nw0, .ref tr0, .ref di0, .int (nI ac), .ref ke0, .ref ik0, .ref cp0, .ref cn0, .ref be0])), (nw0, .inl (g 0, 748, .inl nw))]) (va_runV (As := [.int pa]) (rest := []) ⟨hx, hb, hml, hown, hts⟩ (c_X8_isPart l D g m0 sc0 rd0 nw0 tr0 di0 ke0 ik0 cp0 cn0 be0 H.size rf ss sp ig lo ac nw pa) (cwV 1 hts gX8_isContract_X8_isPart rfl rfl rfl (by decide +kernel) (k_lvl (by omega) (by decide))) (kPV hP hD hK hS hA hE [0, 1] rfl (by decide) 0 8 rfl rfl rfl) rfl rfl hl.1 rfl (lv_room (Nat.le_of_ble_eq_true rfl)) dX8_isContract_2 ⟨Nat.le_of_ble_eq_true rfl, Nat.le_of_ble_eq_true rfl⟩) hP hD hS hA [0, 1] [] [0, 1] rfl rfl (by decide) (by decide) rfl (by decide) (fun H locs hP hD hS => ?_)
  refine lv_if_eq (tgt := 37) hx hb dX8_isContract_5 (by decide) (fun c_1 => ?_) (fun c_1 => ?_)
  · refine lv_aload_n hx hb dX8_isContract_37 rfl (lv_at hl 0 rfl) ?_
    refine lv_iload_n hx hb dX8_isContract_38 rfl (lv_at hl 2 rfl) ?_
    refine k_ai (wr := []) (w2 := [(m0, .inr (8, [.int rf, .ref sc0, .int (nI ss), .int (nI sp), .int ig, .int lo, .ref rd0, .ref nw0, .ref tr0, .ref di0, .int (nI ac), .ref ke0, .ref ik0, .ref cp0, .ref cn0, .ref be0])), (nw0, .inl (g 0, 748, .inl nw))]) (va_runV (As := [.int pa]) (rest := []) ⟨hx, hb, hml, hown, hts⟩ (c_X8_isPart l D g m0 sc0 rd0 nw0 tr0 di0 ke0 ik0 cp0 cn0 be0 H.size rf ss sp ig lo ac nw pa) (cwV 1 hts gX8_isContract_X8_isPart rfl rfl rfl (by decide +kernel) (k_lvl (by omega) (by decide))) (kPV hP hD hK hS hA hE [0, 1] rfl (by decide) 0 8 rfl rfl rfl) rfl rfl hl.1 rfl (lv_room (Nat.le_of_ble_eq_true rfl)) dX8_isContract_39 ⟨Nat.le_of_ble_eq_true rfl, Nat.le_of_ble_eq_true rfl⟩) hP hD hS hA [0, 1] [] [0, 1] rfl rfl (by decide) (by decide) rfl (by decide) (fun H locs hP hD hS => ?_)
    refine lv_if_eq (tgt := 72) hx hb dX8_isContract_42 (by decide) (fun _ => ?_) (fun c_2 => absurd c_1 c_2)
    refine lv_iconst (v := 0) hx hb dX8_isContract_72 (by decide) ?_
    have emn_0 : (nw 0).toNatClampNeg = mn_0 := Eq.symm kemn_0
    have hE2 : (f_X8_isContract nw caller pa) = 0 := by
      subst emn_0
      exact (if_pos c_1).trans (rfl)
    subst hQ
    exact k_rz hx hb hr hlocks hP hD hS dX8_isContract_73 (by rfl) (hE2.symm) (rfl)
  · refine lv_iload_n hx hb dX8_isContract_8 rfl (lv_at hl 1 rfl) ?_
    refine lv_i2l (v := (Int32.toInt64 caller)) hx hb dX8_isContract_9 rfl ?_
    refine lv_ldc2 hx hb hown (hts _ qX8_isContract_0) dX8_isContract_10 ?_
    refine lv_ldc2 hx hb hown (hts _ qX8_isContract_1) dX8_isContract_13 ?_
    refine k_ai (wr := [(m0, .inr (8, [.int rf, .ref sc0, .int (nI ss), .int (nI sp), .int ig, .int lo, .ref rd0, .ref nw0, .ref tr0, .ref di0, .int (nI ac), .ref ke0, .ref ik0, .ref cp0, .ref cn0, .ref be0])), (nw0, .inl (g 0, 748, .inl nw))]) (w2 := [(m0, .inr (8, [.int rf, .ref sc0, .int (nI ss), .int (nI sp), .int ig, .int lo, .ref rd0, .ref nw0, .ref tr0, .ref di0, .int (nI ac), .ref ke0, .ref ik0, .ref cp0, .ref cn0, .ref be0])), (nw0, .inl (g 0, 748, .inl nw))]) (va_runS (As := [.long (Int32.toInt64 caller), .long (-10001), .long (-10000)]) (rest := []) ⟨hx, hb, hml, hown, hts⟩ (c_X8_in l D g H.size (Int32.toInt64 caller) (-10001) (-10000)) (va_cwS 3 hts gX8_isContract_X8_in rfl rfl rfl (by decide +kernel) (k_lvl (by omega) (by decide))) (kPS hP hD hK hS hA hE [] rfl (by decide)) rfl rfl hl.1 rfl (lv_room (Nat.le_of_ble_eq_true rfl)) dX8_isContract_16 ⟨Nat.le_of_ble_eq_true rfl, Nat.le_of_ble_eq_true rfl⟩) hP hD hS hA [] [0, 1] [0, 1] rfl rfl (by decide) (by decide) rfl (by decide) (fun H locs hP hD hS => ?_)
    refine lv_if_eq (tgt := 37) hx hb dX8_isContract_19 (by decide) (fun c_3 => ?_) (fun c_3 => ?_)
    · refine lv_aload_n hx hb dX8_isContract_37 rfl (lv_at hl 0 rfl) ?_
      refine lv_iload_n hx hb dX8_isContract_38 rfl (lv_at hl 2 rfl) ?_
      refine k_ai (wr := []) (w2 := [(m0, .inr (8, [.int rf, .ref sc0, .int (nI ss), .int (nI sp), .int ig, .int lo, .ref rd0, .ref nw0, .ref tr0, .ref di0, .int (nI ac), .ref ke0, .ref ik0, .ref cp0, .ref cn0, .ref be0])), (nw0, .inl (g 0, 748, .inl nw))]) (va_runV (As := [.int pa]) (rest := []) ⟨hx, hb, hml, hown, hts⟩ (c_X8_isPart l D g m0 sc0 rd0 nw0 tr0 di0 ke0 ik0 cp0 cn0 be0 H.size rf ss sp ig lo ac nw pa) (cwV 1 hts gX8_isContract_X8_isPart rfl rfl rfl (by decide +kernel) (k_lvl (by omega) (by decide))) (kPV hP hD hK hS hA hE [0, 1] rfl (by decide) 0 8 rfl rfl rfl) rfl rfl hl.1 rfl (lv_room (Nat.le_of_ble_eq_true rfl)) dX8_isContract_39 ⟨Nat.le_of_ble_eq_true rfl, Nat.le_of_ble_eq_true rfl⟩) hP hD hS hA [0, 1] [] [0, 1] rfl rfl (by decide) (by decide) rfl (by decide) (fun H locs hP hD hS => ?_)
      refine lv_if_eq (tgt := 72) hx hb dX8_isContract_42 (by decide) (fun c_4 => absurd c_4 c_1) (fun _ => ?_)
      refine lv_aload_n hx hb dX8_isContract_45 rfl (lv_at hl 0 rfl) ?_
      refine lv_iload_n hx hb dX8_isContract_46 rfl (lv_at hl 1 rfl) ?_
      refine k_ai (wr := []) (w2 := [(m0, .inr (8, [.int rf, .ref sc0, .int (nI ss), .int (nI sp), .int ig, .int lo, .ref rd0, .ref nw0, .ref tr0, .ref di0, .int (nI ac), .ref ke0, .ref ik0, .ref cp0, .ref cn0, .ref be0])), (nw0, .inl (g 0, 748, .inl nw))]) (va_runV (As := [.int caller]) (rest := []) ⟨hx, hb, hml, hown, hts⟩ (c_X8_isPart l D g m0 sc0 rd0 nw0 tr0 di0 ke0 ik0 cp0 cn0 be0 H.size rf ss sp ig lo ac nw caller) (cwV 1 hts gX8_isContract_X8_isPart rfl rfl rfl (by decide +kernel) (k_lvl (by omega) (by decide))) (kPV hP hD hK hS hA hE [0, 1] rfl (by decide) 0 8 rfl rfl rfl) rfl rfl hl.1 rfl (lv_room (Nat.le_of_ble_eq_true rfl)) dX8_isContract_47 ⟨Nat.le_of_ble_eq_true rfl, Nat.le_of_ble_eq_true rfl⟩) hP hD hS hA [0, 1] [] [0, 1] rfl rfl (by decide) (by decide) rfl (by decide) (fun H locs hP hD hS => ?_)
      refine lv_if_eq (tgt := 72) hx hb dX8_isContract_50 (by decide) (fun c_5 => ?_) (fun c_5 => ?_)
      · refine lv_iconst (v := 0) hx hb dX8_isContract_72 (by decide) ?_
        have emn_0 : (nw 0).toNatClampNeg = mn_0 := Eq.symm kemn_0
        have hE2 : (f_X8_isContract nw caller pa) = 0 := by
          subst emn_0
          exact (if_neg c_1).trans ((if_pos c_3).trans ((if_pos c_5).trans (rfl)))
        subst hQ
        exact k_rz hx hb hr hlocks hP hD hS dX8_isContract_73 (by rfl) (hE2.symm) (rfl)
      · obtain ⟨pa_0, epa_0⟩ : ∃ z, z = pa.toNatClampNeg := ⟨_, rfl⟩
        have qpa_0 : pa = nI pa_0 := by rw [epa_0]; exact (isPart_N c_1 hmn hm9).1
        have bpa_0 : pa_0 < mn_0 := by rw [epa_0]; exact (isPart_N c_1 hmn hm9).2
        have kepa_0 : kEq pa_0 pa.toNatClampNeg := epa_0
        clear epa_0
        have hl : lv_has ls 3 [(0, .ref m0), (1, .int caller), (2, .int (nI pa_0))] := by
          have h9 := hl
          rw [qpa_0] at h9
          exact h9
        have hsd9 := side_part (isPart_N c_5 hmn hm9) hm9
        have hcl9 := hsd9.1
        have hsd8 : kSide caller < 12 := hsd9.2.2
        refine lv_aload_n hx hb dX8_isContract_53 rfl (lv_at hl 0 rfl) ?_
        refine va_get (D := D) (ci := 8) (v := .ref nw0) (C := RX8) (T := TX8) (N := 16) hx hb hts (fun w h => (List.mem_cons_of_mem _ (List.mem_append_right _ h))) hown hK hP 0 rfl rfl 7 (by decide) (hts _ qX8_isContract_2) (fun _ h9 => h9) rfl dX8_isContract_54 ?_
        refine lv_iload_n hx hb dX8_isContract_57 rfl (lv_at hl 1 rfl) ?_
        refine k_ai (wr := [(m0, .inr (8, [.int rf, .ref sc0, .int (nI ss), .int (nI sp), .int ig, .int lo, .ref rd0, .ref nw0, .ref tr0, .ref di0, .int (nI ac), .ref ke0, .ref ik0, .ref cp0, .ref cn0, .ref be0])), (nw0, .inl (g 0, 748, .inl nw))]) (w2 := [(m0, .inr (8, [.int rf, .ref sc0, .int (nI ss), .int (nI sp), .int ig, .int lo, .ref rd0, .ref nw0, .ref tr0, .ref di0, .int (nI ac), .ref ke0, .ref ik0, .ref cp0, .ref cn0, .ref be0])), (nw0, .inl (g 0, 748, .inl nw))]) (va_runS (As := [.int caller]) (rest := [.ref nw0]) ⟨hx, hb, hml, hown, hts⟩ (c_X8_sideOf l D g H.size caller hcl9) (va_cwS 1 hts gX8_isContract_X8_sideOf rfl rfl rfl (by decide +kernel) (k_lvl (by omega) (by decide))) (kPS hP hD hK hS hA hE [] rfl (by decide)) rfl rfl hl.1 rfl (lv_room (Nat.le_of_ble_eq_true rfl)) dX8_isContract_58 ⟨Nat.le_of_ble_eq_true rfl, Nat.le_of_ble_eq_true rfl⟩) hP hD hS hA [] [0, 1] [0, 1] rfl rfl (by decide) (by decide) rfl (by decide) (fun H locs hP hD hS => ?_)
        refine lv_iload_n hx hb dX8_isContract_61 rfl (lv_at hl 2 rfl) ?_
        refine k_ai (wr := [(m0, .inr (8, [.int rf, .ref sc0, .int (nI ss), .int (nI sp), .int ig, .int lo, .ref rd0, .ref nw0, .ref tr0, .ref di0, .int (nI ac), .ref ke0, .ref ik0, .ref cp0, .ref cn0, .ref be0]))]) (w2 := [(m0, .inr (8, [.int rf, .ref sc0, .int (nI ss), .int (nI sp), .int ig, .int lo, .ref rd0, .ref nw0, .ref tr0, .ref di0, .int (nI ac), .ref ke0, .ref ik0, .ref cp0, .ref cn0, .ref be0])), (nw0, .inl (g 0, 748, .inl nw))]) (va_runS (As := [.ref nw0, .int (nI (kSide caller)), .int (nI pa_0)]) (rest := []) ⟨hx, hb, hml, hown, hts⟩ (c_X8_hasContract l D g nw0 H.size nw (kSide caller) pa_0 hsd8 (by omega)) (va_cwS 3 hts gX8_isContract_X8_hasContract rfl rfl rfl (by decide +kernel) (k_lvl (by omega) (by decide))) (kPS hP hD hK hS hA hE [1] rfl (by decide)) rfl rfl hl.1 rfl (lv_room (Nat.le_of_ble_eq_true rfl)) dX8_isContract_62 ⟨Nat.le_of_ble_eq_true rfl, Nat.le_of_ble_eq_true rfl⟩) hP hD hS hA [1] [0] [0, 1] rfl rfl (by decide) (by decide) rfl (by decide) (fun H locs hP hD hS => ?_)
        refine lv_if_eq (tgt := 72) hx hb dX8_isContract_65 (by decide) (fun c_6 => ?_) (fun c_6 => ?_)
        · refine lv_iconst (v := 0) hx hb dX8_isContract_72 (by decide) ?_
          have epa_0 : pa.toNatClampNeg = pa_0 := Eq.symm kepa_0
          have emn_0 : (nw 0).toNatClampNeg = mn_0 := Eq.symm kemn_0
          have hE2 : (f_X8_isContract nw caller pa) = 0 := by
            subst epa_0
            subst emn_0
            exact (if_neg c_1).trans ((if_pos c_3).trans ((if_neg c_5).trans ((if_pos c_6).trans (rfl))))
          subst hQ
          exact k_rz hx hb hr hlocks hP hD hS dX8_isContract_73 (by rfl) (hE2.symm) (rfl)
        · refine lv_iconst (v := 1) hx hb dX8_isContract_68 (by decide) ?_
          refine lv_goto (tgt := 73) hx hb dX8_isContract_69 (by decide) ?_
          have epa_0 : pa.toNatClampNeg = pa_0 := Eq.symm kepa_0
          have emn_0 : (nw 0).toNatClampNeg = mn_0 := Eq.symm kemn_0
          have hE2 : (f_X8_isContract nw caller pa) = 1 := by
            subst epa_0
            subst emn_0
            exact (if_neg c_1).trans ((if_pos c_3).trans ((if_neg c_5).trans ((if_neg c_6).trans (rfl))))
          subst hQ
          exact k_rz hx hb hr hlocks hP hD hS dX8_isContract_73 (by rfl) (hE2.symm) (rfl)
    · obtain ⟨pa_0, epa_0⟩ : ∃ z, z = pa.toNatClampNeg := ⟨_, rfl⟩
      have qpa_0 : pa = nI pa_0 := by rw [epa_0]; exact (isPart_N c_1 hmn hm9).1
      have bpa_0 : pa_0 < mn_0 := by rw [epa_0]; exact (isPart_N c_1 hmn hm9).2
      have kepa_0 : kEq pa_0 pa.toNatClampNeg := epa_0
      clear epa_0
      have hl : lv_has ls 3 [(0, .ref m0), (1, .int caller), (2, .int (nI pa_0))] := by
        have h9 := hl
        rw [qpa_0] at h9
        exact h9
      have hsd9 := side_ok c_3
      have hcl9 := hsd9.1
      have hsd8 : kSide caller < 12 := by have := hsd9.2; omega
      refine lv_aload_n hx hb dX8_isContract_22 rfl (lv_at hl 0 rfl) ?_
      refine va_get (D := D) (ci := 8) (v := .ref nw0) (C := RX8) (T := TX8) (N := 16) hx hb hts (fun w h => (List.mem_cons_of_mem _ (List.mem_append_right _ h))) hown hK hP 0 rfl rfl 7 (by decide) (hts _ qX8_isContract_2) (fun _ h9 => h9) rfl dX8_isContract_23 ?_
      refine lv_iload_n hx hb dX8_isContract_26 rfl (lv_at hl 1 rfl) ?_
      refine k_ai (wr := [(m0, .inr (8, [.int rf, .ref sc0, .int (nI ss), .int (nI sp), .int ig, .int lo, .ref rd0, .ref nw0, .ref tr0, .ref di0, .int (nI ac), .ref ke0, .ref ik0, .ref cp0, .ref cn0, .ref be0])), (nw0, .inl (g 0, 748, .inl nw))]) (w2 := [(m0, .inr (8, [.int rf, .ref sc0, .int (nI ss), .int (nI sp), .int ig, .int lo, .ref rd0, .ref nw0, .ref tr0, .ref di0, .int (nI ac), .ref ke0, .ref ik0, .ref cp0, .ref cn0, .ref be0])), (nw0, .inl (g 0, 748, .inl nw))]) (va_runS (As := [.int caller]) (rest := [.ref nw0]) ⟨hx, hb, hml, hown, hts⟩ (c_X8_sideOf l D g H.size caller hcl9) (va_cwS 1 hts gX8_isContract_X8_sideOf rfl rfl rfl (by decide +kernel) (k_lvl (by omega) (by decide))) (kPS hP hD hK hS hA hE [] rfl (by decide)) rfl rfl hl.1 rfl (lv_room (Nat.le_of_ble_eq_true rfl)) dX8_isContract_27 ⟨Nat.le_of_ble_eq_true rfl, Nat.le_of_ble_eq_true rfl⟩) hP hD hS hA [] [0, 1] [0, 1] rfl rfl (by decide) (by decide) rfl (by decide) (fun H locs hP hD hS => ?_)
      refine lv_iload_n hx hb dX8_isContract_30 rfl (lv_at hl 2 rfl) ?_
      refine k_ai (wr := [(m0, .inr (8, [.int rf, .ref sc0, .int (nI ss), .int (nI sp), .int ig, .int lo, .ref rd0, .ref nw0, .ref tr0, .ref di0, .int (nI ac), .ref ke0, .ref ik0, .ref cp0, .ref cn0, .ref be0]))]) (w2 := [(m0, .inr (8, [.int rf, .ref sc0, .int (nI ss), .int (nI sp), .int ig, .int lo, .ref rd0, .ref nw0, .ref tr0, .ref di0, .int (nI ac), .ref ke0, .ref ik0, .ref cp0, .ref cn0, .ref be0])), (nw0, .inl (g 0, 748, .inl nw))]) (va_runS (As := [.ref nw0, .int (nI (kSide caller)), .int (nI pa_0)]) (rest := []) ⟨hx, hb, hml, hown, hts⟩ (c_X8_hasContract l D g nw0 H.size nw (kSide caller) pa_0 hsd8 (by omega)) (va_cwS 3 hts gX8_isContract_X8_hasContract rfl rfl rfl (by decide +kernel) (k_lvl (by omega) (by decide))) (kPS hP hD hK hS hA hE [1] rfl (by decide)) rfl rfl hl.1 rfl (lv_room (Nat.le_of_ble_eq_true rfl)) dX8_isContract_31 ⟨Nat.le_of_ble_eq_true rfl, Nat.le_of_ble_eq_true rfl⟩) hP hD hS hA [1] [0] [0, 1] rfl rfl (by decide) (by decide) rfl (by decide) (fun H locs hP hD hS => ?_)
      refine lv_if_ne (tgt := 68) hx hb dX8_isContract_34 (by decide) (fun c_7 => ?_) (fun c_7 => ?_)
      · refine lv_iconst (v := 1) hx hb dX8_isContract_68 (by decide) ?_
        refine lv_goto (tgt := 73) hx hb dX8_isContract_69 (by decide) ?_
        have epa_0 : pa.toNatClampNeg = pa_0 := Eq.symm kepa_0
        have emn_0 : (nw 0).toNatClampNeg = mn_0 := Eq.symm kemn_0
        have hE2 : (f_X8_isContract nw caller pa) = 1 := by
          subst epa_0
          subst emn_0
          exact (if_neg c_1).trans ((if_neg c_3).trans ((if_neg c_7).trans (rfl)))
        subst hQ
        exact k_rz hx hb hr hlocks hP hD hS dX8_isContract_73 (by rfl) (hE2.symm) (rfl)
      · have hl : lv_has ls 3 [(0, .ref m0), (1, .int caller), (2, .int pa)] := by
          have h9 := hl
          rw [← qpa_0] at h9
          exact h9
        refine lv_aload_n hx hb dX8_isContract_37 rfl (lv_at hl 0 rfl) ?_
        refine lv_iload_n hx hb dX8_isContract_38 rfl (lv_at hl 2 rfl) ?_
        refine k_ai (wr := []) (w2 := [(m0, .inr (8, [.int rf, .ref sc0, .int (nI ss), .int (nI sp), .int ig, .int lo, .ref rd0, .ref nw0, .ref tr0, .ref di0, .int (nI ac), .ref ke0, .ref ik0, .ref cp0, .ref cn0, .ref be0])), (nw0, .inl (g 0, 748, .inl nw))]) (va_runV (As := [.int pa]) (rest := []) ⟨hx, hb, hml, hown, hts⟩ (c_X8_isPart l D g m0 sc0 rd0 nw0 tr0 di0 ke0 ik0 cp0 cn0 be0 H.size rf ss sp ig lo ac nw pa) (cwV 1 hts gX8_isContract_X8_isPart rfl rfl rfl (by decide +kernel) (k_lvl (by omega) (by decide))) (kPV hP hD hK hS hA hE [0, 1] rfl (by decide) 0 8 rfl rfl rfl) rfl rfl hl.1 rfl (lv_room (Nat.le_of_ble_eq_true rfl)) dX8_isContract_39 ⟨Nat.le_of_ble_eq_true rfl, Nat.le_of_ble_eq_true rfl⟩) hP hD hS hA [0, 1] [] [0, 1] rfl rfl (by decide) (by decide) rfl (by decide) (fun H locs hP hD hS => ?_)
        refine lv_if_eq (tgt := 72) hx hb dX8_isContract_42 (by decide) (fun c_8 => absurd c_8 c_1) (fun _ => ?_)
        refine lv_aload_n hx hb dX8_isContract_45 rfl (lv_at hl 0 rfl) ?_
        refine lv_iload_n hx hb dX8_isContract_46 rfl (lv_at hl 1 rfl) ?_
        refine k_ai (wr := []) (w2 := [(m0, .inr (8, [.int rf, .ref sc0, .int (nI ss), .int (nI sp), .int ig, .int lo, .ref rd0, .ref nw0, .ref tr0, .ref di0, .int (nI ac), .ref ke0, .ref ik0, .ref cp0, .ref cn0, .ref be0])), (nw0, .inl (g 0, 748, .inl nw))]) (va_runV (As := [.int caller]) (rest := []) ⟨hx, hb, hml, hown, hts⟩ (c_X8_isPart l D g m0 sc0 rd0 nw0 tr0 di0 ke0 ik0 cp0 cn0 be0 H.size rf ss sp ig lo ac nw caller) (cwV 1 hts gX8_isContract_X8_isPart rfl rfl rfl (by decide +kernel) (k_lvl (by omega) (by decide))) (kPV hP hD hK hS hA hE [0, 1] rfl (by decide) 0 8 rfl rfl rfl) rfl rfl hl.1 rfl (lv_room (Nat.le_of_ble_eq_true rfl)) dX8_isContract_47 ⟨Nat.le_of_ble_eq_true rfl, Nat.le_of_ble_eq_true rfl⟩) hP hD hS hA [0, 1] [] [0, 1] rfl rfl (by decide) (by decide) rfl (by decide) (fun H locs hP hD hS => ?_)
        refine lv_if_eq (tgt := 72) hx hb dX8_isContract_50 (by decide) (fun c_9 => ?_) (fun c_9 => ?_)
        · refine lv_iconst (v := 0) hx hb dX8_isContract_72 (by decide) ?_
          have epa_0 : pa.toNatClampNeg = pa_0 := Eq.symm kepa_0
          have emn_0 : (nw 0).toNatClampNeg = mn_0 := Eq.symm kemn_0
          have hE2 : (f_X8_isContract nw caller pa) = 0 := by
            subst epa_0
            subst emn_0
            exact (if_neg c_1).trans ((if_neg c_3).trans ((if_pos c_7).trans ((if_pos c_9).trans (rfl))))
          subst hQ
          exact k_rz hx hb hr hlocks hP hD hS dX8_isContract_73 (by rfl) (hE2.symm) (rfl)
        · have hl : lv_has ls 3 [(0, .ref m0), (1, .int caller), (2, .int (nI pa_0))] := by
            have h9 := hl
            rw [qpa_0] at h9
            exact h9
          have hsd9 := side_part (isPart_N c_9 hmn hm9) hm9
          have hcl9 := hsd9.1
          have hsd8 : kSide caller < 12 := hsd9.2.2
          refine lv_aload_n hx hb dX8_isContract_53 rfl (lv_at hl 0 rfl) ?_
          refine va_get (D := D) (ci := 8) (v := .ref nw0) (C := RX8) (T := TX8) (N := 16) hx hb hts (fun w h => (List.mem_cons_of_mem _ (List.mem_append_right _ h))) hown hK hP 0 rfl rfl 7 (by decide) (hts _ qX8_isContract_2) (fun _ h9 => h9) rfl dX8_isContract_54 ?_
          refine lv_iload_n hx hb dX8_isContract_57 rfl (lv_at hl 1 rfl) ?_
          refine k_ai (wr := [(m0, .inr (8, [.int rf, .ref sc0, .int (nI ss), .int (nI sp), .int ig, .int lo, .ref rd0, .ref nw0, .ref tr0, .ref di0, .int (nI ac), .ref ke0, .ref ik0, .ref cp0, .ref cn0, .ref be0])), (nw0, .inl (g 0, 748, .inl nw))]) (w2 := [(m0, .inr (8, [.int rf, .ref sc0, .int (nI ss), .int (nI sp), .int ig, .int lo, .ref rd0, .ref nw0, .ref tr0, .ref di0, .int (nI ac), .ref ke0, .ref ik0, .ref cp0, .ref cn0, .ref be0])), (nw0, .inl (g 0, 748, .inl nw))]) (va_runS (As := [.int caller]) (rest := [.ref nw0]) ⟨hx, hb, hml, hown, hts⟩ (c_X8_sideOf l D g H.size caller hcl9) (va_cwS 1 hts gX8_isContract_X8_sideOf rfl rfl rfl (by decide +kernel) (k_lvl (by omega) (by decide))) (kPS hP hD hK hS hA hE [] rfl (by decide)) rfl rfl hl.1 rfl (lv_room (Nat.le_of_ble_eq_true rfl)) dX8_isContract_58 ⟨Nat.le_of_ble_eq_true rfl, Nat.le_of_ble_eq_true rfl⟩) hP hD hS hA [] [0, 1] [0, 1] rfl rfl (by decide) (by decide) rfl (by decide) (fun H locs hP hD hS => ?_)
          refine lv_iload_n hx hb dX8_isContract_61 rfl (lv_at hl 2 rfl) ?_
          refine k_ai (wr := [(m0, .inr (8, [.int rf, .ref sc0, .int (nI ss), .int (nI sp), .int ig, .int lo, .ref rd0, .ref nw0, .ref tr0, .ref di0, .int (nI ac), .ref ke0, .ref ik0, .ref cp0, .ref cn0, .ref be0]))]) (w2 := [(m0, .inr (8, [.int rf, .ref sc0, .int (nI ss), .int (nI sp), .int ig, .int lo, .ref rd0, .ref nw0, .ref tr0, .ref di0, .int (nI ac), .ref ke0, .ref ik0, .ref cp0, .ref cn0, .ref be0])), (nw0, .inl (g 0, 748, .inl nw))]) (va_runS (As := [.ref nw0, .int (nI (kSide caller)), .int (nI pa_0)]) (rest := []) ⟨hx, hb, hml, hown, hts⟩ (c_X8_hasContract l D g nw0 H.size nw (kSide caller) pa_0 hsd8 (by omega)) (va_cwS 3 hts gX8_isContract_X8_hasContract rfl rfl rfl (by decide +kernel) (k_lvl (by omega) (by decide))) (kPS hP hD hK hS hA hE [1] rfl (by decide)) rfl rfl hl.1 rfl (lv_room (Nat.le_of_ble_eq_true rfl)) dX8_isContract_62 ⟨Nat.le_of_ble_eq_true rfl, Nat.le_of_ble_eq_true rfl⟩) hP hD hS hA [1] [0] [0, 1] rfl rfl (by decide) (by decide) rfl (by decide) (fun H locs hP hD hS => ?_)
          refine lv_if_eq (tgt := 72) hx hb dX8_isContract_65 (by decide) (fun _ => ?_) (fun c_10 => absurd c_7 c_10)
          refine lv_iconst (v := 0) hx hb dX8_isContract_72 (by decide) ?_
          have epa_0 : pa.toNatClampNeg = pa_0 := Eq.symm kepa_0
          have emn_0 : (nw 0).toNatClampNeg = mn_0 := Eq.symm kemn_0
          have hE2 : (f_X8_isContract nw caller pa) = 0 := by
            subst epa_0
            subst emn_0
            exact (if_neg c_1).trans ((if_neg c_3).trans ((if_pos c_7).trans ((if_neg c_9).trans (rfl))))
          subst hQ
          exact k_rz hx hb hr hlocks hP hD hS dX8_isContract_73 (by rfl) (hE2.symm) (rfl)
theorem isContract_N {rw : Nat → Int32} {caller pa : Int32} (hO : rdOk rw) (h : ¬ f_X8_isContract rw caller pa = 0) : (pa = nI pa.toNatClampNeg ∧ pa.toNatClampNeg < (rw 0).toNatClampNeg) ∧ (caller = -10001 ∨ caller = -10000 ∨ ¬ caller < 0) ∧ kSide caller < 12 ∧ f_X8_hasContract rw (kSide caller) pa.toNatClampNeg = 1 := by
  obtain ⟨h0, h9⟩ := rdOk_mn hO
  have hb : ∀ sd p, ¬ f_X8_hasContract rw sd p = 0 → f_X8_hasContract rw sd p = 1 := by
    intro sd p h
    unfold f_X8_hasContract at h ⊢
    by_cases h1 : rw (81 + 5 * (10 * sd + p) + 0) = 1
    · rw [if_pos h1]
    · rw [if_neg h1] at h; exact absurd rfl h
  unfold f_X8_isContract at h
  dsimp only at h
  by_cases c1 : f_X8_isPart rw pa = 0
  · rw [if_pos c1] at h; exact absurd rfl h
  · rw [if_neg c1] at h
    refine ⟨isPart_N c1 h0 h9, ?_⟩
    by_cases c2 : f_X8_in (Int32.toInt64 caller) (-10001) (-10000) = 0
    · rw [if_pos c2] at h
      by_cases c3 : f_X8_isPart rw caller = 0
      · rw [if_pos c3] at h; exact absurd rfl h
      · rw [if_neg c3] at h
        obtain ⟨s1, s2, s3⟩ := side_part (isPart_N c3 h0 h9) h9
        by_cases c4 : f_X8_hasContract rw (kSide caller) pa.toNatClampNeg = 0
        · rw [if_pos c4] at h; exact absurd rfl h
        · exact ⟨s1, s3, hb _ _ c4⟩
    · rw [if_neg c2] at h
      obtain ⟨s1, s2⟩ := side_ok c2
      by_cases c4 : f_X8_hasContract rw (kSide caller) pa.toNatClampNeg = 0
      · rw [if_pos c4] at h
        by_cases c3 : f_X8_isPart rw caller = 0
        · rw [if_pos c3] at h; exact absurd rfl h
        · rw [if_neg c3] at h; exact absurd rfl h
      · exact ⟨s1, by omega, hb _ _ c4⟩
/-- what contract answers before it does anything: 0, or which of its exceptions is thrown -/
def kc_X8_contract (nw : Nat → Int32) (caller : Int32) (pa : Int32) (what : Int32) : Int32 :=
  if (f_X8_isContract nw caller pa) = 0 then
    1
  else
    if (f_X8_in (Int32.toInt64 what) 0 3) = 0 then
      2
    else
      0
def f_X8_contract (nw : Nat → Int32) (caller : Int32) (pa : Int32) (what : Int32) : Int32 :=
  let pa_0 := pa.toNatClampNeg
  let what_0 := what.toNatClampNeg
  (nw (81 + 5 * (10 * (kSide caller) + pa_0) + (1 + what_0)))
theorem qX8_contract_0 : Cond.constantLong RX8 200 (3) ∈ wsX8_contract := (List.mem_cons_of_mem _ (List.mem_append_left _ (List.mem_append_left _ (List.mem_of_getElem? (i := 0) rfl))))
theorem qX8_contract_1 : Cond.fieldLink RX8 16 "BlameChainsModel" "now" "[I" ∈ wsX8_contract := (List.mem_cons_of_mem _ (List.mem_append_left _ (List.mem_append_left _ (List.mem_of_getElem? (i := 1) rfl))))
set_option maxHeartbeats 4000000 in
set_option maxRecDepth 100000 in
theorem c_X8_contract (l : Launch) (D : va_G) (g : Nat → Nat) (m0 sc0 rd0 nw0 tr0 di0 ke0 ik0 cp0 cn0 be0 : Nat) (sz : Nat) (rf : Int32) (ss : Nat) (sp : Nat) (ig : Int32) (lo : Int32) (ac : Nat) (nw : Nat → Int32) (caller : Int32) (pa : Int32) (what : Int32) (hO : rdOk nw) (hk : (kc_X8_contract nw caller pa what) = 0) : kMi l D g yX8_contract wsX8_contract 4 0 0 [.ref m0, .int caller, .int pa, .int what] [(m0, .inr (8, [.int rf, .ref sc0, .int (nI ss), .int (nI sp), .int ig, .int lo, .ref rd0, .ref nw0, .ref tr0, .ref di0, .int (nI ac), .ref ke0, .ref ik0, .ref cp0, .ref cn0, .ref be0])), (nw0, .inl (g 0, 748, .inl nw))] sz (f_X8_contract nw caller pa what) [(m0, .inr (8, [.int 0, .ref sc0, .int (nI ss), .int (nI sp), .int ig, .int lo, .ref rd0, .ref nw0, .ref tr0, .ref di0, .int (nI ac), .ref ke0, .ref ik0, .ref cp0, .ref cn0, .ref be0])), (nw0, .inl (g 0, 748, .inl nw))] := by
  refine k_enter (nm := "contract") (own := RX8) (bytes := cX8_contract) (maxL := 4) (ret := (some .int)) (Qf := fun A => kQi D [(m0, .inr (8, [.int 0, .ref sc0, .int (nI ss), .int (nI sp), .int ig, .int lo, .ref rd0, .ref nw0, .ref tr0, .ref di0, .int (nI ac), .ref ke0, .ref ik0, .ref cp0, .ref cn0, .ref be0])), (nw0, .inl (g 0, 748, .inl nw))] A (f_X8_contract nw caller pa what)) (by decide) rfl rfl rfl (Nat.le_of_ble_eq_true rfl) ?_
  rintro pp ee s mm below meth cc A ls args Q H locs hQ ⟨hx, hb, hr, hml, hown, hts, hlocks, hin⟩ hP hK hD hA hS hE hl
  have hl : lv_has ls 4 [(0, .ref m0), (1, .int caller), (2, .int pa), (3, .int what)] := hl
  refine lv_aload_n hx hb dX8_contract_0 rfl (lv_at hl 0 rfl) ?_
  refine lv_aload_n hx hb dX8_contract_1 rfl (lv_at hl 0 rfl) ?_
  refine lv_iload_n hx hb dX8_contract_2 rfl (lv_at hl 1 rfl) ?_
  refine lv_iload_n hx hb dX8_contract_3 rfl (lv_at hl 2 rfl) ?_
  refine k_ai (wr := []) (w2 := [(m0, .inr (8, [.int rf, .ref sc0, .int (nI ss), .int (nI sp), .int ig, .int lo, .ref rd0, .ref nw0, .ref tr0, .ref di0, .int (nI ac), .ref ke0, .ref ik0, .ref cp0, .ref cn0, .ref be0])), (nw0, .inl (g 0, 748, .inl nw))]) (va_runV (As := [.int caller, .int pa]) (rest := [.ref m0]) ⟨hx, hb, hml, hown, hts⟩ (c_X8_isContract l D g m0 sc0 rd0 nw0 tr0 di0 ke0 ik0 cp0 cn0 be0 H.size rf ss sp ig lo ac nw caller pa hO) (cwV 2 hts gX8_contract_X8_isContract rfl rfl rfl (by decide +kernel) (k_lvl (by omega) (by decide))) (kPV hP hD hK hS hA hE [0, 1] rfl (by decide) 0 8 rfl rfl rfl) rfl rfl hl.1 rfl (lv_room (Nat.le_of_ble_eq_true rfl)) dX8_contract_4 ⟨Nat.le_of_ble_eq_true rfl, Nat.le_of_ble_eq_true rfl⟩) hP hD hS hA [0, 1] [] [0, 1] rfl rfl (by decide) (by decide) rfl (by decide) (fun H locs hP hD hS => ?_)
  refine lv_if_ne (tgt := 14) hx hb dX8_contract_7 (by decide) (fun c_1 => ?_) (fun c_1 => ?_)
  · refine lv_iload_n hx hb dX8_contract_14 rfl (lv_at hl 3 rfl) ?_
    refine lv_i2l (v := (Int32.toInt64 what)) hx hb dX8_contract_15 rfl ?_
    refine lv_lconst (v := 0) hx hb dX8_contract_16 (by decide) ?_
    refine lv_ldc2 hx hb hown (hts _ qX8_contract_0) dX8_contract_17 ?_
    refine k_ai (wr := [(m0, .inr (8, [.int rf, .ref sc0, .int (nI ss), .int (nI sp), .int ig, .int lo, .ref rd0, .ref nw0, .ref tr0, .ref di0, .int (nI ac), .ref ke0, .ref ik0, .ref cp0, .ref cn0, .ref be0])), (nw0, .inl (g 0, 748, .inl nw))]) (w2 := [(m0, .inr (8, [.int rf, .ref sc0, .int (nI ss), .int (nI sp), .int ig, .int lo, .ref rd0, .ref nw0, .ref tr0, .ref di0, .int (nI ac), .ref ke0, .ref ik0, .ref cp0, .ref cn0, .ref be0])), (nw0, .inl (g 0, 748, .inl nw))]) (va_runS (As := [.long (Int32.toInt64 what), .long 0, .long 3]) (rest := [.ref m0]) ⟨hx, hb, hml, hown, hts⟩ (c_X8_in l D g H.size (Int32.toInt64 what) 0 3) (va_cwS 3 hts gX8_contract_X8_in rfl rfl rfl (by decide +kernel) (k_lvl (by omega) (by decide))) (kPS hP hD hK hS hA hE [] rfl (by decide)) rfl rfl hl.1 rfl (lv_room (Nat.le_of_ble_eq_true rfl)) dX8_contract_20 ⟨Nat.le_of_ble_eq_true rfl, Nat.le_of_ble_eq_true rfl⟩) hP hD hS hA [] [0, 1] [0, 1] rfl rfl (by decide) (by decide) rfl (by decide) (fun H locs hP hD hS => ?_)
    refine lv_if_eq (tgt := 30) hx hb dX8_contract_23 (by decide) (fun c_2 => ?_) (fun c_2 => ?_)
    · refine lv_iconst (v := 2) hx hb dX8_contract_30 (by decide) ?_
      have h9 : (kc_X8_contract nw caller pa what) = 2 := (if_neg c_1).trans ((if_pos c_2).trans (rfl))
      rw [hk] at h9
      exact absurd h9 (by decide)
    · refine lv_iconst (v := 0) hx hb dX8_contract_26 (by decide) ?_
      refine lv_goto (tgt := 31) hx hb dX8_contract_27 (by decide) ?_
      refine k_ai (wr := [(nw0, .inl (g 0, 748, .inl nw))]) (w2 := [(m0, .inr (8, [.int 0, .ref sc0, .int (nI ss), .int (nI sp), .int ig, .int lo, .ref rd0, .ref nw0, .ref tr0, .ref di0, .int (nI ac), .ref ke0, .ref ik0, .ref cp0, .ref cn0, .ref be0])), (nw0, .inl (g 0, 748, .inl nw))]) (va_runV (As := [.int 0]) (rest := []) ⟨hx, hb, hml, hown, hts⟩ (c_X8_refused0 l D g m0 sc0 rd0 nw0 tr0 di0 ke0 ik0 cp0 cn0 be0 H.size rf ss sp ig lo ac) (cwV 1 hts gX8_contract_X8_refused rfl rfl rfl (by decide +kernel) (k_lvl (by omega) (by decide))) (kPV hP hD hK hS hA hE [0] rfl (by decide) 0 8 rfl rfl rfl) rfl rfl hl.1 rfl (lv_room (Nat.le_of_ble_eq_true rfl)) dX8_contract_31 ⟨Nat.le_of_ble_eq_true rfl, Nat.le_of_ble_eq_true rfl⟩) hP hD hS hA [0] [1] [1, 0] rfl rfl (by decide) (by decide) rfl (by decide) (fun H locs hP hD hS => ?_)
      refine lv_if_eq (tgt := 39) hx hb dX8_contract_34 (by decide) (fun _ => ?_) (fun c_3 => absurd c_3 (by decide))
      obtain ⟨hcp, hcl9, hsd8, hhc9⟩ := isContract_N hO c_1
      obtain ⟨pa_0, epa_0⟩ : ∃ z, z = pa.toNatClampNeg := ⟨_, rfl⟩
      have qpa_0 : pa = nI pa_0 := by rw [epa_0]; exact hcp.1
      have bpa_0 : pa_0 < 10 := by rw [epa_0]; exact (by have h7 := hcp.2; have h8 := (rdOk_mn hO).2; omega)
      have kepa_0 : kEq pa_0 pa.toNatClampNeg := epa_0
      clear epa_0
      have hl : lv_has ls 4 [(0, .ref m0), (1, .int caller), (2, .int (nI pa_0)), (3, .int what)] := by
        have h9 := hl
        rw [qpa_0] at h9
        exact h9
      obtain ⟨what_0, ewhat_0⟩ : ∃ z, z = what.toNatClampNeg := ⟨_, rfl⟩
      have qwhat_0 : what = nI what_0 := by rw [ewhat_0]; exact (in_N (K := 3) (by decide) c_2).1
      have bwhat_0 : what_0 ≤ 3 := by rw [ewhat_0]; exact (in_N (K := 3) (by decide) c_2).2
      have kewhat_0 : kEq what_0 what.toNatClampNeg := ewhat_0
      clear ewhat_0
      have hl : lv_has ls 4 [(0, .ref m0), (1, .int caller), (2, .int (nI pa_0)), (3, .int (nI what_0))] := by
        have h9 := hl
        rw [qwhat_0] at h9
        exact h9
      refine lv_aload_n hx hb dX8_contract_39 rfl (lv_at hl 0 rfl) ?_
      refine va_get (D := D) (ci := 8) (v := .ref nw0) (C := RX8) (T := TX8) (N := 16) hx hb hts (fun w h => (List.mem_cons_of_mem _ (List.mem_append_right _ h))) hown hK hP 0 rfl rfl 7 (by decide) (hts _ qX8_contract_1) (fun _ h9 => h9) rfl dX8_contract_40 ?_
      refine lv_iload_n hx hb dX8_contract_43 rfl (lv_at hl 1 rfl) ?_
      refine k_ai (wr := [(m0, .inr (8, [.int 0, .ref sc0, .int (nI ss), .int (nI sp), .int ig, .int lo, .ref rd0, .ref nw0, .ref tr0, .ref di0, .int (nI ac), .ref ke0, .ref ik0, .ref cp0, .ref cn0, .ref be0])), (nw0, .inl (g 0, 748, .inl nw))]) (w2 := [(m0, .inr (8, [.int 0, .ref sc0, .int (nI ss), .int (nI sp), .int ig, .int lo, .ref rd0, .ref nw0, .ref tr0, .ref di0, .int (nI ac), .ref ke0, .ref ik0, .ref cp0, .ref cn0, .ref be0])), (nw0, .inl (g 0, 748, .inl nw))]) (va_runS (As := [.int caller]) (rest := [.ref nw0]) ⟨hx, hb, hml, hown, hts⟩ (c_X8_sideOf l D g H.size caller hcl9) (va_cwS 1 hts gX8_contract_X8_sideOf rfl rfl rfl (by decide +kernel) (k_lvl (by omega) (by decide))) (kPS hP hD hK hS hA hE [] rfl (by decide)) rfl rfl hl.1 rfl (lv_room (Nat.le_of_ble_eq_true rfl)) dX8_contract_44 ⟨Nat.le_of_ble_eq_true rfl, Nat.le_of_ble_eq_true rfl⟩) hP hD hS hA [] [0, 1] [0, 1] rfl rfl (by decide) (by decide) rfl (by decide) (fun H locs hP hD hS => ?_)
      refine lv_iload_n hx hb dX8_contract_47 rfl (lv_at hl 2 rfl) ?_
      refine lv_iconst (v := 1) hx hb dX8_contract_48 (by decide) ?_
      refine lv_iload_n hx hb dX8_contract_49 rfl (lv_at hl 3 rfl) ?_
      refine lv_iadd hx hb dX8_contract_50 ?_
      refine k_top (y := (nI (1 + what_0))) (nI_add 1 what_0) ?_
      refine k_ai (wr := [(m0, .inr (8, [.int 0, .ref sc0, .int (nI ss), .int (nI sp), .int ig, .int lo, .ref rd0, .ref nw0, .ref tr0, .ref di0, .int (nI ac), .ref ke0, .ref ik0, .ref cp0, .ref cn0, .ref be0])), (nw0, .inl (g 0, 748, .inl nw))]) (w2 := [(m0, .inr (8, [.int 0, .ref sc0, .int (nI ss), .int (nI sp), .int ig, .int lo, .ref rd0, .ref nw0, .ref tr0, .ref di0, .int (nI ac), .ref ke0, .ref ik0, .ref cp0, .ref cn0, .ref be0])), (nw0, .inl (g 0, 748, .inl nw))]) (va_runS (As := [.int (nI (kSide caller)), .int (nI pa_0), .int (nI (1 + what_0))]) (rest := [.ref nw0]) ⟨hx, hb, hml, hown, hts⟩ (c_X8_contractAt l D g H.size (kSide caller) pa_0 (1 + what_0)) (va_cwS 3 hts gX8_contract_X8_contractAt rfl rfl rfl (by decide +kernel) (k_lvl (by omega) (by decide))) (kPS hP hD hK hS hA hE [] rfl (by decide)) rfl rfl hl.1 rfl (lv_room (Nat.le_of_ble_eq_true rfl)) dX8_contract_51 ⟨Nat.le_of_ble_eq_true rfl, Nat.le_of_ble_eq_true rfl⟩) hP hD hS hA [] [0, 1] [0, 1] rfl rfl (by decide) (by decide) rfl (by decide) (fun H locs hP hD hS => ?_)
      refine va_iald (i := (nI (81 + 5 * (10 * (kSide caller) + pa_0) + (1 + what_0)))) hx hb hK hP 1 0 rfl rfl (vp_in_nI (n := (81 + 5 * (10 * (kSide caller) + pa_0) + (1 + what_0))) (by omega) (by omega)) dX8_contract_54 ?_
      refine k_top (y := (nw (81 + 5 * (10 * (kSide caller) + pa_0) + (1 + what_0)))) (by rw [nI_clamp (by omega)]) ?_
      have ewhat_0 : what.toNatClampNeg = what_0 := Eq.symm kewhat_0
      have epa_0 : pa.toNatClampNeg = pa_0 := Eq.symm kepa_0
      have hE2 : (f_X8_contract nw caller pa what) = (nw (81 + 5 * (10 * (kSide caller) + pa_0) + (1 + what_0))) := by
        subst ewhat_0
        subst epa_0
        exact rfl
      subst hQ
      exact k_ri hx hb hr hlocks hP hD hS dX8_contract_55 (hE2.symm) (rfl)
  · refine lv_iconst (v := 1) hx hb dX8_contract_10 (by decide) ?_
    refine lv_goto (tgt := 31) hx hb dX8_contract_11 (by decide) ?_
    have h9 : (kc_X8_contract nw caller pa what) = 1 := (if_pos c_1).trans (rfl)
    rw [hk] at h9
    exact absurd h9 (by decide)
theorem qc_X8_contract_bad_X8_contract_0 : Cond.constantLong RX8 200 (3) ∈ wsX8_contract := (List.mem_cons_of_mem _ (List.mem_append_left _ (List.mem_append_left _ (List.mem_of_getElem? (i := 0) rfl))))
set_option maxHeartbeats 4000000 in
set_option maxRecDepth 100000 in
theorem c_X8_contract_bad (l : Launch) (D : va_G) (g : Nat → Nat) (m0 sc0 rd0 nw0 tr0 di0 ke0 ik0 cp0 cn0 be0 : Nat) (sz : Nat) (rf : Int32) (ss : Nat) (sp : Nat) (ig : Int32) (lo : Int32) (ac : Nat) (nw : Nat → Int32) (caller : Int32) (pa : Int32) (what : Int32) (hO : rdOk nw) (hk : ¬ (kc_X8_contract nw caller pa what) = 0) : kMi l D g yX8_contract wsX8_contract 4 0 0 [.ref m0, .int caller, .int pa, .int what] [(m0, .inr (8, [.int rf, .ref sc0, .int (nI ss), .int (nI sp), .int ig, .int lo, .ref rd0, .ref nw0, .ref tr0, .ref di0, .int (nI ac), .ref ke0, .ref ik0, .ref cp0, .ref cn0, .ref be0])), (nw0, .inl (g 0, 748, .inl nw))] sz 0 [(m0, .inr (8, [.int (kc_X8_contract nw caller pa what), .ref sc0, .int (nI ss), .int (nI sp), .int ig, .int lo, .ref rd0, .ref nw0, .ref tr0, .ref di0, .int (nI ac), .ref ke0, .ref ik0, .ref cp0, .ref cn0, .ref be0])), (nw0, .inl (g 0, 748, .inl nw))] := by
  refine k_enter (nm := "contract") (own := RX8) (bytes := cX8_contract) (maxL := 4) (ret := (some .int)) (Qf := fun A => kQi D [(m0, .inr (8, [.int (kc_X8_contract nw caller pa what), .ref sc0, .int (nI ss), .int (nI sp), .int ig, .int lo, .ref rd0, .ref nw0, .ref tr0, .ref di0, .int (nI ac), .ref ke0, .ref ik0, .ref cp0, .ref cn0, .ref be0])), (nw0, .inl (g 0, 748, .inl nw))] A 0) (by decide) rfl rfl rfl (Nat.le_of_ble_eq_true rfl) ?_
  rintro pp ee s mm below meth cc A ls args Q H locs hQ ⟨hx, hb, hr, hml, hown, hts, hlocks, hin⟩ hP hK hD hA hS hE hl
  have hl : lv_has ls 4 [(0, .ref m0), (1, .int caller), (2, .int pa), (3, .int what)] := hl
  refine lv_aload_n hx hb dX8_contract_0 rfl (lv_at hl 0 rfl) ?_
  refine lv_aload_n hx hb dX8_contract_1 rfl (lv_at hl 0 rfl) ?_
  refine lv_iload_n hx hb dX8_contract_2 rfl (lv_at hl 1 rfl) ?_
  refine lv_iload_n hx hb dX8_contract_3 rfl (lv_at hl 2 rfl) ?_
  refine k_ai (wr := []) (w2 := [(m0, .inr (8, [.int rf, .ref sc0, .int (nI ss), .int (nI sp), .int ig, .int lo, .ref rd0, .ref nw0, .ref tr0, .ref di0, .int (nI ac), .ref ke0, .ref ik0, .ref cp0, .ref cn0, .ref be0])), (nw0, .inl (g 0, 748, .inl nw))]) (va_runV (As := [.int caller, .int pa]) (rest := [.ref m0]) ⟨hx, hb, hml, hown, hts⟩ (c_X8_isContract l D g m0 sc0 rd0 nw0 tr0 di0 ke0 ik0 cp0 cn0 be0 H.size rf ss sp ig lo ac nw caller pa hO) (cwV 2 hts gX8_contract_X8_isContract rfl rfl rfl (by decide +kernel) (k_lvl (by omega) (by decide))) (kPV hP hD hK hS hA hE [0, 1] rfl (by decide) 0 8 rfl rfl rfl) rfl rfl hl.1 rfl (lv_room (Nat.le_of_ble_eq_true rfl)) dX8_contract_4 ⟨Nat.le_of_ble_eq_true rfl, Nat.le_of_ble_eq_true rfl⟩) hP hD hS hA [0, 1] [] [0, 1] rfl rfl (by decide) (by decide) rfl (by decide) (fun H locs hP hD hS => ?_)
  refine lv_if_ne (tgt := 14) hx hb dX8_contract_7 (by decide) (fun c_1 => ?_) (fun c_1 => ?_)
  · refine lv_iload_n hx hb dX8_contract_14 rfl (lv_at hl 3 rfl) ?_
    refine lv_i2l (v := (Int32.toInt64 what)) hx hb dX8_contract_15 rfl ?_
    refine lv_lconst (v := 0) hx hb dX8_contract_16 (by decide) ?_
    refine lv_ldc2 hx hb hown (hts _ qc_X8_contract_bad_X8_contract_0) dX8_contract_17 ?_
    refine k_ai (wr := [(m0, .inr (8, [.int rf, .ref sc0, .int (nI ss), .int (nI sp), .int ig, .int lo, .ref rd0, .ref nw0, .ref tr0, .ref di0, .int (nI ac), .ref ke0, .ref ik0, .ref cp0, .ref cn0, .ref be0])), (nw0, .inl (g 0, 748, .inl nw))]) (w2 := [(m0, .inr (8, [.int rf, .ref sc0, .int (nI ss), .int (nI sp), .int ig, .int lo, .ref rd0, .ref nw0, .ref tr0, .ref di0, .int (nI ac), .ref ke0, .ref ik0, .ref cp0, .ref cn0, .ref be0])), (nw0, .inl (g 0, 748, .inl nw))]) (va_runS (As := [.long (Int32.toInt64 what), .long 0, .long 3]) (rest := [.ref m0]) ⟨hx, hb, hml, hown, hts⟩ (c_X8_in l D g H.size (Int32.toInt64 what) 0 3) (va_cwS 3 hts gX8_contract_X8_in rfl rfl rfl (by decide +kernel) (k_lvl (by omega) (by decide))) (kPS hP hD hK hS hA hE [] rfl (by decide)) rfl rfl hl.1 rfl (lv_room (Nat.le_of_ble_eq_true rfl)) dX8_contract_20 ⟨Nat.le_of_ble_eq_true rfl, Nat.le_of_ble_eq_true rfl⟩) hP hD hS hA [] [0, 1] [0, 1] rfl rfl (by decide) (by decide) rfl (by decide) (fun H locs hP hD hS => ?_)
    refine lv_if_eq (tgt := 30) hx hb dX8_contract_23 (by decide) (fun c_2 => ?_) (fun c_2 => ?_)
    · refine lv_iconst (v := 2) hx hb dX8_contract_30 (by decide) ?_
      refine k_ai (wr := [(nw0, .inl (g 0, 748, .inl nw))]) (w2 := [(m0, .inr (8, [.int 2, .ref sc0, .int (nI ss), .int (nI sp), .int ig, .int lo, .ref rd0, .ref nw0, .ref tr0, .ref di0, .int (nI ac), .ref ke0, .ref ik0, .ref cp0, .ref cn0, .ref be0])), (nw0, .inl (g 0, 748, .inl nw))]) (va_runV (As := [.int 2]) (rest := []) ⟨hx, hb, hml, hown, hts⟩ (c_X8_refused2 l D g m0 sc0 rd0 nw0 tr0 di0 ke0 ik0 cp0 cn0 be0 H.size rf ss sp ig lo ac) (cwV 1 hts gX8_contract_X8_refused rfl rfl rfl (by decide +kernel) (k_lvl (by omega) (by decide))) (kPV hP hD hK hS hA hE [0] rfl (by decide) 0 8 rfl rfl rfl) rfl rfl hl.1 rfl (lv_room (Nat.le_of_ble_eq_true rfl)) dX8_contract_31 ⟨Nat.le_of_ble_eq_true rfl, Nat.le_of_ble_eq_true rfl⟩) hP hD hS hA [0] [1] [1, 0] rfl rfl (by decide) (by decide) rfl (by decide) (fun H locs hP hD hS => ?_)
      refine lv_if_eq (tgt := 39) hx hb dX8_contract_34 (by decide) (fun c_3 => absurd c_3 (by decide)) (fun _ => ?_)
      refine lv_iconst (v := 0) hx hb dX8_contract_37 (by decide) ?_
      subst hQ
      exact k_ri hx hb hr hlocks hP hD hS dX8_contract_38 (rfl) (by rw [show (kc_X8_contract nw caller pa what) = 2 from (if_neg c_1).trans ((if_pos c_2).trans (rfl))])
    · refine lv_iconst (v := 0) hx hb dX8_contract_26 (by decide) ?_
      refine lv_goto (tgt := 31) hx hb dX8_contract_27 (by decide) ?_
      have h9 : (kc_X8_contract nw caller pa what) = 0 := (if_neg c_1).trans ((if_neg c_2).trans (rfl))
      exact absurd h9 hk
  · refine lv_iconst (v := 1) hx hb dX8_contract_10 (by decide) ?_
    refine lv_goto (tgt := 31) hx hb dX8_contract_11 (by decide) ?_
    refine k_ai (wr := [(nw0, .inl (g 0, 748, .inl nw))]) (w2 := [(m0, .inr (8, [.int 1, .ref sc0, .int (nI ss), .int (nI sp), .int ig, .int lo, .ref rd0, .ref nw0, .ref tr0, .ref di0, .int (nI ac), .ref ke0, .ref ik0, .ref cp0, .ref cn0, .ref be0])), (nw0, .inl (g 0, 748, .inl nw))]) (va_runV (As := [.int 1]) (rest := []) ⟨hx, hb, hml, hown, hts⟩ (c_X8_refused1 l D g m0 sc0 rd0 nw0 tr0 di0 ke0 ik0 cp0 cn0 be0 H.size rf ss sp ig lo ac) (cwV 1 hts gX8_contract_X8_refused rfl rfl rfl (by decide +kernel) (k_lvl (by omega) (by decide))) (kPV hP hD hK hS hA hE [0] rfl (by decide) 0 8 rfl rfl rfl) rfl rfl hl.1 rfl (lv_room (Nat.le_of_ble_eq_true rfl)) dX8_contract_31 ⟨Nat.le_of_ble_eq_true rfl, Nat.le_of_ble_eq_true rfl⟩) hP hD hS hA [0] [1] [1, 0] rfl rfl (by decide) (by decide) rfl (by decide) (fun H locs hP hD hS => ?_)
    refine lv_if_eq (tgt := 39) hx hb dX8_contract_34 (by decide) (fun c_4 => absurd c_4 (by decide)) (fun _ => ?_)
    refine lv_iconst (v := 0) hx hb dX8_contract_37 (by decide) ?_
    subst hQ
    exact k_ri hx hb hr hlocks hP hD hS dX8_contract_38 (rfl) (by rw [show (kc_X8_contract nw caller pa what) = 1 from (if_pos c_1).trans (rfl)])
/-- what blame answers before it does anything: 0, or which of its exceptions is thrown -/
def kc_X8_blame (k : Int32) (what : Int32) : Int32 :=
  if (f_X8_in (Int32.toInt64 k) 0 9) = 0 then
    1
  else
    if (f_X8_in (Int32.toInt64 what) 0 5) = 0 then
      1
    else
      0
def f_X8_blame (nw : Nat → Int32) (k : Int32) (what : Int32) : Int32 :=
  let k_0 := k.toNatClampNeg
  let what_0 := what.toNatClampNeg
  if (nw 687) ≤ (nI k_0) then
    (-10000)
  else
    (nw ((688 + (6 * k_0)) + what_0))
theorem qX8_blame_0 : Cond.constantLong RX8 119 (9) ∈ wsX8_blame := (List.mem_cons_of_mem _ (List.mem_append_left _ (List.mem_of_getElem? (i := 0) rfl)))
theorem qX8_blame_1 : Cond.constantLong RX8 202 (5) ∈ wsX8_blame := (List.mem_cons_of_mem _ (List.mem_append_left _ (List.mem_of_getElem? (i := 1) rfl)))
theorem qX8_blame_2 : Cond.fieldLink RX8 16 "BlameChainsModel" "now" "[I" ∈ wsX8_blame := (List.mem_cons_of_mem _ (List.mem_append_left _ (List.mem_of_getElem? (i := 2) rfl)))
set_option maxHeartbeats 4000000 in
set_option maxRecDepth 100000 in
theorem c_X8_blame (l : Launch) (D : va_G) (g : Nat → Nat) (m0 sc0 rd0 nw0 tr0 di0 ke0 ik0 cp0 cn0 be0 : Nat) (sz : Nat) (rf : Int32) (ss : Nat) (sp : Nat) (ig : Int32) (lo : Int32) (ac : Nat) (nw : Nat → Int32) (k : Int32) (what : Int32) (hk : (kc_X8_blame k what) = 0) : kMi l D g yX8_blame wsX8_blame 2 0 0 [.ref m0, .int k, .int what] [(m0, .inr (8, [.int rf, .ref sc0, .int (nI ss), .int (nI sp), .int ig, .int lo, .ref rd0, .ref nw0, .ref tr0, .ref di0, .int (nI ac), .ref ke0, .ref ik0, .ref cp0, .ref cn0, .ref be0])), (nw0, .inl (g 0, 748, .inl nw))] sz (f_X8_blame nw k what) [(m0, .inr (8, [.int 0, .ref sc0, .int (nI ss), .int (nI sp), .int ig, .int lo, .ref rd0, .ref nw0, .ref tr0, .ref di0, .int (nI ac), .ref ke0, .ref ik0, .ref cp0, .ref cn0, .ref be0])), (nw0, .inl (g 0, 748, .inl nw))] := by
  refine k_enter (nm := "blame") (own := RX8) (bytes := cX8_blame) (maxL := 3) (ret := (some .int)) (Qf := fun A => kQi D [(m0, .inr (8, [.int 0, .ref sc0, .int (nI ss), .int (nI sp), .int ig, .int lo, .ref rd0, .ref nw0, .ref tr0, .ref di0, .int (nI ac), .ref ke0, .ref ik0, .ref cp0, .ref cn0, .ref be0])), (nw0, .inl (g 0, 748, .inl nw))] A (f_X8_blame nw k what)) (by decide) rfl rfl rfl (Nat.le_of_ble_eq_true rfl) ?_
  rintro pp ee s mm below meth cc A ls args Q H locs hQ ⟨hx, hb, hr, hml, hown, hts, hlocks, hin⟩ hP hK hD hA hS hE hl
  have hl : lv_has ls 3 [(0, .ref m0), (1, .int k), (2, .int what)] := hl
  refine lv_aload_n hx hb dX8_blame_0 rfl (lv_at hl 0 rfl) ?_
  refine lv_iload_n hx hb dX8_blame_1 rfl (lv_at hl 1 rfl) ?_
  refine lv_i2l (v := (Int32.toInt64 k)) hx hb dX8_blame_2 rfl ?_
  refine lv_lconst (v := 0) hx hb dX8_blame_3 (by decide) ?_
  refine lv_ldc2 hx hb hown (hts _ qX8_blame_0) dX8_blame_4 ?_
  refine k_ai (wr := [(m0, .inr (8, [.int rf, .ref sc0, .int (nI ss), .int (nI sp), .int ig, .int lo, .ref rd0, .ref nw0, .ref tr0, .ref di0, .int (nI ac), .ref ke0, .ref ik0, .ref cp0, .ref cn0, .ref be0])), (nw0, .inl (g 0, 748, .inl nw))]) (w2 := [(m0, .inr (8, [.int rf, .ref sc0, .int (nI ss), .int (nI sp), .int ig, .int lo, .ref rd0, .ref nw0, .ref tr0, .ref di0, .int (nI ac), .ref ke0, .ref ik0, .ref cp0, .ref cn0, .ref be0])), (nw0, .inl (g 0, 748, .inl nw))]) (va_runS (As := [.long (Int32.toInt64 k), .long 0, .long 9]) (rest := [.ref m0]) ⟨hx, hb, hml, hown, hts⟩ (c_X8_in l D g H.size (Int32.toInt64 k) 0 9) (va_cwS 3 hts gX8_blame_X8_in rfl rfl rfl (by decide +kernel) (k_lvl (by omega) (by decide))) (kPS hP hD hK hS hA hE [] rfl (by decide)) rfl rfl hl.1 rfl (lv_room (Nat.le_of_ble_eq_true rfl)) dX8_blame_7 ⟨Nat.le_of_ble_eq_true rfl, Nat.le_of_ble_eq_true rfl⟩) hP hD hS hA [] [0, 1] [0, 1] rfl rfl (by decide) (by decide) rfl (by decide) (fun H locs hP hD hS => ?_)
  refine lv_if_eq (tgt := 29) hx hb dX8_blame_10 (by decide) (fun c_1 => ?_) (fun c_1 => ?_)
  · refine lv_iconst (v := 1) hx hb dX8_blame_29 (by decide) ?_
    have h9 : (kc_X8_blame k what) = 1 := (if_pos c_1).trans (rfl)
    rw [hk] at h9
    exact absurd h9 (by decide)
  · refine lv_iload_n hx hb dX8_blame_13 rfl (lv_at hl 2 rfl) ?_
    refine lv_i2l (v := (Int32.toInt64 what)) hx hb dX8_blame_14 rfl ?_
    refine lv_lconst (v := 0) hx hb dX8_blame_15 (by decide) ?_
    refine lv_ldc2 hx hb hown (hts _ qX8_blame_1) dX8_blame_16 ?_
    refine k_ai (wr := [(m0, .inr (8, [.int rf, .ref sc0, .int (nI ss), .int (nI sp), .int ig, .int lo, .ref rd0, .ref nw0, .ref tr0, .ref di0, .int (nI ac), .ref ke0, .ref ik0, .ref cp0, .ref cn0, .ref be0])), (nw0, .inl (g 0, 748, .inl nw))]) (w2 := [(m0, .inr (8, [.int rf, .ref sc0, .int (nI ss), .int (nI sp), .int ig, .int lo, .ref rd0, .ref nw0, .ref tr0, .ref di0, .int (nI ac), .ref ke0, .ref ik0, .ref cp0, .ref cn0, .ref be0])), (nw0, .inl (g 0, 748, .inl nw))]) (va_runS (As := [.long (Int32.toInt64 what), .long 0, .long 5]) (rest := [.ref m0]) ⟨hx, hb, hml, hown, hts⟩ (c_X8_in l D g H.size (Int32.toInt64 what) 0 5) (va_cwS 3 hts gX8_blame_X8_in rfl rfl rfl (by decide +kernel) (k_lvl (by omega) (by decide))) (kPS hP hD hK hS hA hE [] rfl (by decide)) rfl rfl hl.1 rfl (lv_room (Nat.le_of_ble_eq_true rfl)) dX8_blame_19 ⟨Nat.le_of_ble_eq_true rfl, Nat.le_of_ble_eq_true rfl⟩) hP hD hS hA [] [0, 1] [0, 1] rfl rfl (by decide) (by decide) rfl (by decide) (fun H locs hP hD hS => ?_)
    refine lv_if_eq (tgt := 29) hx hb dX8_blame_22 (by decide) (fun c_2 => ?_) (fun c_2 => ?_)
    · refine lv_iconst (v := 1) hx hb dX8_blame_29 (by decide) ?_
      have h9 : (kc_X8_blame k what) = 1 := (if_neg c_1).trans ((if_pos c_2).trans (rfl))
      rw [hk] at h9
      exact absurd h9 (by decide)
    · refine lv_iconst (v := 0) hx hb dX8_blame_25 (by decide) ?_
      refine lv_goto (tgt := 30) hx hb dX8_blame_26 (by decide) ?_
      refine k_ai (wr := [(nw0, .inl (g 0, 748, .inl nw))]) (w2 := [(m0, .inr (8, [.int 0, .ref sc0, .int (nI ss), .int (nI sp), .int ig, .int lo, .ref rd0, .ref nw0, .ref tr0, .ref di0, .int (nI ac), .ref ke0, .ref ik0, .ref cp0, .ref cn0, .ref be0])), (nw0, .inl (g 0, 748, .inl nw))]) (va_runV (As := [.int 0]) (rest := []) ⟨hx, hb, hml, hown, hts⟩ (c_X8_refused0 l D g m0 sc0 rd0 nw0 tr0 di0 ke0 ik0 cp0 cn0 be0 H.size rf ss sp ig lo ac) (cwV 1 hts gX8_blame_X8_refused rfl rfl rfl (by decide +kernel) (k_lvl (by omega) (by decide))) (kPV hP hD hK hS hA hE [0] rfl (by decide) 0 8 rfl rfl rfl) rfl rfl hl.1 rfl (lv_room (Nat.le_of_ble_eq_true rfl)) dX8_blame_30 ⟨Nat.le_of_ble_eq_true rfl, Nat.le_of_ble_eq_true rfl⟩) hP hD hS hA [0] [1] [1, 0] rfl rfl (by decide) (by decide) rfl (by decide) (fun H locs hP hD hS => ?_)
      refine lv_if_eq (tgt := 38) hx hb dX8_blame_33 (by decide) (fun _ => ?_) (fun c_3 => absurd c_3 (by decide))
      obtain ⟨k_0, ek_0⟩ : ∃ z, z = k.toNatClampNeg := ⟨_, rfl⟩
      have qk_0 : k = nI k_0 := by rw [ek_0]; exact (in_N (K := 9) (by decide) c_1).1
      have bk_0 : k_0 ≤ 9 := by rw [ek_0]; exact (in_N (K := 9) (by decide) c_1).2
      have kek_0 : kEq k_0 k.toNatClampNeg := ek_0
      clear ek_0
      have hl : lv_has ls 3 [(0, .ref m0), (1, .int (nI k_0)), (2, .int what)] := by
        have h9 := hl
        rw [qk_0] at h9
        exact h9
      obtain ⟨what_0, ewhat_0⟩ : ∃ z, z = what.toNatClampNeg := ⟨_, rfl⟩
      have qwhat_0 : what = nI what_0 := by rw [ewhat_0]; exact (in_N (K := 5) (by decide) c_2).1
      have bwhat_0 : what_0 ≤ 5 := by rw [ewhat_0]; exact (in_N (K := 5) (by decide) c_2).2
      have kewhat_0 : kEq what_0 what.toNatClampNeg := ewhat_0
      clear ewhat_0
      have hl : lv_has ls 3 [(0, .ref m0), (1, .int (nI k_0)), (2, .int (nI what_0))] := by
        have h9 := hl
        rw [qwhat_0] at h9
        exact h9
      refine lv_iload_n hx hb dX8_blame_38 rfl (lv_at hl 1 rfl) ?_
      refine lv_aload_n hx hb dX8_blame_39 rfl (lv_at hl 0 rfl) ?_
      refine va_get (D := D) (ci := 8) (v := .ref nw0) (C := RX8) (T := TX8) (N := 16) hx hb hts (fun w h => (List.mem_cons_of_mem _ (List.mem_append_right _ h))) hown hK hP 0 rfl rfl 7 (by decide) (hts _ qX8_blame_2) (fun _ h9 => h9) rfl dX8_blame_40 ?_
      refine lv_sipush (v := 687) hx hb dX8_blame_43 (by decide) ?_
      refine va_iald (i := 687) hx hb hK hP 1 0 rfl rfl (vp_in_nI (n := 687) (by decide) (by decide)) dX8_blame_46 ?_
      refine k_top (y := (nw 687)) rfl ?_
      refine lv_icmp_ge (tgt := 68) hx hb dX8_blame_47 (by decide) (fun c_4 => ?_) (fun c_4 => ?_)
      · refine lv_sipush (v := (-10000)) hx hb dX8_blame_68 (by decide) ?_
        have ewhat_0 : what.toNatClampNeg = what_0 := Eq.symm kewhat_0
        have ek_0 : k.toNatClampNeg = k_0 := Eq.symm kek_0
        have hE2 : (f_X8_blame nw k what) = (-10000) := by
          subst ewhat_0
          subst ek_0
          exact (if_pos c_4).trans (rfl)
        subst hQ
        exact k_ri hx hb hr hlocks hP hD hS dX8_blame_71 (hE2.symm) (rfl)
      · refine lv_aload_n hx hb dX8_blame_50 rfl (lv_at hl 0 rfl) ?_
        refine va_get (D := D) (ci := 8) (v := .ref nw0) (C := RX8) (T := TX8) (N := 16) hx hb hts (fun w h => (List.mem_cons_of_mem _ (List.mem_append_right _ h))) hown hK hP 0 rfl rfl 7 (by decide) (hts _ qX8_blame_2) (fun _ h9 => h9) rfl dX8_blame_51 ?_
        refine lv_sipush (v := 688) hx hb dX8_blame_54 (by decide) ?_
        refine lv_bipush (v := 6) hx hb dX8_blame_57 (by decide) ?_
        refine lv_iload_n hx hb dX8_blame_59 rfl (lv_at hl 1 rfl) ?_
        refine lv_imul hx hb dX8_blame_60 ?_
        refine k_top (y := (nI (6 * k_0))) (pk_mul 6 k_0) ?_
        refine lv_iadd hx hb dX8_blame_61 ?_
        refine k_top (y := (nI (688 + (6 * k_0)))) (nI_add 688 (6 * k_0)) ?_
        refine lv_iload_n hx hb dX8_blame_62 rfl (lv_at hl 2 rfl) ?_
        refine lv_iadd hx hb dX8_blame_63 ?_
        refine k_top (y := (nI ((688 + (6 * k_0)) + what_0))) (nI_add (688 + (6 * k_0)) what_0) ?_
        refine va_iald (i := (nI ((688 + (6 * k_0)) + what_0))) hx hb hK hP 1 0 rfl rfl (vp_in_nI (n := ((688 + (6 * k_0)) + what_0)) (by omega) (by omega)) dX8_blame_64 ?_
        refine k_top (y := (nw ((688 + (6 * k_0)) + what_0))) (by rw [nI_clamp (by omega)]) ?_
        refine lv_goto (tgt := 71) hx hb dX8_blame_65 (by decide) ?_
        have ewhat_0 : what.toNatClampNeg = what_0 := Eq.symm kewhat_0
        have ek_0 : k.toNatClampNeg = k_0 := Eq.symm kek_0
        have hE2 : (f_X8_blame nw k what) = (nw ((688 + (6 * k_0)) + what_0)) := by
          subst ewhat_0
          subst ek_0
          exact (if_neg c_4).trans (rfl)
        subst hQ
        exact k_ri hx hb hr hlocks hP hD hS dX8_blame_71 (hE2.symm) (rfl)
theorem qc_X8_blame_bad_X8_blame_0 : Cond.constantLong RX8 119 (9) ∈ wsX8_blame := (List.mem_cons_of_mem _ (List.mem_append_left _ (List.mem_of_getElem? (i := 0) rfl)))
theorem qc_X8_blame_bad_X8_blame_1 : Cond.constantLong RX8 202 (5) ∈ wsX8_blame := (List.mem_cons_of_mem _ (List.mem_append_left _ (List.mem_of_getElem? (i := 1) rfl)))
set_option maxHeartbeats 4000000 in
set_option maxRecDepth 100000 in
theorem c_X8_blame_bad (l : Launch) (D : va_G) (g : Nat → Nat) (m0 sc0 rd0 nw0 tr0 di0 ke0 ik0 cp0 cn0 be0 : Nat) (sz : Nat) (rf : Int32) (ss : Nat) (sp : Nat) (ig : Int32) (lo : Int32) (ac : Nat) (nw : Nat → Int32) (k : Int32) (what : Int32) (hk : ¬ (kc_X8_blame k what) = 0) : kMi l D g yX8_blame wsX8_blame 2 0 0 [.ref m0, .int k, .int what] [(m0, .inr (8, [.int rf, .ref sc0, .int (nI ss), .int (nI sp), .int ig, .int lo, .ref rd0, .ref nw0, .ref tr0, .ref di0, .int (nI ac), .ref ke0, .ref ik0, .ref cp0, .ref cn0, .ref be0])), (nw0, .inl (g 0, 748, .inl nw))] sz 0 [(m0, .inr (8, [.int (kc_X8_blame k what), .ref sc0, .int (nI ss), .int (nI sp), .int ig, .int lo, .ref rd0, .ref nw0, .ref tr0, .ref di0, .int (nI ac), .ref ke0, .ref ik0, .ref cp0, .ref cn0, .ref be0])), (nw0, .inl (g 0, 748, .inl nw))] := by
  refine k_enter (nm := "blame") (own := RX8) (bytes := cX8_blame) (maxL := 3) (ret := (some .int)) (Qf := fun A => kQi D [(m0, .inr (8, [.int (kc_X8_blame k what), .ref sc0, .int (nI ss), .int (nI sp), .int ig, .int lo, .ref rd0, .ref nw0, .ref tr0, .ref di0, .int (nI ac), .ref ke0, .ref ik0, .ref cp0, .ref cn0, .ref be0])), (nw0, .inl (g 0, 748, .inl nw))] A 0) (by decide) rfl rfl rfl (Nat.le_of_ble_eq_true rfl) ?_
  rintro pp ee s mm below meth cc A ls args Q H locs hQ ⟨hx, hb, hr, hml, hown, hts, hlocks, hin⟩ hP hK hD hA hS hE hl
  have hl : lv_has ls 3 [(0, .ref m0), (1, .int k), (2, .int what)] := hl
  refine lv_aload_n hx hb dX8_blame_0 rfl (lv_at hl 0 rfl) ?_
  refine lv_iload_n hx hb dX8_blame_1 rfl (lv_at hl 1 rfl) ?_
  refine lv_i2l (v := (Int32.toInt64 k)) hx hb dX8_blame_2 rfl ?_
  refine lv_lconst (v := 0) hx hb dX8_blame_3 (by decide) ?_
  refine lv_ldc2 hx hb hown (hts _ qc_X8_blame_bad_X8_blame_0) dX8_blame_4 ?_
  refine k_ai (wr := [(m0, .inr (8, [.int rf, .ref sc0, .int (nI ss), .int (nI sp), .int ig, .int lo, .ref rd0, .ref nw0, .ref tr0, .ref di0, .int (nI ac), .ref ke0, .ref ik0, .ref cp0, .ref cn0, .ref be0])), (nw0, .inl (g 0, 748, .inl nw))]) (w2 := [(m0, .inr (8, [.int rf, .ref sc0, .int (nI ss), .int (nI sp), .int ig, .int lo, .ref rd0, .ref nw0, .ref tr0, .ref di0, .int (nI ac), .ref ke0, .ref ik0, .ref cp0, .ref cn0, .ref be0])), (nw0, .inl (g 0, 748, .inl nw))]) (va_runS (As := [.long (Int32.toInt64 k), .long 0, .long 9]) (rest := [.ref m0]) ⟨hx, hb, hml, hown, hts⟩ (c_X8_in l D g H.size (Int32.toInt64 k) 0 9) (va_cwS 3 hts gX8_blame_X8_in rfl rfl rfl (by decide +kernel) (k_lvl (by omega) (by decide))) (kPS hP hD hK hS hA hE [] rfl (by decide)) rfl rfl hl.1 rfl (lv_room (Nat.le_of_ble_eq_true rfl)) dX8_blame_7 ⟨Nat.le_of_ble_eq_true rfl, Nat.le_of_ble_eq_true rfl⟩) hP hD hS hA [] [0, 1] [0, 1] rfl rfl (by decide) (by decide) rfl (by decide) (fun H locs hP hD hS => ?_)
  refine lv_if_eq (tgt := 29) hx hb dX8_blame_10 (by decide) (fun c_1 => ?_) (fun c_1 => ?_)
  · refine lv_iconst (v := 1) hx hb dX8_blame_29 (by decide) ?_
    refine k_ai (wr := [(nw0, .inl (g 0, 748, .inl nw))]) (w2 := [(m0, .inr (8, [.int 1, .ref sc0, .int (nI ss), .int (nI sp), .int ig, .int lo, .ref rd0, .ref nw0, .ref tr0, .ref di0, .int (nI ac), .ref ke0, .ref ik0, .ref cp0, .ref cn0, .ref be0])), (nw0, .inl (g 0, 748, .inl nw))]) (va_runV (As := [.int 1]) (rest := []) ⟨hx, hb, hml, hown, hts⟩ (c_X8_refused1 l D g m0 sc0 rd0 nw0 tr0 di0 ke0 ik0 cp0 cn0 be0 H.size rf ss sp ig lo ac) (cwV 1 hts gX8_blame_X8_refused rfl rfl rfl (by decide +kernel) (k_lvl (by omega) (by decide))) (kPV hP hD hK hS hA hE [0] rfl (by decide) 0 8 rfl rfl rfl) rfl rfl hl.1 rfl (lv_room (Nat.le_of_ble_eq_true rfl)) dX8_blame_30 ⟨Nat.le_of_ble_eq_true rfl, Nat.le_of_ble_eq_true rfl⟩) hP hD hS hA [0] [1] [1, 0] rfl rfl (by decide) (by decide) rfl (by decide) (fun H locs hP hD hS => ?_)
    refine lv_if_eq (tgt := 38) hx hb dX8_blame_33 (by decide) (fun c_2 => absurd c_2 (by decide)) (fun _ => ?_)
    refine lv_iconst (v := 0) hx hb dX8_blame_36 (by decide) ?_
    subst hQ
    exact k_ri hx hb hr hlocks hP hD hS dX8_blame_37 (rfl) (by rw [show (kc_X8_blame k what) = 1 from (if_pos c_1).trans (rfl)])
  · refine lv_iload_n hx hb dX8_blame_13 rfl (lv_at hl 2 rfl) ?_
    refine lv_i2l (v := (Int32.toInt64 what)) hx hb dX8_blame_14 rfl ?_
    refine lv_lconst (v := 0) hx hb dX8_blame_15 (by decide) ?_
    refine lv_ldc2 hx hb hown (hts _ qc_X8_blame_bad_X8_blame_1) dX8_blame_16 ?_
    refine k_ai (wr := [(m0, .inr (8, [.int rf, .ref sc0, .int (nI ss), .int (nI sp), .int ig, .int lo, .ref rd0, .ref nw0, .ref tr0, .ref di0, .int (nI ac), .ref ke0, .ref ik0, .ref cp0, .ref cn0, .ref be0])), (nw0, .inl (g 0, 748, .inl nw))]) (w2 := [(m0, .inr (8, [.int rf, .ref sc0, .int (nI ss), .int (nI sp), .int ig, .int lo, .ref rd0, .ref nw0, .ref tr0, .ref di0, .int (nI ac), .ref ke0, .ref ik0, .ref cp0, .ref cn0, .ref be0])), (nw0, .inl (g 0, 748, .inl nw))]) (va_runS (As := [.long (Int32.toInt64 what), .long 0, .long 5]) (rest := [.ref m0]) ⟨hx, hb, hml, hown, hts⟩ (c_X8_in l D g H.size (Int32.toInt64 what) 0 5) (va_cwS 3 hts gX8_blame_X8_in rfl rfl rfl (by decide +kernel) (k_lvl (by omega) (by decide))) (kPS hP hD hK hS hA hE [] rfl (by decide)) rfl rfl hl.1 rfl (lv_room (Nat.le_of_ble_eq_true rfl)) dX8_blame_19 ⟨Nat.le_of_ble_eq_true rfl, Nat.le_of_ble_eq_true rfl⟩) hP hD hS hA [] [0, 1] [0, 1] rfl rfl (by decide) (by decide) rfl (by decide) (fun H locs hP hD hS => ?_)
    refine lv_if_eq (tgt := 29) hx hb dX8_blame_22 (by decide) (fun c_3 => ?_) (fun c_3 => ?_)
    · refine lv_iconst (v := 1) hx hb dX8_blame_29 (by decide) ?_
      refine k_ai (wr := [(nw0, .inl (g 0, 748, .inl nw))]) (w2 := [(m0, .inr (8, [.int 1, .ref sc0, .int (nI ss), .int (nI sp), .int ig, .int lo, .ref rd0, .ref nw0, .ref tr0, .ref di0, .int (nI ac), .ref ke0, .ref ik0, .ref cp0, .ref cn0, .ref be0])), (nw0, .inl (g 0, 748, .inl nw))]) (va_runV (As := [.int 1]) (rest := []) ⟨hx, hb, hml, hown, hts⟩ (c_X8_refused1 l D g m0 sc0 rd0 nw0 tr0 di0 ke0 ik0 cp0 cn0 be0 H.size rf ss sp ig lo ac) (cwV 1 hts gX8_blame_X8_refused rfl rfl rfl (by decide +kernel) (k_lvl (by omega) (by decide))) (kPV hP hD hK hS hA hE [0] rfl (by decide) 0 8 rfl rfl rfl) rfl rfl hl.1 rfl (lv_room (Nat.le_of_ble_eq_true rfl)) dX8_blame_30 ⟨Nat.le_of_ble_eq_true rfl, Nat.le_of_ble_eq_true rfl⟩) hP hD hS hA [0] [1] [1, 0] rfl rfl (by decide) (by decide) rfl (by decide) (fun H locs hP hD hS => ?_)
      refine lv_if_eq (tgt := 38) hx hb dX8_blame_33 (by decide) (fun c_4 => absurd c_4 (by decide)) (fun _ => ?_)
      refine lv_iconst (v := 0) hx hb dX8_blame_36 (by decide) ?_
      subst hQ
      exact k_ri hx hb hr hlocks hP hD hS dX8_blame_37 (rfl) (by rw [show (kc_X8_blame k what) = 1 from (if_neg c_1).trans ((if_pos c_3).trans (rfl))])
    · refine lv_iconst (v := 0) hx hb dX8_blame_25 (by decide) ?_
      refine lv_goto (tgt := 30) hx hb dX8_blame_26 (by decide) ?_
      have h9 : (kc_X8_blame k what) = 0 := (if_neg c_1).trans ((if_neg c_3).trans (rfl))
      exact absurd h9 hk
/-- what add answers before it does anything: 0, or which of its exceptions is thrown -/
def kc_X8_add (nw : Nat → Int32) (factor : Int32) (more : Int32) : Int32 :=
  let mn_0 := (nw 0).toNatClampNeg
  if (f_X8_in (Int32.toInt64 factor) (-9) 9) = 0 then
    1
  else
    if (f_X8_isSmall more) = 0 then
      1
    else
      if mn_0 = 10 then
        2
      else
        0
def f_X8_add (ac : Nat) (nw : Nat → Int32) (di : Nat → Int32) (factor : Int32) (more : Int32) : Int32 × Nat × (Nat → Int32) × (Nat → Int32) :=
  let mn_0 := (nw 0).toNatClampNeg
  let v_8 := (f_X8_remember ac nw di)
  ((((f_X8_addIn nw factor more mn_0) 0) - 1), v_8.1, v_8.2, (f_X8_addIn nw factor more mn_0))
theorem qX8_add_0 : Cond.constantLong RX8 208 (-9) ∈ wsX8_add := (List.mem_cons_of_mem _ (List.mem_append_left _ (List.mem_append_left _ (List.mem_of_getElem? (i := 0) rfl))))
theorem qX8_add_1 : Cond.constantLong RX8 119 (9) ∈ wsX8_add := (List.mem_cons_of_mem _ (List.mem_append_left _ (List.mem_append_left _ (List.mem_of_getElem? (i := 1) rfl))))
theorem qX8_add_2 : Cond.fieldLink RX8 16 "BlameChainsModel" "now" "[I" ∈ wsX8_add := (List.mem_cons_of_mem _ (List.mem_append_left _ (List.mem_append_left _ (List.mem_of_getElem? (i := 2) rfl))))
set_option maxHeartbeats 4000000 in
set_option maxRecDepth 100000 in
theorem c_X8_add (l : Launch) (D : va_G) (g : Nat → Nat) (m0 sc0 rd0 nw0 tr0 di0 ke0 ik0 cp0 cn0 be0 : Nat) (sz : Nat) (rf : Int32) (ss : Nat) (sp : Nat) (ig : Int32) (lo : Int32) (ac : Nat) (nw : Nat → Int32) (di : Nat → Int32) (factor : Int32) (more : Int32) (hO : rdOk nw) (hac : ac ≤ 14) (hk : (kc_X8_add nw factor more) = 0) : kMi l D g yX8_add wsX8_add 3 0 0 [.ref m0, .int factor, .int more] [(m0, .inr (8, [.int rf, .ref sc0, .int (nI ss), .int (nI sp), .int ig, .int lo, .ref rd0, .ref nw0, .ref tr0, .ref di0, .int (nI ac), .ref ke0, .ref ik0, .ref cp0, .ref cn0, .ref be0])), (nw0, .inl (g 0, 748, .inl nw)), (di0, .inl (g 0, 10472, .inl di))] sz ((f_X8_add ac nw di factor more).1) [(m0, .inr (8, [.int 0, .ref sc0, .int (nI ss), .int (nI sp), .int ig, .int lo, .ref rd0, .ref nw0, .ref tr0, .ref di0, .int (nI ((f_X8_add ac nw di factor more).2.1)), .ref ke0, .ref ik0, .ref cp0, .ref cn0, .ref be0])), (nw0, .inl (g 0, 748, .inl ((f_X8_add ac nw di factor more).2.2.2))), (di0, .inl (g 0, 10472, .inl ((f_X8_add ac nw di factor more).2.2.1)))] := by
  refine k_enter (nm := "add") (own := RX8) (bytes := cX8_add) (maxL := 4) (ret := (some .int)) (Qf := fun A => kQi D [(m0, .inr (8, [.int 0, .ref sc0, .int (nI ss), .int (nI sp), .int ig, .int lo, .ref rd0, .ref nw0, .ref tr0, .ref di0, .int (nI ((f_X8_add ac nw di factor more).2.1)), .ref ke0, .ref ik0, .ref cp0, .ref cn0, .ref be0])), (nw0, .inl (g 0, 748, .inl ((f_X8_add ac nw di factor more).2.2.2))), (di0, .inl (g 0, 10472, .inl ((f_X8_add ac nw di factor more).2.2.1)))] A ((f_X8_add ac nw di factor more).1)) (by decide) rfl rfl rfl (Nat.le_of_ble_eq_true rfl) ?_
  rintro pp ee s mm below meth cc A ls args Q H locs hQ ⟨hx, hb, hr, hml, hown, hts, hlocks, hin⟩ hP hK hD hA hS hE hl
  have hl : lv_has ls 4 [(0, .ref m0), (1, .int factor), (2, .int more)] := hl
  obtain ⟨mn_0, emn_0⟩ : ∃ z, z = (nw 0).toNatClampNeg := ⟨_, rfl⟩
  have hmn : nw 0 = nI mn_0 := by rw [emn_0]; exact (rdOk_mn hO).1
  have hm9 : mn_0 ≤ 10 := by rw [emn_0]; exact (rdOk_mn hO).2
  have kemn_0 : kEq mn_0 (nw 0).toNatClampNeg := emn_0
  clear emn_0
  refine lv_iload_n hx hb dX8_add_0 rfl (lv_at hl 1 rfl) ?_
  refine lv_i2l (v := (Int32.toInt64 factor)) hx hb dX8_add_1 rfl ?_
  refine lv_ldc2 hx hb hown (hts _ qX8_add_0) dX8_add_2 ?_
  refine lv_ldc2 hx hb hown (hts _ qX8_add_1) dX8_add_5 ?_
  refine k_ai (wr := [(m0, .inr (8, [.int rf, .ref sc0, .int (nI ss), .int (nI sp), .int ig, .int lo, .ref rd0, .ref nw0, .ref tr0, .ref di0, .int (nI ac), .ref ke0, .ref ik0, .ref cp0, .ref cn0, .ref be0])), (nw0, .inl (g 0, 748, .inl nw)), (di0, .inl (g 0, 10472, .inl di))]) (w2 := [(m0, .inr (8, [.int rf, .ref sc0, .int (nI ss), .int (nI sp), .int ig, .int lo, .ref rd0, .ref nw0, .ref tr0, .ref di0, .int (nI ac), .ref ke0, .ref ik0, .ref cp0, .ref cn0, .ref be0])), (nw0, .inl (g 0, 748, .inl nw)), (di0, .inl (g 0, 10472, .inl di))]) (va_runS (As := [.long (Int32.toInt64 factor), .long (-9), .long 9]) (rest := []) ⟨hx, hb, hml, hown, hts⟩ (c_X8_in l D g H.size (Int32.toInt64 factor) (-9) 9) (va_cwS 3 hts gX8_add_X8_in rfl rfl rfl (by decide +kernel) (k_lvl (by omega) (by decide))) (kPS hP hD hK hS hA hE [] rfl (by decide)) rfl rfl hl.1 rfl (lv_room (Nat.le_of_ble_eq_true rfl)) dX8_add_8 ⟨Nat.le_of_ble_eq_true rfl, Nat.le_of_ble_eq_true rfl⟩) hP hD hS hA [] [0, 1, 2] [0, 1, 2] rfl rfl (by decide) (by decide) rfl (by decide) (fun H locs hP hD hS => ?_)
  refine lv_if_eq (tgt := 25) hx hb dX8_add_11 (by decide) (fun c_1 => ?_) (fun c_1 => ?_)
  · refine lv_iconst (v := 0) hx hb dX8_add_25 (by decide) ?_
    refine lv_istore_n (lv' := [(3, .int 0), (0, .ref m0), (1, .int factor), (2, .int more)]) hx hb dX8_add_26 rfl hl (by decide) rfl (fun ls hl => ?_)
    refine lv_aload_n hx hb dX8_add_27 rfl (lv_at hl 1 rfl) ?_
    refine lv_iload_n hx hb dX8_add_28 rfl (lv_at hl 0 rfl) ?_
    refine lv_if_ne (tgt := 36) hx hb dX8_add_29 (by decide) (fun c_2 => absurd c_2 (by decide)) (fun _ => ?_)
    refine lv_iconst (v := 1) hx hb dX8_add_32 (by decide) ?_
    refine lv_goto (tgt := 52) hx hb dX8_add_33 (by decide) ?_
    have emn_0 : (nw 0).toNatClampNeg = mn_0 := Eq.symm kemn_0
    subst emn_0
    have h9 : (kc_X8_add nw factor more) = 1 := (if_pos c_1).trans (rfl)
    rw [hk] at h9
    exact absurd h9 (by decide)
  · refine lv_iload_n hx hb dX8_add_14 rfl (lv_at hl 2 rfl) ?_
    refine k_ai (wr := [(m0, .inr (8, [.int rf, .ref sc0, .int (nI ss), .int (nI sp), .int ig, .int lo, .ref rd0, .ref nw0, .ref tr0, .ref di0, .int (nI ac), .ref ke0, .ref ik0, .ref cp0, .ref cn0, .ref be0])), (nw0, .inl (g 0, 748, .inl nw)), (di0, .inl (g 0, 10472, .inl di))]) (w2 := [(m0, .inr (8, [.int rf, .ref sc0, .int (nI ss), .int (nI sp), .int ig, .int lo, .ref rd0, .ref nw0, .ref tr0, .ref di0, .int (nI ac), .ref ke0, .ref ik0, .ref cp0, .ref cn0, .ref be0])), (nw0, .inl (g 0, 748, .inl nw)), (di0, .inl (g 0, 10472, .inl di))]) (va_runS (As := [.int more]) (rest := []) ⟨hx, hb, hml, hown, hts⟩ (c_X8_isSmall l D g H.size more) (va_cwS 1 hts gX8_add_X8_isSmall rfl rfl rfl (by decide +kernel) (k_lvl (by omega) (by decide))) (kPS hP hD hK hS hA hE [] rfl (by decide)) rfl rfl hl.1 rfl (lv_room (Nat.le_of_ble_eq_true rfl)) dX8_add_15 ⟨Nat.le_of_ble_eq_true rfl, Nat.le_of_ble_eq_true rfl⟩) hP hD hS hA [] [0, 1, 2] [0, 1, 2] rfl rfl (by decide) (by decide) rfl (by decide) (fun H locs hP hD hS => ?_)
    refine lv_if_eq (tgt := 25) hx hb dX8_add_18 (by decide) (fun c_3 => ?_) (fun c_3 => ?_)
    · refine lv_iconst (v := 0) hx hb dX8_add_25 (by decide) ?_
      refine lv_istore_n (lv' := [(3, .int 0), (0, .ref m0), (1, .int factor), (2, .int more)]) hx hb dX8_add_26 rfl hl (by decide) rfl (fun ls hl => ?_)
      refine lv_aload_n hx hb dX8_add_27 rfl (lv_at hl 1 rfl) ?_
      refine lv_iload_n hx hb dX8_add_28 rfl (lv_at hl 0 rfl) ?_
      refine lv_if_ne (tgt := 36) hx hb dX8_add_29 (by decide) (fun c_4 => absurd c_4 (by decide)) (fun _ => ?_)
      refine lv_iconst (v := 1) hx hb dX8_add_32 (by decide) ?_
      refine lv_goto (tgt := 52) hx hb dX8_add_33 (by decide) ?_
      have emn_0 : (nw 0).toNatClampNeg = mn_0 := Eq.symm kemn_0
      subst emn_0
      have h9 : (kc_X8_add nw factor more) = 1 := (if_neg c_1).trans ((if_pos c_3).trans (rfl))
      rw [hk] at h9
      exact absurd h9 (by decide)
    · refine lv_iconst (v := 1) hx hb dX8_add_21 (by decide) ?_
      refine lv_goto (tgt := 26) hx hb dX8_add_22 (by decide) ?_
      refine lv_istore_n (lv' := [(3, .int 1), (0, .ref m0), (1, .int factor), (2, .int more)]) hx hb dX8_add_26 rfl hl (by decide) rfl (fun ls hl => ?_)
      refine lv_aload_n hx hb dX8_add_27 rfl (lv_at hl 1 rfl) ?_
      refine lv_iload_n hx hb dX8_add_28 rfl (lv_at hl 0 rfl) ?_
      refine lv_if_ne (tgt := 36) hx hb dX8_add_29 (by decide) (fun _ => ?_) (fun c_5 => absurd c_5 (by decide))
      refine lv_aload_n hx hb dX8_add_36 rfl (lv_at hl 1 rfl) ?_
      refine va_get (D := D) (ci := 8) (v := .ref nw0) (C := RX8) (T := TX8) (N := 16) hx hb hts (fun w h => (List.mem_cons_of_mem _ (List.mem_append_right _ h))) hown hK hP 0 rfl rfl 7 (by decide) (hts _ qX8_add_2) (fun _ h9 => h9) rfl dX8_add_37 ?_
      refine lv_iconst (v := 0) hx hb dX8_add_40 (by decide) ?_
      refine va_iald (i := 0) hx hb hK hP 1 0 rfl rfl (vp_in_nI (n := 0) (by decide) (by decide)) dX8_add_41 ?_
      refine k_top (y := (nw 0)) rfl ?_
      refine k_top (y := (nI mn_0)) (hmn) ?_
      refine lv_bipush (v := 10) hx hb dX8_add_42 (by decide) ?_
      refine lv_icmp_ne (tgt := 51) hx hb dX8_add_44 (by decide) (fun c_6 => ?_) (fun c_6 => ?_)
      · have c_6 : ¬ (mn_0 = 10) := fun h9 => c_6 ((nI_eq (a := mn_0) (b := 10) (by omega) (by omega)).mpr h9)
        refine lv_iconst (v := 0) hx hb dX8_add_51 (by decide) ?_
        refine k_ai (wr := [(nw0, .inl (g 0, 748, .inl nw)), (di0, .inl (g 0, 10472, .inl di))]) (w2 := [(m0, .inr (8, [.int 0, .ref sc0, .int (nI ss), .int (nI sp), .int ig, .int lo, .ref rd0, .ref nw0, .ref tr0, .ref di0, .int (nI ac), .ref ke0, .ref ik0, .ref cp0, .ref cn0, .ref be0])), (nw0, .inl (g 0, 748, .inl nw)), (di0, .inl (g 0, 10472, .inl di))]) (va_runV (As := [.int 0]) (rest := []) ⟨hx, hb, hml, hown, hts⟩ (c_X8_refused0 l D g m0 sc0 rd0 nw0 tr0 di0 ke0 ik0 cp0 cn0 be0 H.size rf ss sp ig lo ac) (cwV 1 hts gX8_add_X8_refused rfl rfl rfl (by decide +kernel) (k_lvl (by omega) (by decide))) (kPV hP hD hK hS hA hE [0] rfl (by decide) 0 8 rfl rfl rfl) rfl rfl hl.1 rfl (lv_room (Nat.le_of_ble_eq_true rfl)) dX8_add_52 ⟨Nat.le_of_ble_eq_true rfl, Nat.le_of_ble_eq_true rfl⟩) hP hD hS hA [0] [1, 2] [2, 0, 1] rfl rfl (by decide) (by decide) rfl (by decide) (fun H locs hP hD hS => ?_)
        refine lv_if_eq (tgt := 60) hx hb dX8_add_55 (by decide) (fun _ => ?_) (fun c_7 => absurd c_7 (by decide))
        refine lv_aload_n hx hb dX8_add_60 rfl (lv_at hl 1 rfl) ?_
        have hC := c_X8_remember l D g m0 sc0 rd0 nw0 tr0 di0 ke0 ik0 cp0 cn0 be0 H.size 0 ss sp ig lo ac nw di (by omega)
        obtain ⟨v_8, ev_8⟩ : ∃ z, z = (f_X8_remember ac nw di) := ⟨_, rfl⟩
        rw [← ev_8] at hC
        have kev_8 : kEq v_8 (f_X8_remember ac nw di) := ev_8
        clear ev_8
        refine k_av (wr := []) (w2 := [(m0, .inr (8, [.int 0, .ref sc0, .int (nI ss), .int (nI sp), .int ig, .int lo, .ref rd0, .ref nw0, .ref tr0, .ref di0, .int (nI v_8.1), .ref ke0, .ref ik0, .ref cp0, .ref cn0, .ref be0])), (nw0, .inl (g 0, 748, .inl nw)), (di0, .inl (g 0, 10472, .inl v_8.2))]) (va_runV (As := []) (rest := []) ⟨hx, hb, hml, hown, hts⟩ hC (cwV 0 hts gX8_add_X8_remember rfl rfl rfl (by decide +kernel) (k_lvl (by omega) (by decide))) (kPV hP hD hK hS hA hE [0, 1, 2] rfl (by decide) 0 8 rfl rfl rfl) rfl rfl hl.1 rfl (lv_room (Nat.le_of_ble_eq_true rfl)) dX8_add_61 ⟨Nat.le_of_ble_eq_true rfl, Nat.le_of_ble_eq_true rfl⟩) hP hD hS hA [0, 1, 2] [] [0, 1, 2] rfl rfl (by decide) (by decide) rfl (by decide) (fun H locs hP hD hS => ?_)
        refine lv_aload_n hx hb dX8_add_64 rfl (lv_at hl 1 rfl) ?_
        refine va_get (D := D) (ci := 8) (v := .ref nw0) (C := RX8) (T := TX8) (N := 16) hx hb hts (fun w h => (List.mem_cons_of_mem _ (List.mem_append_right _ h))) hown hK hP 0 rfl rfl 7 (by decide) (hts _ qX8_add_2) (fun _ h9 => h9) rfl dX8_add_65 ?_
        refine lv_iload_n hx hb dX8_add_68 rfl (lv_at hl 2 rfl) ?_
        refine lv_iload_n hx hb dX8_add_69 rfl (lv_at hl 3 rfl) ?_
        refine k_av (wr := [(m0, .inr (8, [.int 0, .ref sc0, .int (nI ss), .int (nI sp), .int ig, .int lo, .ref rd0, .ref nw0, .ref tr0, .ref di0, .int (nI v_8.1), .ref ke0, .ref ik0, .ref cp0, .ref cn0, .ref be0])), (di0, .inl (g 0, 10472, .inl v_8.2))]) (w2 := [(m0, .inr (8, [.int 0, .ref sc0, .int (nI ss), .int (nI sp), .int ig, .int lo, .ref rd0, .ref nw0, .ref tr0, .ref di0, .int (nI v_8.1), .ref ke0, .ref ik0, .ref cp0, .ref cn0, .ref be0])), (nw0, .inl (g 0, 748, .inl (f_X8_addIn nw factor more mn_0))), (di0, .inl (g 0, 10472, .inl v_8.2))]) (va_runS (As := [.ref nw0, .int factor, .int more]) (rest := []) ⟨hx, hb, hml, hown, hts⟩ (c_X8_addIn l D g nw0 H.size nw factor more mn_0 hmn (by omega)) (va_cwS 3 hts gX8_add_X8_addIn rfl rfl rfl (by decide +kernel) (k_lvl (by omega) (by decide))) (kPS hP hD hK hS hA hE [1] rfl (by decide)) rfl rfl hl.1 rfl (lv_room (Nat.le_of_ble_eq_true rfl)) dX8_add_70 ⟨Nat.le_of_ble_eq_true rfl, Nat.le_of_ble_eq_true rfl⟩) hP hD hS hA [1] [0, 2] [0, 2, 1] rfl rfl (by decide) (by decide) rfl (by decide) (fun H locs hP hD hS => ?_)
        refine lv_aload_n hx hb dX8_add_73 rfl (lv_at hl 1 rfl) ?_
        refine va_get (D := D) (ci := 8) (v := .ref nw0) (C := RX8) (T := TX8) (N := 16) hx hb hts (fun w h => (List.mem_cons_of_mem _ (List.mem_append_right _ h))) hown hK hP 0 rfl rfl 7 (by decide) (hts _ qX8_add_2) (fun _ h9 => h9) rfl dX8_add_74 ?_
        refine lv_iconst (v := 0) hx hb dX8_add_77 (by decide) ?_
        refine va_iald (i := 0) hx hb hK hP 1 0 rfl rfl (vp_in_nI (n := 0) (by decide) (by decide)) dX8_add_78 ?_
        refine k_top (y := ((f_X8_addIn nw factor more mn_0) 0)) rfl ?_
        refine lv_iconst (v := 1) hx hb dX8_add_79 (by decide) ?_
        refine lv_isub hx hb dX8_add_80 ?_
        have ev_8 : (f_X8_remember ac nw di) = v_8 := Eq.symm kev_8
        have emn_0 : (nw 0).toNatClampNeg = mn_0 := Eq.symm kemn_0
        have hE2 : (f_X8_add ac nw di factor more) = ((((f_X8_addIn nw factor more mn_0) 0) - 1), v_8.1, v_8.2, (f_X8_addIn nw factor more mn_0)) := by
          subst ev_8
          subst emn_0
          exact rfl
        subst hQ
        exact k_ri hx hb hr hlocks hP hD hS dX8_add_81 (by rw [hE2]) (by rw [hE2])
      · have c_6 : mn_0 = 10 := (nI_eq (a := mn_0) (b := 10) (by omega) (by omega)).mp c_6
        refine lv_iconst (v := 2) hx hb dX8_add_47 (by decide) ?_
        refine lv_goto (tgt := 52) hx hb dX8_add_48 (by decide) ?_
        have emn_0 : (nw 0).toNatClampNeg = mn_0 := Eq.symm kemn_0
        subst emn_0
        have h9 : (kc_X8_add nw factor more) = 2 := (if_neg c_1).trans ((if_neg c_3).trans ((if_pos c_6).trans (rfl)))
        rw [hk] at h9
        exact absurd h9 (by decide)
theorem qc_X8_add_bad_X8_add_0 : Cond.constantLong RX8 208 (-9) ∈ wsX8_add := (List.mem_cons_of_mem _ (List.mem_append_left _ (List.mem_append_left _ (List.mem_of_getElem? (i := 0) rfl))))
theorem qc_X8_add_bad_X8_add_1 : Cond.constantLong RX8 119 (9) ∈ wsX8_add := (List.mem_cons_of_mem _ (List.mem_append_left _ (List.mem_append_left _ (List.mem_of_getElem? (i := 1) rfl))))
theorem qc_X8_add_bad_X8_add_2 : Cond.fieldLink RX8 16 "BlameChainsModel" "now" "[I" ∈ wsX8_add := (List.mem_cons_of_mem _ (List.mem_append_left _ (List.mem_append_left _ (List.mem_of_getElem? (i := 2) rfl))))
set_option maxHeartbeats 4000000 in
set_option maxRecDepth 100000 in
theorem c_X8_add_bad (l : Launch) (D : va_G) (g : Nat → Nat) (m0 sc0 rd0 nw0 tr0 di0 ke0 ik0 cp0 cn0 be0 : Nat) (sz : Nat) (rf : Int32) (ss : Nat) (sp : Nat) (ig : Int32) (lo : Int32) (ac : Nat) (nw : Nat → Int32) (di : Nat → Int32) (factor : Int32) (more : Int32) (hO : rdOk nw) (hac : ac ≤ 14) (hk : ¬ (kc_X8_add nw factor more) = 0) : kMi l D g yX8_add wsX8_add 3 0 0 [.ref m0, .int factor, .int more] [(m0, .inr (8, [.int rf, .ref sc0, .int (nI ss), .int (nI sp), .int ig, .int lo, .ref rd0, .ref nw0, .ref tr0, .ref di0, .int (nI ac), .ref ke0, .ref ik0, .ref cp0, .ref cn0, .ref be0])), (nw0, .inl (g 0, 748, .inl nw)), (di0, .inl (g 0, 10472, .inl di))] sz 0 [(m0, .inr (8, [.int (kc_X8_add nw factor more), .ref sc0, .int (nI ss), .int (nI sp), .int ig, .int lo, .ref rd0, .ref nw0, .ref tr0, .ref di0, .int (nI ac), .ref ke0, .ref ik0, .ref cp0, .ref cn0, .ref be0])), (nw0, .inl (g 0, 748, .inl nw)), (di0, .inl (g 0, 10472, .inl di))] := by
  refine k_enter (nm := "add") (own := RX8) (bytes := cX8_add) (maxL := 4) (ret := (some .int)) (Qf := fun A => kQi D [(m0, .inr (8, [.int (kc_X8_add nw factor more), .ref sc0, .int (nI ss), .int (nI sp), .int ig, .int lo, .ref rd0, .ref nw0, .ref tr0, .ref di0, .int (nI ac), .ref ke0, .ref ik0, .ref cp0, .ref cn0, .ref be0])), (nw0, .inl (g 0, 748, .inl nw)), (di0, .inl (g 0, 10472, .inl di))] A 0) (by decide) rfl rfl rfl (Nat.le_of_ble_eq_true rfl) ?_
  rintro pp ee s mm below meth cc A ls args Q H locs hQ ⟨hx, hb, hr, hml, hown, hts, hlocks, hin⟩ hP hK hD hA hS hE hl
  have hl : lv_has ls 4 [(0, .ref m0), (1, .int factor), (2, .int more)] := hl
  obtain ⟨mn_0, emn_0⟩ : ∃ z, z = (nw 0).toNatClampNeg := ⟨_, rfl⟩
  have hmn : nw 0 = nI mn_0 := by rw [emn_0]; exact (rdOk_mn hO).1
  have hm9 : mn_0 ≤ 10 := by rw [emn_0]; exact (rdOk_mn hO).2
  have kemn_0 : kEq mn_0 (nw 0).toNatClampNeg := emn_0
  clear emn_0
  refine lv_iload_n hx hb dX8_add_0 rfl (lv_at hl 1 rfl) ?_
  refine lv_i2l (v := (Int32.toInt64 factor)) hx hb dX8_add_1 rfl ?_
  refine lv_ldc2 hx hb hown (hts _ qc_X8_add_bad_X8_add_0) dX8_add_2 ?_
  refine lv_ldc2 hx hb hown (hts _ qc_X8_add_bad_X8_add_1) dX8_add_5 ?_
  refine k_ai (wr := [(m0, .inr (8, [.int rf, .ref sc0, .int (nI ss), .int (nI sp), .int ig, .int lo, .ref rd0, .ref nw0, .ref tr0, .ref di0, .int (nI ac), .ref ke0, .ref ik0, .ref cp0, .ref cn0, .ref be0])), (nw0, .inl (g 0, 748, .inl nw)), (di0, .inl (g 0, 10472, .inl di))]) (w2 := [(m0, .inr (8, [.int rf, .ref sc0, .int (nI ss), .int (nI sp), .int ig, .int lo, .ref rd0, .ref nw0, .ref tr0, .ref di0, .int (nI ac), .ref ke0, .ref ik0, .ref cp0, .ref cn0, .ref be0])), (nw0, .inl (g 0, 748, .inl nw)), (di0, .inl (g 0, 10472, .inl di))]) (va_runS (As := [.long (Int32.toInt64 factor), .long (-9), .long 9]) (rest := []) ⟨hx, hb, hml, hown, hts⟩ (c_X8_in l D g H.size (Int32.toInt64 factor) (-9) 9) (va_cwS 3 hts gX8_add_X8_in rfl rfl rfl (by decide +kernel) (k_lvl (by omega) (by decide))) (kPS hP hD hK hS hA hE [] rfl (by decide)) rfl rfl hl.1 rfl (lv_room (Nat.le_of_ble_eq_true rfl)) dX8_add_8 ⟨Nat.le_of_ble_eq_true rfl, Nat.le_of_ble_eq_true rfl⟩) hP hD hS hA [] [0, 1, 2] [0, 1, 2] rfl rfl (by decide) (by decide) rfl (by decide) (fun H locs hP hD hS => ?_)
  refine lv_if_eq (tgt := 25) hx hb dX8_add_11 (by decide) (fun c_1 => ?_) (fun c_1 => ?_)
  · refine lv_iconst (v := 0) hx hb dX8_add_25 (by decide) ?_
    refine lv_istore_n (lv' := [(3, .int 0), (0, .ref m0), (1, .int factor), (2, .int more)]) hx hb dX8_add_26 rfl hl (by decide) rfl (fun ls hl => ?_)
    refine lv_aload_n hx hb dX8_add_27 rfl (lv_at hl 1 rfl) ?_
    refine lv_iload_n hx hb dX8_add_28 rfl (lv_at hl 0 rfl) ?_
    refine lv_if_ne (tgt := 36) hx hb dX8_add_29 (by decide) (fun c_2 => absurd c_2 (by decide)) (fun _ => ?_)
    refine lv_iconst (v := 1) hx hb dX8_add_32 (by decide) ?_
    refine lv_goto (tgt := 52) hx hb dX8_add_33 (by decide) ?_
    refine k_ai (wr := [(nw0, .inl (g 0, 748, .inl nw)), (di0, .inl (g 0, 10472, .inl di))]) (w2 := [(m0, .inr (8, [.int 1, .ref sc0, .int (nI ss), .int (nI sp), .int ig, .int lo, .ref rd0, .ref nw0, .ref tr0, .ref di0, .int (nI ac), .ref ke0, .ref ik0, .ref cp0, .ref cn0, .ref be0])), (nw0, .inl (g 0, 748, .inl nw)), (di0, .inl (g 0, 10472, .inl di))]) (va_runV (As := [.int 1]) (rest := []) ⟨hx, hb, hml, hown, hts⟩ (c_X8_refused1 l D g m0 sc0 rd0 nw0 tr0 di0 ke0 ik0 cp0 cn0 be0 H.size rf ss sp ig lo ac) (cwV 1 hts gX8_add_X8_refused rfl rfl rfl (by decide +kernel) (k_lvl (by omega) (by decide))) (kPV hP hD hK hS hA hE [0] rfl (by decide) 0 8 rfl rfl rfl) rfl rfl hl.1 rfl (lv_room (Nat.le_of_ble_eq_true rfl)) dX8_add_52 ⟨Nat.le_of_ble_eq_true rfl, Nat.le_of_ble_eq_true rfl⟩) hP hD hS hA [0] [1, 2] [2, 0, 1] rfl rfl (by decide) (by decide) rfl (by decide) (fun H locs hP hD hS => ?_)
    refine lv_if_eq (tgt := 60) hx hb dX8_add_55 (by decide) (fun c_3 => absurd c_3 (by decide)) (fun _ => ?_)
    refine lv_iconst (v := 0) hx hb dX8_add_58 (by decide) ?_
    have emn_0 : (nw 0).toNatClampNeg = mn_0 := Eq.symm kemn_0
    subst emn_0
    subst hQ
    exact k_ri hx hb hr hlocks hP hD hS dX8_add_59 (rfl) (by rw [show (kc_X8_add nw factor more) = 1 from (if_pos c_1).trans (rfl)])
  · refine lv_iload_n hx hb dX8_add_14 rfl (lv_at hl 2 rfl) ?_
    refine k_ai (wr := [(m0, .inr (8, [.int rf, .ref sc0, .int (nI ss), .int (nI sp), .int ig, .int lo, .ref rd0, .ref nw0, .ref tr0, .ref di0, .int (nI ac), .ref ke0, .ref ik0, .ref cp0, .ref cn0, .ref be0])), (nw0, .inl (g 0, 748, .inl nw)), (di0, .inl (g 0, 10472, .inl di))]) (w2 := [(m0, .inr (8, [.int rf, .ref sc0, .int (nI ss), .int (nI sp), .int ig, .int lo, .ref rd0, .ref nw0, .ref tr0, .ref di0, .int (nI ac), .ref ke0, .ref ik0, .ref cp0, .ref cn0, .ref be0])), (nw0, .inl (g 0, 748, .inl nw)), (di0, .inl (g 0, 10472, .inl di))]) (va_runS (As := [.int more]) (rest := []) ⟨hx, hb, hml, hown, hts⟩ (c_X8_isSmall l D g H.size more) (va_cwS 1 hts gX8_add_X8_isSmall rfl rfl rfl (by decide +kernel) (k_lvl (by omega) (by decide))) (kPS hP hD hK hS hA hE [] rfl (by decide)) rfl rfl hl.1 rfl (lv_room (Nat.le_of_ble_eq_true rfl)) dX8_add_15 ⟨Nat.le_of_ble_eq_true rfl, Nat.le_of_ble_eq_true rfl⟩) hP hD hS hA [] [0, 1, 2] [0, 1, 2] rfl rfl (by decide) (by decide) rfl (by decide) (fun H locs hP hD hS => ?_)
    refine lv_if_eq (tgt := 25) hx hb dX8_add_18 (by decide) (fun c_4 => ?_) (fun c_4 => ?_)
    · refine lv_iconst (v := 0) hx hb dX8_add_25 (by decide) ?_
      refine lv_istore_n (lv' := [(3, .int 0), (0, .ref m0), (1, .int factor), (2, .int more)]) hx hb dX8_add_26 rfl hl (by decide) rfl (fun ls hl => ?_)
      refine lv_aload_n hx hb dX8_add_27 rfl (lv_at hl 1 rfl) ?_
      refine lv_iload_n hx hb dX8_add_28 rfl (lv_at hl 0 rfl) ?_
      refine lv_if_ne (tgt := 36) hx hb dX8_add_29 (by decide) (fun c_5 => absurd c_5 (by decide)) (fun _ => ?_)
      refine lv_iconst (v := 1) hx hb dX8_add_32 (by decide) ?_
      refine lv_goto (tgt := 52) hx hb dX8_add_33 (by decide) ?_
      refine k_ai (wr := [(nw0, .inl (g 0, 748, .inl nw)), (di0, .inl (g 0, 10472, .inl di))]) (w2 := [(m0, .inr (8, [.int 1, .ref sc0, .int (nI ss), .int (nI sp), .int ig, .int lo, .ref rd0, .ref nw0, .ref tr0, .ref di0, .int (nI ac), .ref ke0, .ref ik0, .ref cp0, .ref cn0, .ref be0])), (nw0, .inl (g 0, 748, .inl nw)), (di0, .inl (g 0, 10472, .inl di))]) (va_runV (As := [.int 1]) (rest := []) ⟨hx, hb, hml, hown, hts⟩ (c_X8_refused1 l D g m0 sc0 rd0 nw0 tr0 di0 ke0 ik0 cp0 cn0 be0 H.size rf ss sp ig lo ac) (cwV 1 hts gX8_add_X8_refused rfl rfl rfl (by decide +kernel) (k_lvl (by omega) (by decide))) (kPV hP hD hK hS hA hE [0] rfl (by decide) 0 8 rfl rfl rfl) rfl rfl hl.1 rfl (lv_room (Nat.le_of_ble_eq_true rfl)) dX8_add_52 ⟨Nat.le_of_ble_eq_true rfl, Nat.le_of_ble_eq_true rfl⟩) hP hD hS hA [0] [1, 2] [2, 0, 1] rfl rfl (by decide) (by decide) rfl (by decide) (fun H locs hP hD hS => ?_)
      refine lv_if_eq (tgt := 60) hx hb dX8_add_55 (by decide) (fun c_6 => absurd c_6 (by decide)) (fun _ => ?_)
      refine lv_iconst (v := 0) hx hb dX8_add_58 (by decide) ?_
      have emn_0 : (nw 0).toNatClampNeg = mn_0 := Eq.symm kemn_0
      subst emn_0
      subst hQ
      exact k_ri hx hb hr hlocks hP hD hS dX8_add_59 (rfl) (by rw [show (kc_X8_add nw factor more) = 1 from (if_neg c_1).trans ((if_pos c_4).trans (rfl))])
    · refine lv_iconst (v := 1) hx hb dX8_add_21 (by decide) ?_
      refine lv_goto (tgt := 26) hx hb dX8_add_22 (by decide) ?_
      refine lv_istore_n (lv' := [(3, .int 1), (0, .ref m0), (1, .int factor), (2, .int more)]) hx hb dX8_add_26 rfl hl (by decide) rfl (fun ls hl => ?_)
      refine lv_aload_n hx hb dX8_add_27 rfl (lv_at hl 1 rfl) ?_
      refine lv_iload_n hx hb dX8_add_28 rfl (lv_at hl 0 rfl) ?_
      refine lv_if_ne (tgt := 36) hx hb dX8_add_29 (by decide) (fun _ => ?_) (fun c_7 => absurd c_7 (by decide))
      refine lv_aload_n hx hb dX8_add_36 rfl (lv_at hl 1 rfl) ?_
      refine va_get (D := D) (ci := 8) (v := .ref nw0) (C := RX8) (T := TX8) (N := 16) hx hb hts (fun w h => (List.mem_cons_of_mem _ (List.mem_append_right _ h))) hown hK hP 0 rfl rfl 7 (by decide) (hts _ qc_X8_add_bad_X8_add_2) (fun _ h9 => h9) rfl dX8_add_37 ?_
      refine lv_iconst (v := 0) hx hb dX8_add_40 (by decide) ?_
      refine va_iald (i := 0) hx hb hK hP 1 0 rfl rfl (vp_in_nI (n := 0) (by decide) (by decide)) dX8_add_41 ?_
      refine k_top (y := (nw 0)) rfl ?_
      refine k_top (y := (nI mn_0)) (hmn) ?_
      refine lv_bipush (v := 10) hx hb dX8_add_42 (by decide) ?_
      refine lv_icmp_ne (tgt := 51) hx hb dX8_add_44 (by decide) (fun c_8 => ?_) (fun c_8 => ?_)
      · have c_8 : ¬ (mn_0 = 10) := fun h9 => c_8 ((nI_eq (a := mn_0) (b := 10) (by omega) (by omega)).mpr h9)
        refine lv_iconst (v := 0) hx hb dX8_add_51 (by decide) ?_
        have emn_0 : (nw 0).toNatClampNeg = mn_0 := Eq.symm kemn_0
        subst emn_0
        have h9 : (kc_X8_add nw factor more) = 0 := (if_neg c_1).trans ((if_neg c_4).trans ((if_neg c_8).trans (rfl)))
        exact absurd h9 hk
      · have c_8 : mn_0 = 10 := (nI_eq (a := mn_0) (b := 10) (by omega) (by omega)).mp c_8
        refine lv_iconst (v := 2) hx hb dX8_add_47 (by decide) ?_
        refine lv_goto (tgt := 52) hx hb dX8_add_48 (by decide) ?_
        refine k_ai (wr := [(nw0, .inl (g 0, 748, .inl nw)), (di0, .inl (g 0, 10472, .inl di))]) (w2 := [(m0, .inr (8, [.int 2, .ref sc0, .int (nI ss), .int (nI sp), .int ig, .int lo, .ref rd0, .ref nw0, .ref tr0, .ref di0, .int (nI ac), .ref ke0, .ref ik0, .ref cp0, .ref cn0, .ref be0])), (nw0, .inl (g 0, 748, .inl nw)), (di0, .inl (g 0, 10472, .inl di))]) (va_runV (As := [.int 2]) (rest := []) ⟨hx, hb, hml, hown, hts⟩ (c_X8_refused2 l D g m0 sc0 rd0 nw0 tr0 di0 ke0 ik0 cp0 cn0 be0 H.size rf ss sp ig lo ac) (cwV 1 hts gX8_add_X8_refused rfl rfl rfl (by decide +kernel) (k_lvl (by omega) (by decide))) (kPV hP hD hK hS hA hE [0] rfl (by decide) 0 8 rfl rfl rfl) rfl rfl hl.1 rfl (lv_room (Nat.le_of_ble_eq_true rfl)) dX8_add_52 ⟨Nat.le_of_ble_eq_true rfl, Nat.le_of_ble_eq_true rfl⟩) hP hD hS hA [0] [1, 2] [2, 0, 1] rfl rfl (by decide) (by decide) rfl (by decide) (fun H locs hP hD hS => ?_)
        refine lv_if_eq (tgt := 60) hx hb dX8_add_55 (by decide) (fun c_9 => absurd c_9 (by decide)) (fun _ => ?_)
        refine lv_iconst (v := 0) hx hb dX8_add_58 (by decide) ?_
        have emn_0 : (nw 0).toNatClampNeg = mn_0 := Eq.symm kemn_0
        subst emn_0
        subst hQ
        exact k_ri hx hb hr hlocks hP hD hS dX8_add_59 (rfl) (by rw [show (kc_X8_add nw factor more) = 2 from (if_neg c_1).trans ((if_neg c_4).trans ((if_pos c_8).trans (rfl)))])
/-- what call answers before it does anything: 0, or which of its exceptions is thrown -/
def kc_X8_call (nw : Nat → Int32) (pa : Int32) (x : Int32) : Int32 :=
  if (f_X8_isPart nw pa) = 0 then
    1
  else
    if (f_X8_isNumber x) = 0 then
      2
    else
      0
def f_X8_call (ac : Nat) (nw : Nat → Int32) (di : Nat → Int32) (cp : Nat → Int32) (cn : Nat → Int32) (pa : Int32) (x : Int32) : Int32 × Nat × (Nat → Int32) × (Nat → Int32) × (Nat → Int32) × (Nat → Int32) :=
  let mn_0 := (nw 0).toNatClampNeg
  let pa_0 := pa.toNatClampNeg
  let v_4 := (f_X8_remember ac nw di)
  let v_5 := (h_X8_callIn cp cn nw pa_0 x)
  (v_5.1, v_4.1, v_4.2, v_5.2.1, v_5.2.2.1, v_5.2.2.2)
theorem qX8_call_0 : Cond.fieldLink RX8 16 "BlameChainsModel" "now" "[I" ∈ wsX8_call := (List.mem_cons_of_mem _ (List.mem_append_left _ (List.mem_append_left _ (List.mem_of_getElem? (i := 0) rfl))))
set_option maxHeartbeats 4000000 in
set_option maxRecDepth 100000 in
theorem c_X8_call (l : Launch) (D : va_G) (g : Nat → Nat) (m0 sc0 rd0 nw0 tr0 di0 ke0 ik0 cp0 cn0 be0 : Nat) (sz : Nat) (rf : Int32) (ss : Nat) (sp : Nat) (ig : Int32) (lo : Int32) (ac : Nat) (nw : Nat → Int32) (di : Nat → Int32) (cp : Nat → Int32) (cn : Nat → Int32) (pa : Int32) (x : Int32) (hO : rdOk nw) (hac : ac ≤ 14) (hk : (kc_X8_call nw pa x) = 0) : kMi l D g yX8_call wsX8_call 6 0 0 [.ref m0, .int pa, .int x] [(m0, .inr (8, [.int rf, .ref sc0, .int (nI ss), .int (nI sp), .int ig, .int lo, .ref rd0, .ref nw0, .ref tr0, .ref di0, .int (nI ac), .ref ke0, .ref ik0, .ref cp0, .ref cn0, .ref be0])), (nw0, .inl (g 0, 748, .inl nw)), (di0, .inl (g 0, 10472, .inl di)), (cp0, .inl (g 0, 10, .inl cp)), (cn0, .inl (g 0, 10, .inl cn))] sz ((f_X8_call ac nw di cp cn pa x).1) [(m0, .inr (8, [.int 0, .ref sc0, .int (nI ss), .int (nI sp), .int ig, .int lo, .ref rd0, .ref nw0, .ref tr0, .ref di0, .int (nI ((f_X8_call ac nw di cp cn pa x).2.1)), .ref ke0, .ref ik0, .ref cp0, .ref cn0, .ref be0])), (nw0, .inl (g 0, 748, .inl ((f_X8_call ac nw di cp cn pa x).2.2.2.1))), (di0, .inl (g 0, 10472, .inl ((f_X8_call ac nw di cp cn pa x).2.2.1))), (cp0, .inl (g 0, 10, .inl ((f_X8_call ac nw di cp cn pa x).2.2.2.2.1))), (cn0, .inl (g 0, 10, .inl ((f_X8_call ac nw di cp cn pa x).2.2.2.2.2)))] := by
  refine k_enter (nm := "call") (own := RX8) (bytes := cX8_call) (maxL := 3) (ret := (some .int)) (Qf := fun A => kQi D [(m0, .inr (8, [.int 0, .ref sc0, .int (nI ss), .int (nI sp), .int ig, .int lo, .ref rd0, .ref nw0, .ref tr0, .ref di0, .int (nI ((f_X8_call ac nw di cp cn pa x).2.1)), .ref ke0, .ref ik0, .ref cp0, .ref cn0, .ref be0])), (nw0, .inl (g 0, 748, .inl ((f_X8_call ac nw di cp cn pa x).2.2.2.1))), (di0, .inl (g 0, 10472, .inl ((f_X8_call ac nw di cp cn pa x).2.2.1))), (cp0, .inl (g 0, 10, .inl ((f_X8_call ac nw di cp cn pa x).2.2.2.2.1))), (cn0, .inl (g 0, 10, .inl ((f_X8_call ac nw di cp cn pa x).2.2.2.2.2)))] A ((f_X8_call ac nw di cp cn pa x).1)) (by decide) rfl rfl rfl (Nat.le_of_ble_eq_true rfl) ?_
  rintro pp ee s mm below meth cc A ls args Q H locs hQ ⟨hx, hb, hr, hml, hown, hts, hlocks, hin⟩ hP hK hD hA hS hE hl
  have hl : lv_has ls 3 [(0, .ref m0), (1, .int pa), (2, .int x)] := hl
  obtain ⟨mn_0, emn_0⟩ : ∃ z, z = (nw 0).toNatClampNeg := ⟨_, rfl⟩
  have hmn : nw 0 = nI mn_0 := by rw [emn_0]; exact (rdOk_mn hO).1
  have hm9 : mn_0 ≤ 10 := by rw [emn_0]; exact (rdOk_mn hO).2
  have kemn_0 : kEq mn_0 (nw 0).toNatClampNeg := emn_0
  clear emn_0
  refine lv_aload_n hx hb dX8_call_0 rfl (lv_at hl 0 rfl) ?_
  refine lv_aload_n hx hb dX8_call_1 rfl (lv_at hl 0 rfl) ?_
  refine lv_iload_n hx hb dX8_call_2 rfl (lv_at hl 1 rfl) ?_
  refine k_ai (wr := [(di0, .inl (g 0, 10472, .inl di)), (cp0, .inl (g 0, 10, .inl cp)), (cn0, .inl (g 0, 10, .inl cn))]) (w2 := [(m0, .inr (8, [.int rf, .ref sc0, .int (nI ss), .int (nI sp), .int ig, .int lo, .ref rd0, .ref nw0, .ref tr0, .ref di0, .int (nI ac), .ref ke0, .ref ik0, .ref cp0, .ref cn0, .ref be0])), (nw0, .inl (g 0, 748, .inl nw)), (di0, .inl (g 0, 10472, .inl di)), (cp0, .inl (g 0, 10, .inl cp)), (cn0, .inl (g 0, 10, .inl cn))]) (va_runV (As := [.int pa]) (rest := [.ref m0]) ⟨hx, hb, hml, hown, hts⟩ (c_X8_isPart l D g m0 sc0 rd0 nw0 tr0 di0 ke0 ik0 cp0 cn0 be0 H.size rf ss sp ig lo ac nw pa) (cwV 1 hts gX8_call_X8_isPart rfl rfl rfl (by decide +kernel) (k_lvl (by omega) (by decide))) (kPV hP hD hK hS hA hE [0, 1] rfl (by decide) 0 8 rfl rfl rfl) rfl rfl hl.1 rfl (lv_room (Nat.le_of_ble_eq_true rfl)) dX8_call_3 ⟨Nat.le_of_ble_eq_true rfl, Nat.le_of_ble_eq_true rfl⟩) hP hD hS hA [0, 1] [2, 3, 4] [3, 4, 0, 1, 2] rfl rfl (by decide) (by decide) rfl (by decide) (fun H locs hP hD hS => ?_)
  refine lv_if_ne (tgt := 13) hx hb dX8_call_6 (by decide) (fun c_1 => ?_) (fun c_1 => ?_)
  · refine lv_iload_n hx hb dX8_call_13 rfl (lv_at hl 2 rfl) ?_
    refine k_ai (wr := [(m0, .inr (8, [.int rf, .ref sc0, .int (nI ss), .int (nI sp), .int ig, .int lo, .ref rd0, .ref nw0, .ref tr0, .ref di0, .int (nI ac), .ref ke0, .ref ik0, .ref cp0, .ref cn0, .ref be0])), (nw0, .inl (g 0, 748, .inl nw)), (di0, .inl (g 0, 10472, .inl di)), (cp0, .inl (g 0, 10, .inl cp)), (cn0, .inl (g 0, 10, .inl cn))]) (w2 := [(m0, .inr (8, [.int rf, .ref sc0, .int (nI ss), .int (nI sp), .int ig, .int lo, .ref rd0, .ref nw0, .ref tr0, .ref di0, .int (nI ac), .ref ke0, .ref ik0, .ref cp0, .ref cn0, .ref be0])), (nw0, .inl (g 0, 748, .inl nw)), (di0, .inl (g 0, 10472, .inl di)), (cp0, .inl (g 0, 10, .inl cp)), (cn0, .inl (g 0, 10, .inl cn))]) (va_runS (As := [.int x]) (rest := [.ref m0]) ⟨hx, hb, hml, hown, hts⟩ (c_X8_isNumber l D g H.size x) (va_cwS 1 hts gX8_call_X8_isNumber rfl rfl rfl (by decide +kernel) (k_lvl (by omega) (by decide))) (kPS hP hD hK hS hA hE [] rfl (by decide)) rfl rfl hl.1 rfl (lv_room (Nat.le_of_ble_eq_true rfl)) dX8_call_14 ⟨Nat.le_of_ble_eq_true rfl, Nat.le_of_ble_eq_true rfl⟩) hP hD hS hA [] [0, 1, 2, 3, 4] [0, 1, 2, 3, 4] rfl rfl (by decide) (by decide) rfl (by decide) (fun H locs hP hD hS => ?_)
    refine lv_if_eq (tgt := 24) hx hb dX8_call_17 (by decide) (fun c_2 => ?_) (fun c_2 => ?_)
    · refine lv_iconst (v := 2) hx hb dX8_call_24 (by decide) ?_
      have emn_0 : (nw 0).toNatClampNeg = mn_0 := Eq.symm kemn_0
      subst emn_0
      have h9 : (kc_X8_call nw pa x) = 2 := (if_neg c_1).trans ((if_pos c_2).trans (rfl))
      rw [hk] at h9
      exact absurd h9 (by decide)
    · refine lv_iconst (v := 0) hx hb dX8_call_20 (by decide) ?_
      refine lv_goto (tgt := 25) hx hb dX8_call_21 (by decide) ?_
      refine k_ai (wr := [(nw0, .inl (g 0, 748, .inl nw)), (di0, .inl (g 0, 10472, .inl di)), (cp0, .inl (g 0, 10, .inl cp)), (cn0, .inl (g 0, 10, .inl cn))]) (w2 := [(m0, .inr (8, [.int 0, .ref sc0, .int (nI ss), .int (nI sp), .int ig, .int lo, .ref rd0, .ref nw0, .ref tr0, .ref di0, .int (nI ac), .ref ke0, .ref ik0, .ref cp0, .ref cn0, .ref be0])), (nw0, .inl (g 0, 748, .inl nw)), (di0, .inl (g 0, 10472, .inl di)), (cp0, .inl (g 0, 10, .inl cp)), (cn0, .inl (g 0, 10, .inl cn))]) (va_runV (As := [.int 0]) (rest := []) ⟨hx, hb, hml, hown, hts⟩ (c_X8_refused0 l D g m0 sc0 rd0 nw0 tr0 di0 ke0 ik0 cp0 cn0 be0 H.size rf ss sp ig lo ac) (cwV 1 hts gX8_call_X8_refused rfl rfl rfl (by decide +kernel) (k_lvl (by omega) (by decide))) (kPV hP hD hK hS hA hE [0] rfl (by decide) 0 8 rfl rfl rfl) rfl rfl hl.1 rfl (lv_room (Nat.le_of_ble_eq_true rfl)) dX8_call_25 ⟨Nat.le_of_ble_eq_true rfl, Nat.le_of_ble_eq_true rfl⟩) hP hD hS hA [0] [1, 2, 3, 4] [4, 0, 1, 2, 3] rfl rfl (by decide) (by decide) rfl (by decide) (fun H locs hP hD hS => ?_)
      refine lv_if_eq (tgt := 33) hx hb dX8_call_28 (by decide) (fun _ => ?_) (fun c_3 => absurd c_3 (by decide))
      obtain ⟨pa_0, epa_0⟩ : ∃ z, z = pa.toNatClampNeg := ⟨_, rfl⟩
      have qpa_0 : pa = nI pa_0 := by rw [epa_0]; exact (isPart_N c_1 hmn hm9).1
      have bpa_0 : pa_0 < mn_0 := by rw [epa_0]; exact (isPart_N c_1 hmn hm9).2
      have kepa_0 : kEq pa_0 pa.toNatClampNeg := epa_0
      clear epa_0
      have hl : lv_has ls 3 [(0, .ref m0), (1, .int (nI pa_0)), (2, .int x)] := by
        have h9 := hl
        rw [qpa_0] at h9
        exact h9
      refine lv_aload_n hx hb dX8_call_33 rfl (lv_at hl 0 rfl) ?_
      have hC := c_X8_remember l D g m0 sc0 rd0 nw0 tr0 di0 ke0 ik0 cp0 cn0 be0 H.size 0 ss sp ig lo ac nw di (by omega)
      obtain ⟨v_4, ev_4⟩ : ∃ z, z = (f_X8_remember ac nw di) := ⟨_, rfl⟩
      rw [← ev_4] at hC
      have kev_4 : kEq v_4 (f_X8_remember ac nw di) := ev_4
      clear ev_4
      refine k_av (wr := [(cp0, .inl (g 0, 10, .inl cp)), (cn0, .inl (g 0, 10, .inl cn))]) (w2 := [(m0, .inr (8, [.int 0, .ref sc0, .int (nI ss), .int (nI sp), .int ig, .int lo, .ref rd0, .ref nw0, .ref tr0, .ref di0, .int (nI v_4.1), .ref ke0, .ref ik0, .ref cp0, .ref cn0, .ref be0])), (nw0, .inl (g 0, 748, .inl nw)), (di0, .inl (g 0, 10472, .inl v_4.2)), (cp0, .inl (g 0, 10, .inl cp)), (cn0, .inl (g 0, 10, .inl cn))]) (va_runV (As := []) (rest := []) ⟨hx, hb, hml, hown, hts⟩ hC (cwV 0 hts gX8_call_X8_remember rfl rfl rfl (by decide +kernel) (k_lvl (by omega) (by decide))) (kPV hP hD hK hS hA hE [0, 1, 2] rfl (by decide) 0 8 rfl rfl rfl) rfl rfl hl.1 rfl (lv_room (Nat.le_of_ble_eq_true rfl)) dX8_call_34 ⟨Nat.le_of_ble_eq_true rfl, Nat.le_of_ble_eq_true rfl⟩) hP hD hS hA [0, 1, 2] [3, 4] [2, 3, 4, 0, 1] rfl rfl (by decide) (by decide) rfl (by decide) (fun H locs hP hD hS => ?_)
      refine lv_aload_n hx hb dX8_call_37 rfl (lv_at hl 0 rfl) ?_
      refine lv_aload_n hx hb dX8_call_38 rfl (lv_at hl 0 rfl) ?_
      refine va_get (D := D) (ci := 8) (v := .ref nw0) (C := RX8) (T := TX8) (N := 16) hx hb hts (fun w h => (List.mem_cons_of_mem _ (List.mem_append_right _ h))) hown hK hP 0 rfl rfl 7 (by decide) (hts _ qX8_call_0) (fun _ h9 => h9) rfl dX8_call_39 ?_
      refine lv_iload_n hx hb dX8_call_42 rfl (lv_at hl 1 rfl) ?_
      refine lv_iload_n hx hb dX8_call_43 rfl (lv_at hl 2 rfl) ?_
      have hC := c_X8_callInH l D g m0 nw0 sc0 rd0 nw0 tr0 di0 ke0 ik0 cp0 cn0 be0 H.size 0 ss sp ig lo v_4.1 cp cn nw pa_0 x (by omega) hO.2
      obtain ⟨v_5, ev_5⟩ : ∃ z, z = (h_X8_callIn cp cn nw pa_0 x) := ⟨_, rfl⟩
      rw [← ev_5] at hC
      have kev_5 : kEq v_5 (h_X8_callIn cp cn nw pa_0 x) := ev_5
      clear ev_5
      refine k_ai (wr := [(di0, .inl (g 0, 10472, .inl v_4.2))]) (w2 := [(m0, .inr (8, [.int 0, .ref sc0, .int (nI ss), .int (nI sp), .int ig, .int lo, .ref rd0, .ref nw0, .ref tr0, .ref di0, .int (nI v_4.1), .ref ke0, .ref ik0, .ref cp0, .ref cn0, .ref be0])), (nw0, .inl (g 0, 748, .inl v_5.2.1)), (di0, .inl (g 0, 10472, .inl v_4.2)), (cp0, .inl (g 0, 10, .inl v_5.2.2.1)), (cn0, .inl (g 0, 10, .inl v_5.2.2.2))]) (va_runV (As := [.ref nw0, .int (nI pa_0), .int x]) (rest := []) ⟨hx, hb, hml, hown, hts⟩ hC (cwV 3 hts gX8_call_X8_callIn rfl rfl rfl (by decide +kernel) (k_lvl (by omega) (by decide))) (kPV hP hD hK hS hA hE [0, 3, 4, 1] rfl (by decide) 0 8 rfl rfl rfl) rfl rfl hl.1 rfl (lv_room (Nat.le_of_ble_eq_true rfl)) dX8_call_44 ⟨Nat.le_of_ble_eq_true rfl, Nat.le_of_ble_eq_true rfl⟩) hP hD hS hA [0, 3, 4, 1] [2] [1, 4, 0, 2, 3] rfl rfl (by decide) (by decide) rfl (by decide) (fun H locs hP hD hS => ?_)
      have ev_5 : (h_X8_callIn cp cn nw pa_0 x) = v_5 := Eq.symm kev_5
      have ev_4 : (f_X8_remember ac nw di) = v_4 := Eq.symm kev_4
      have epa_0 : pa.toNatClampNeg = pa_0 := Eq.symm kepa_0
      have emn_0 : (nw 0).toNatClampNeg = mn_0 := Eq.symm kemn_0
      have hE2 : (f_X8_call ac nw di cp cn pa x) = (v_5.1, v_4.1, v_4.2, v_5.2.1, v_5.2.2.1, v_5.2.2.2) := by
        subst ev_5
        subst ev_4
        subst epa_0
        subst emn_0
        exact rfl
      subst hQ
      exact k_ri hx hb hr hlocks hP hD hS dX8_call_47 (by rw [hE2]) (by rw [hE2])
  · refine lv_iconst (v := 1) hx hb dX8_call_9 (by decide) ?_
    refine lv_goto (tgt := 25) hx hb dX8_call_10 (by decide) ?_
    have emn_0 : (nw 0).toNatClampNeg = mn_0 := Eq.symm kemn_0
    subst emn_0
    have h9 : (kc_X8_call nw pa x) = 1 := (if_pos c_1).trans (rfl)
    rw [hk] at h9
    exact absurd h9 (by decide)
set_option maxHeartbeats 4000000 in
set_option maxRecDepth 100000 in
theorem c_X8_call_bad (l : Launch) (D : va_G) (g : Nat → Nat) (m0 sc0 rd0 nw0 tr0 di0 ke0 ik0 cp0 cn0 be0 : Nat) (sz : Nat) (rf : Int32) (ss : Nat) (sp : Nat) (ig : Int32) (lo : Int32) (ac : Nat) (nw : Nat → Int32) (di : Nat → Int32) (cp : Nat → Int32) (cn : Nat → Int32) (pa : Int32) (x : Int32) (hO : rdOk nw) (hac : ac ≤ 14) (hk : ¬ (kc_X8_call nw pa x) = 0) : kMi l D g yX8_call wsX8_call 6 0 0 [.ref m0, .int pa, .int x] [(m0, .inr (8, [.int rf, .ref sc0, .int (nI ss), .int (nI sp), .int ig, .int lo, .ref rd0, .ref nw0, .ref tr0, .ref di0, .int (nI ac), .ref ke0, .ref ik0, .ref cp0, .ref cn0, .ref be0])), (nw0, .inl (g 0, 748, .inl nw)), (di0, .inl (g 0, 10472, .inl di)), (cp0, .inl (g 0, 10, .inl cp)), (cn0, .inl (g 0, 10, .inl cn))] sz 0 [(m0, .inr (8, [.int (kc_X8_call nw pa x), .ref sc0, .int (nI ss), .int (nI sp), .int ig, .int lo, .ref rd0, .ref nw0, .ref tr0, .ref di0, .int (nI ac), .ref ke0, .ref ik0, .ref cp0, .ref cn0, .ref be0])), (nw0, .inl (g 0, 748, .inl nw)), (di0, .inl (g 0, 10472, .inl di)), (cp0, .inl (g 0, 10, .inl cp)), (cn0, .inl (g 0, 10, .inl cn))] := by
  refine k_enter (nm := "call") (own := RX8) (bytes := cX8_call) (maxL := 3) (ret := (some .int)) (Qf := fun A => kQi D [(m0, .inr (8, [.int (kc_X8_call nw pa x), .ref sc0, .int (nI ss), .int (nI sp), .int ig, .int lo, .ref rd0, .ref nw0, .ref tr0, .ref di0, .int (nI ac), .ref ke0, .ref ik0, .ref cp0, .ref cn0, .ref be0])), (nw0, .inl (g 0, 748, .inl nw)), (di0, .inl (g 0, 10472, .inl di)), (cp0, .inl (g 0, 10, .inl cp)), (cn0, .inl (g 0, 10, .inl cn))] A 0) (by decide) rfl rfl rfl (Nat.le_of_ble_eq_true rfl) ?_
  rintro pp ee s mm below meth cc A ls args Q H locs hQ ⟨hx, hb, hr, hml, hown, hts, hlocks, hin⟩ hP hK hD hA hS hE hl
  have hl : lv_has ls 3 [(0, .ref m0), (1, .int pa), (2, .int x)] := hl
  refine lv_aload_n hx hb dX8_call_0 rfl (lv_at hl 0 rfl) ?_
  refine lv_aload_n hx hb dX8_call_1 rfl (lv_at hl 0 rfl) ?_
  refine lv_iload_n hx hb dX8_call_2 rfl (lv_at hl 1 rfl) ?_
  refine k_ai (wr := [(di0, .inl (g 0, 10472, .inl di)), (cp0, .inl (g 0, 10, .inl cp)), (cn0, .inl (g 0, 10, .inl cn))]) (w2 := [(m0, .inr (8, [.int rf, .ref sc0, .int (nI ss), .int (nI sp), .int ig, .int lo, .ref rd0, .ref nw0, .ref tr0, .ref di0, .int (nI ac), .ref ke0, .ref ik0, .ref cp0, .ref cn0, .ref be0])), (nw0, .inl (g 0, 748, .inl nw)), (di0, .inl (g 0, 10472, .inl di)), (cp0, .inl (g 0, 10, .inl cp)), (cn0, .inl (g 0, 10, .inl cn))]) (va_runV (As := [.int pa]) (rest := [.ref m0]) ⟨hx, hb, hml, hown, hts⟩ (c_X8_isPart l D g m0 sc0 rd0 nw0 tr0 di0 ke0 ik0 cp0 cn0 be0 H.size rf ss sp ig lo ac nw pa) (cwV 1 hts gX8_call_X8_isPart rfl rfl rfl (by decide +kernel) (k_lvl (by omega) (by decide))) (kPV hP hD hK hS hA hE [0, 1] rfl (by decide) 0 8 rfl rfl rfl) rfl rfl hl.1 rfl (lv_room (Nat.le_of_ble_eq_true rfl)) dX8_call_3 ⟨Nat.le_of_ble_eq_true rfl, Nat.le_of_ble_eq_true rfl⟩) hP hD hS hA [0, 1] [2, 3, 4] [3, 4, 0, 1, 2] rfl rfl (by decide) (by decide) rfl (by decide) (fun H locs hP hD hS => ?_)
  refine lv_if_ne (tgt := 13) hx hb dX8_call_6 (by decide) (fun c_1 => ?_) (fun c_1 => ?_)
  · refine lv_iload_n hx hb dX8_call_13 rfl (lv_at hl 2 rfl) ?_
    refine k_ai (wr := [(m0, .inr (8, [.int rf, .ref sc0, .int (nI ss), .int (nI sp), .int ig, .int lo, .ref rd0, .ref nw0, .ref tr0, .ref di0, .int (nI ac), .ref ke0, .ref ik0, .ref cp0, .ref cn0, .ref be0])), (nw0, .inl (g 0, 748, .inl nw)), (di0, .inl (g 0, 10472, .inl di)), (cp0, .inl (g 0, 10, .inl cp)), (cn0, .inl (g 0, 10, .inl cn))]) (w2 := [(m0, .inr (8, [.int rf, .ref sc0, .int (nI ss), .int (nI sp), .int ig, .int lo, .ref rd0, .ref nw0, .ref tr0, .ref di0, .int (nI ac), .ref ke0, .ref ik0, .ref cp0, .ref cn0, .ref be0])), (nw0, .inl (g 0, 748, .inl nw)), (di0, .inl (g 0, 10472, .inl di)), (cp0, .inl (g 0, 10, .inl cp)), (cn0, .inl (g 0, 10, .inl cn))]) (va_runS (As := [.int x]) (rest := [.ref m0]) ⟨hx, hb, hml, hown, hts⟩ (c_X8_isNumber l D g H.size x) (va_cwS 1 hts gX8_call_X8_isNumber rfl rfl rfl (by decide +kernel) (k_lvl (by omega) (by decide))) (kPS hP hD hK hS hA hE [] rfl (by decide)) rfl rfl hl.1 rfl (lv_room (Nat.le_of_ble_eq_true rfl)) dX8_call_14 ⟨Nat.le_of_ble_eq_true rfl, Nat.le_of_ble_eq_true rfl⟩) hP hD hS hA [] [0, 1, 2, 3, 4] [0, 1, 2, 3, 4] rfl rfl (by decide) (by decide) rfl (by decide) (fun H locs hP hD hS => ?_)
    refine lv_if_eq (tgt := 24) hx hb dX8_call_17 (by decide) (fun c_2 => ?_) (fun c_2 => ?_)
    · refine lv_iconst (v := 2) hx hb dX8_call_24 (by decide) ?_
      refine k_ai (wr := [(nw0, .inl (g 0, 748, .inl nw)), (di0, .inl (g 0, 10472, .inl di)), (cp0, .inl (g 0, 10, .inl cp)), (cn0, .inl (g 0, 10, .inl cn))]) (w2 := [(m0, .inr (8, [.int 2, .ref sc0, .int (nI ss), .int (nI sp), .int ig, .int lo, .ref rd0, .ref nw0, .ref tr0, .ref di0, .int (nI ac), .ref ke0, .ref ik0, .ref cp0, .ref cn0, .ref be0])), (nw0, .inl (g 0, 748, .inl nw)), (di0, .inl (g 0, 10472, .inl di)), (cp0, .inl (g 0, 10, .inl cp)), (cn0, .inl (g 0, 10, .inl cn))]) (va_runV (As := [.int 2]) (rest := []) ⟨hx, hb, hml, hown, hts⟩ (c_X8_refused2 l D g m0 sc0 rd0 nw0 tr0 di0 ke0 ik0 cp0 cn0 be0 H.size rf ss sp ig lo ac) (cwV 1 hts gX8_call_X8_refused rfl rfl rfl (by decide +kernel) (k_lvl (by omega) (by decide))) (kPV hP hD hK hS hA hE [0] rfl (by decide) 0 8 rfl rfl rfl) rfl rfl hl.1 rfl (lv_room (Nat.le_of_ble_eq_true rfl)) dX8_call_25 ⟨Nat.le_of_ble_eq_true rfl, Nat.le_of_ble_eq_true rfl⟩) hP hD hS hA [0] [1, 2, 3, 4] [4, 0, 1, 2, 3] rfl rfl (by decide) (by decide) rfl (by decide) (fun H locs hP hD hS => ?_)
      refine lv_if_eq (tgt := 33) hx hb dX8_call_28 (by decide) (fun c_3 => absurd c_3 (by decide)) (fun _ => ?_)
      refine lv_iconst (v := 0) hx hb dX8_call_31 (by decide) ?_
      subst hQ
      exact k_ri hx hb hr hlocks hP hD hS dX8_call_32 (rfl) (by rw [show (kc_X8_call nw pa x) = 2 from (if_neg c_1).trans ((if_pos c_2).trans (rfl))])
    · refine lv_iconst (v := 0) hx hb dX8_call_20 (by decide) ?_
      refine lv_goto (tgt := 25) hx hb dX8_call_21 (by decide) ?_
      have h9 : (kc_X8_call nw pa x) = 0 := (if_neg c_1).trans ((if_neg c_2).trans (rfl))
      exact absurd h9 hk
  · refine lv_iconst (v := 1) hx hb dX8_call_9 (by decide) ?_
    refine lv_goto (tgt := 25) hx hb dX8_call_10 (by decide) ?_
    refine k_ai (wr := [(nw0, .inl (g 0, 748, .inl nw)), (di0, .inl (g 0, 10472, .inl di)), (cp0, .inl (g 0, 10, .inl cp)), (cn0, .inl (g 0, 10, .inl cn))]) (w2 := [(m0, .inr (8, [.int 1, .ref sc0, .int (nI ss), .int (nI sp), .int ig, .int lo, .ref rd0, .ref nw0, .ref tr0, .ref di0, .int (nI ac), .ref ke0, .ref ik0, .ref cp0, .ref cn0, .ref be0])), (nw0, .inl (g 0, 748, .inl nw)), (di0, .inl (g 0, 10472, .inl di)), (cp0, .inl (g 0, 10, .inl cp)), (cn0, .inl (g 0, 10, .inl cn))]) (va_runV (As := [.int 1]) (rest := []) ⟨hx, hb, hml, hown, hts⟩ (c_X8_refused1 l D g m0 sc0 rd0 nw0 tr0 di0 ke0 ik0 cp0 cn0 be0 H.size rf ss sp ig lo ac) (cwV 1 hts gX8_call_X8_refused rfl rfl rfl (by decide +kernel) (k_lvl (by omega) (by decide))) (kPV hP hD hK hS hA hE [0] rfl (by decide) 0 8 rfl rfl rfl) rfl rfl hl.1 rfl (lv_room (Nat.le_of_ble_eq_true rfl)) dX8_call_25 ⟨Nat.le_of_ble_eq_true rfl, Nat.le_of_ble_eq_true rfl⟩) hP hD hS hA [0] [1, 2, 3, 4] [4, 0, 1, 2, 3] rfl rfl (by decide) (by decide) rfl (by decide) (fun H locs hP hD hS => ?_)
    refine lv_if_eq (tgt := 33) hx hb dX8_call_28 (by decide) (fun c_4 => absurd c_4 (by decide)) (fun _ => ?_)
    refine lv_iconst (v := 0) hx hb dX8_call_31 (by decide) ?_
    subst hQ
    exact k_ri hx hb hr hlocks hP hD hS dX8_call_32 (rfl) (by rw [show (kc_X8_call nw pa x) = 1 from (if_pos c_1).trans (rfl)])
/-- what net answers before it does anything: 0, or which of its exceptions is thrown -/
def kc_X8_net (nw : Nat → Int32) (pa : Int32) (net : Int32) : Int32 :=
  if (f_X8_isPart nw pa) = 0 then
    1
  else
    if net = (-10000) then
      0
    else
      if (f_X8_isSmall net) = 0 then
        2
      else
        0
def f_X8_net (ac : Nat) (nw : Nat → Int32) (di : Nat → Int32) (pa : Int32) (net : Int32) : Int32 × Nat × (Nat → Int32) × (Nat → Int32) :=
  let mn_0 := (nw 0).toNatClampNeg
  let pa_0 := pa.toNatClampNeg
  let v_4 := (f_X8_remember ac nw di)
  let v_7 := (f_X8_remember ac nw di)
  if net = (-10000) then
    ((nw (1 + 8 * pa_0 + 4)), v_4.1, v_4.2, (upd nw (1 + 8 * pa_0 + 4) net))
  else
    ((nw (1 + 8 * pa_0 + 4)), v_7.1, v_7.2, (upd nw (1 + 8 * pa_0 + 4) net))
theorem qX8_net_0 : Cond.fieldLink RX8 16 "BlameChainsModel" "now" "[I" ∈ wsX8_net := (List.mem_cons_of_mem _ (List.mem_append_left _ (List.mem_append_left _ (List.mem_of_getElem? (i := 0) rfl))))
set_option maxHeartbeats 4000000 in
set_option maxRecDepth 100000 in
theorem c_X8_net (l : Launch) (D : va_G) (g : Nat → Nat) (m0 sc0 rd0 nw0 tr0 di0 ke0 ik0 cp0 cn0 be0 : Nat) (sz : Nat) (rf : Int32) (ss : Nat) (sp : Nat) (ig : Int32) (lo : Int32) (ac : Nat) (nw : Nat → Int32) (di : Nat → Int32) (pa : Int32) (net : Int32) (hO : rdOk nw) (hac : ac ≤ 14) (hk : (kc_X8_net nw pa net) = 0) : kMi l D g yX8_net wsX8_net 3 0 0 [.ref m0, .int pa, .int net] [(m0, .inr (8, [.int rf, .ref sc0, .int (nI ss), .int (nI sp), .int ig, .int lo, .ref rd0, .ref nw0, .ref tr0, .ref di0, .int (nI ac), .ref ke0, .ref ik0, .ref cp0, .ref cn0, .ref be0])), (nw0, .inl (g 0, 748, .inl nw)), (di0, .inl (g 0, 10472, .inl di))] sz ((f_X8_net ac nw di pa net).1) [(m0, .inr (8, [.int 0, .ref sc0, .int (nI ss), .int (nI sp), .int ig, .int lo, .ref rd0, .ref nw0, .ref tr0, .ref di0, .int (nI ((f_X8_net ac nw di pa net).2.1)), .ref ke0, .ref ik0, .ref cp0, .ref cn0, .ref be0])), (nw0, .inl (g 0, 748, .inl ((f_X8_net ac nw di pa net).2.2.2))), (di0, .inl (g 0, 10472, .inl ((f_X8_net ac nw di pa net).2.2.1)))] := by
  refine k_enter (nm := "net") (own := RX8) (bytes := cX8_net) (maxL := 4) (ret := (some .int)) (Qf := fun A => kQi D [(m0, .inr (8, [.int 0, .ref sc0, .int (nI ss), .int (nI sp), .int ig, .int lo, .ref rd0, .ref nw0, .ref tr0, .ref di0, .int (nI ((f_X8_net ac nw di pa net).2.1)), .ref ke0, .ref ik0, .ref cp0, .ref cn0, .ref be0])), (nw0, .inl (g 0, 748, .inl ((f_X8_net ac nw di pa net).2.2.2))), (di0, .inl (g 0, 10472, .inl ((f_X8_net ac nw di pa net).2.2.1)))] A ((f_X8_net ac nw di pa net).1)) (by decide) rfl rfl rfl (Nat.le_of_ble_eq_true rfl) ?_
  rintro pp ee s mm below meth cc A ls args Q H locs hQ ⟨hx, hb, hr, hml, hown, hts, hlocks, hin⟩ hP hK hD hA hS hE hl
  have hl : lv_has ls 4 [(0, .ref m0), (1, .int pa), (2, .int net)] := hl
  obtain ⟨mn_0, emn_0⟩ : ∃ z, z = (nw 0).toNatClampNeg := ⟨_, rfl⟩
  have hmn : nw 0 = nI mn_0 := by rw [emn_0]; exact (rdOk_mn hO).1
  have hm9 : mn_0 ≤ 10 := by rw [emn_0]; exact (rdOk_mn hO).2
  have kemn_0 : kEq mn_0 (nw 0).toNatClampNeg := emn_0
  clear emn_0
  refine lv_aload_n hx hb dX8_net_0 rfl (lv_at hl 0 rfl) ?_
  refine lv_aload_n hx hb dX8_net_1 rfl (lv_at hl 0 rfl) ?_
  refine lv_iload_n hx hb dX8_net_2 rfl (lv_at hl 1 rfl) ?_
  refine k_ai (wr := [(di0, .inl (g 0, 10472, .inl di))]) (w2 := [(m0, .inr (8, [.int rf, .ref sc0, .int (nI ss), .int (nI sp), .int ig, .int lo, .ref rd0, .ref nw0, .ref tr0, .ref di0, .int (nI ac), .ref ke0, .ref ik0, .ref cp0, .ref cn0, .ref be0])), (nw0, .inl (g 0, 748, .inl nw)), (di0, .inl (g 0, 10472, .inl di))]) (va_runV (As := [.int pa]) (rest := [.ref m0]) ⟨hx, hb, hml, hown, hts⟩ (c_X8_isPart l D g m0 sc0 rd0 nw0 tr0 di0 ke0 ik0 cp0 cn0 be0 H.size rf ss sp ig lo ac nw pa) (cwV 1 hts gX8_net_X8_isPart rfl rfl rfl (by decide +kernel) (k_lvl (by omega) (by decide))) (kPV hP hD hK hS hA hE [0, 1] rfl (by decide) 0 8 rfl rfl rfl) rfl rfl hl.1 rfl (lv_room (Nat.le_of_ble_eq_true rfl)) dX8_net_3 ⟨Nat.le_of_ble_eq_true rfl, Nat.le_of_ble_eq_true rfl⟩) hP hD hS hA [0, 1] [2] [1, 2, 0] rfl rfl (by decide) (by decide) rfl (by decide) (fun H locs hP hD hS => ?_)
  refine lv_if_ne (tgt := 13) hx hb dX8_net_6 (by decide) (fun c_1 => ?_) (fun c_1 => ?_)
  · refine lv_iload_n hx hb dX8_net_13 rfl (lv_at hl 2 rfl) ?_
    refine lv_sipush (v := (-10000)) hx hb dX8_net_14 (by decide) ?_
    refine lv_icmp_eq (tgt := 27) hx hb dX8_net_17 (by decide) (fun c_2 => ?_) (fun c_2 => ?_)
    · refine lv_iconst (v := 0) hx hb dX8_net_27 (by decide) ?_
      refine lv_goto (tgt := 32) hx hb dX8_net_28 (by decide) ?_
      refine k_ai (wr := [(nw0, .inl (g 0, 748, .inl nw)), (di0, .inl (g 0, 10472, .inl di))]) (w2 := [(m0, .inr (8, [.int 0, .ref sc0, .int (nI ss), .int (nI sp), .int ig, .int lo, .ref rd0, .ref nw0, .ref tr0, .ref di0, .int (nI ac), .ref ke0, .ref ik0, .ref cp0, .ref cn0, .ref be0])), (nw0, .inl (g 0, 748, .inl nw)), (di0, .inl (g 0, 10472, .inl di))]) (va_runV (As := [.int 0]) (rest := []) ⟨hx, hb, hml, hown, hts⟩ (c_X8_refused0 l D g m0 sc0 rd0 nw0 tr0 di0 ke0 ik0 cp0 cn0 be0 H.size rf ss sp ig lo ac) (cwV 1 hts gX8_net_X8_refused rfl rfl rfl (by decide +kernel) (k_lvl (by omega) (by decide))) (kPV hP hD hK hS hA hE [0] rfl (by decide) 0 8 rfl rfl rfl) rfl rfl hl.1 rfl (lv_room (Nat.le_of_ble_eq_true rfl)) dX8_net_32 ⟨Nat.le_of_ble_eq_true rfl, Nat.le_of_ble_eq_true rfl⟩) hP hD hS hA [0] [1, 2] [2, 0, 1] rfl rfl (by decide) (by decide) rfl (by decide) (fun H locs hP hD hS => ?_)
      refine lv_if_eq (tgt := 40) hx hb dX8_net_35 (by decide) (fun _ => ?_) (fun c_3 => absurd c_3 (by decide))
      obtain ⟨pa_0, epa_0⟩ : ∃ z, z = pa.toNatClampNeg := ⟨_, rfl⟩
      have qpa_0 : pa = nI pa_0 := by rw [epa_0]; exact (isPart_N c_1 hmn hm9).1
      have bpa_0 : pa_0 < mn_0 := by rw [epa_0]; exact (isPart_N c_1 hmn hm9).2
      have kepa_0 : kEq pa_0 pa.toNatClampNeg := epa_0
      clear epa_0
      have hl : lv_has ls 4 [(0, .ref m0), (1, .int (nI pa_0)), (2, .int net)] := by
        have h9 := hl
        rw [qpa_0] at h9
        exact h9
      refine lv_aload_n hx hb dX8_net_40 rfl (lv_at hl 0 rfl) ?_
      have hC := c_X8_remember l D g m0 sc0 rd0 nw0 tr0 di0 ke0 ik0 cp0 cn0 be0 H.size 0 ss sp ig lo ac nw di (by omega)
      obtain ⟨v_4, ev_4⟩ : ∃ z, z = (f_X8_remember ac nw di) := ⟨_, rfl⟩
      rw [← ev_4] at hC
      have kev_4 : kEq v_4 (f_X8_remember ac nw di) := ev_4
      clear ev_4
      refine k_av (wr := []) (w2 := [(m0, .inr (8, [.int 0, .ref sc0, .int (nI ss), .int (nI sp), .int ig, .int lo, .ref rd0, .ref nw0, .ref tr0, .ref di0, .int (nI v_4.1), .ref ke0, .ref ik0, .ref cp0, .ref cn0, .ref be0])), (nw0, .inl (g 0, 748, .inl nw)), (di0, .inl (g 0, 10472, .inl v_4.2))]) (va_runV (As := []) (rest := []) ⟨hx, hb, hml, hown, hts⟩ hC (cwV 0 hts gX8_net_X8_remember rfl rfl rfl (by decide +kernel) (k_lvl (by omega) (by decide))) (kPV hP hD hK hS hA hE [0, 1, 2] rfl (by decide) 0 8 rfl rfl rfl) rfl rfl hl.1 rfl (lv_room (Nat.le_of_ble_eq_true rfl)) dX8_net_41 ⟨Nat.le_of_ble_eq_true rfl, Nat.le_of_ble_eq_true rfl⟩) hP hD hS hA [0, 1, 2] [] [0, 1, 2] rfl rfl (by decide) (by decide) rfl (by decide) (fun H locs hP hD hS => ?_)
      refine lv_aload_n hx hb dX8_net_44 rfl (lv_at hl 0 rfl) ?_
      refine va_get (D := D) (ci := 8) (v := .ref nw0) (C := RX8) (T := TX8) (N := 16) hx hb hts (fun w h => (List.mem_cons_of_mem _ (List.mem_append_right _ h))) hown hK hP 0 rfl rfl 7 (by decide) (hts _ qX8_net_0) (fun _ h9 => h9) rfl dX8_net_45 ?_
      refine lv_iload_n hx hb dX8_net_48 rfl (lv_at hl 1 rfl) ?_
      refine lv_iconst (v := 4) hx hb dX8_net_49 (by decide) ?_
      refine k_ai (wr := [(m0, .inr (8, [.int 0, .ref sc0, .int (nI ss), .int (nI sp), .int ig, .int lo, .ref rd0, .ref nw0, .ref tr0, .ref di0, .int (nI v_4.1), .ref ke0, .ref ik0, .ref cp0, .ref cn0, .ref be0])), (nw0, .inl (g 0, 748, .inl nw)), (di0, .inl (g 0, 10472, .inl v_4.2))]) (w2 := [(m0, .inr (8, [.int 0, .ref sc0, .int (nI ss), .int (nI sp), .int ig, .int lo, .ref rd0, .ref nw0, .ref tr0, .ref di0, .int (nI v_4.1), .ref ke0, .ref ik0, .ref cp0, .ref cn0, .ref be0])), (nw0, .inl (g 0, 748, .inl nw)), (di0, .inl (g 0, 10472, .inl v_4.2))]) (va_runS (As := [.int (nI pa_0), .int 4]) (rest := [.ref nw0]) ⟨hx, hb, hml, hown, hts⟩ (c_X8_partAt l D g H.size pa_0 4) (va_cwS 2 hts gX8_net_X8_partAt rfl rfl rfl (by decide +kernel) (k_lvl (by omega) (by decide))) (kPS hP hD hK hS hA hE [] rfl (by decide)) rfl rfl hl.1 rfl (lv_room (Nat.le_of_ble_eq_true rfl)) dX8_net_50 ⟨Nat.le_of_ble_eq_true rfl, Nat.le_of_ble_eq_true rfl⟩) hP hD hS hA [] [0, 1, 2] [0, 1, 2] rfl rfl (by decide) (by decide) rfl (by decide) (fun H locs hP hD hS => ?_)
      refine va_iald (i := (nI (1 + 8 * pa_0 + 4))) hx hb hK hP 1 0 rfl rfl (vp_in_nI (n := (1 + 8 * pa_0 + 4)) (by omega) (by omega)) dX8_net_53 ?_
      refine k_top (y := (nw (1 + 8 * pa_0 + 4))) (by rw [nI_clamp (by omega)]) ?_
      refine lv_istore_n (lv' := [(3, .int (nw (1 + 8 * pa_0 + 4))), (0, .ref m0), (1, .int (nI pa_0)), (2, .int net)]) hx hb dX8_net_54 rfl hl (by decide) rfl (fun ls hl => ?_)
      refine lv_aload_n hx hb dX8_net_55 rfl (lv_at hl 1 rfl) ?_
      refine va_get (D := D) (ci := 8) (v := .ref nw0) (C := RX8) (T := TX8) (N := 16) hx hb hts (fun w h => (List.mem_cons_of_mem _ (List.mem_append_right _ h))) hown hK hP 0 rfl rfl 7 (by decide) (hts _ qX8_net_0) (fun _ h9 => h9) rfl dX8_net_56 ?_
      refine lv_iload_n hx hb dX8_net_59 rfl (lv_at hl 2 rfl) ?_
      refine lv_iconst (v := 4) hx hb dX8_net_60 (by decide) ?_
      refine k_ai (wr := [(m0, .inr (8, [.int 0, .ref sc0, .int (nI ss), .int (nI sp), .int ig, .int lo, .ref rd0, .ref nw0, .ref tr0, .ref di0, .int (nI v_4.1), .ref ke0, .ref ik0, .ref cp0, .ref cn0, .ref be0])), (nw0, .inl (g 0, 748, .inl nw)), (di0, .inl (g 0, 10472, .inl v_4.2))]) (w2 := [(m0, .inr (8, [.int 0, .ref sc0, .int (nI ss), .int (nI sp), .int ig, .int lo, .ref rd0, .ref nw0, .ref tr0, .ref di0, .int (nI v_4.1), .ref ke0, .ref ik0, .ref cp0, .ref cn0, .ref be0])), (nw0, .inl (g 0, 748, .inl nw)), (di0, .inl (g 0, 10472, .inl v_4.2))]) (va_runS (As := [.int (nI pa_0), .int 4]) (rest := [.ref nw0]) ⟨hx, hb, hml, hown, hts⟩ (c_X8_partAt l D g H.size pa_0 4) (va_cwS 2 hts gX8_net_X8_partAt rfl rfl rfl (by decide +kernel) (k_lvl (by omega) (by decide))) (kPS hP hD hK hS hA hE [] rfl (by decide)) rfl rfl hl.1 rfl (lv_room (Nat.le_of_ble_eq_true rfl)) dX8_net_61 ⟨Nat.le_of_ble_eq_true rfl, Nat.le_of_ble_eq_true rfl⟩) hP hD hS hA [] [0, 1, 2] [0, 1, 2] rfl rfl (by decide) (by decide) rfl (by decide) (fun H locs hP hD hS => ?_)
      refine lv_iload_n hx hb dX8_net_64 rfl (lv_at hl 3 rfl) ?_
      refine va_iast (i := (nI (1 + 8 * pa_0 + 4))) (x := net) hx hb hK hP hD hS 1 0 rfl rfl (vp_in_nI (n := (1 + 8 * pa_0 + 4)) (by omega) (by omega)) dX8_net_65 (fun H locs hP hD hS => ?_)
      rw [nI_clamp (n := (1 + 8 * pa_0 + 4)) (by omega)] at hP hD
      have hP : va_P D vwCl [(m0, .inr (8, [.int 0, .ref sc0, .int (nI ss), .int (nI sp), .int ig, .int lo, .ref rd0, .ref nw0, .ref tr0, .ref di0, .int (nI v_4.1), .ref ke0, .ref ik0, .ref cp0, .ref cn0, .ref be0])), (nw0, .inl (g 0, 748, .inl (upd nw (1 + 8 * pa_0 + 4) net))), (di0, .inl (g 0, 10472, .inl v_4.2))] H := hP
      have hD : va_D A [(m0, .inr (8, [.int 0, .ref sc0, .int (nI ss), .int (nI sp), .int ig, .int lo, .ref rd0, .ref nw0, .ref tr0, .ref di0, .int (nI v_4.1), .ref ke0, .ref ik0, .ref cp0, .ref cn0, .ref be0])), (nw0, .inl (g 0, 748, .inl (upd nw (1 + 8 * pa_0 + 4) net))), (di0, .inl (g 0, 10472, .inl v_4.2))] := hD
      refine lv_iload_n hx hb dX8_net_66 rfl (lv_at hl 0 rfl) ?_
      have ev_4 : (f_X8_remember ac nw di) = v_4 := Eq.symm kev_4
      have epa_0 : pa.toNatClampNeg = pa_0 := Eq.symm kepa_0
      have emn_0 : (nw 0).toNatClampNeg = mn_0 := Eq.symm kemn_0
      have hE2 : (f_X8_net ac nw di pa net) = ((nw (1 + 8 * pa_0 + 4)), v_4.1, v_4.2, (upd nw (1 + 8 * pa_0 + 4) net)) := by
        subst ev_4
        subst epa_0
        subst emn_0
        exact (if_pos c_2).trans (rfl)
      subst hQ
      exact k_ri hx hb hr hlocks hP hD hS dX8_net_67 (by rw [hE2]) (by rw [hE2])
    · refine lv_iload_n hx hb dX8_net_20 rfl (lv_at hl 2 rfl) ?_
      refine k_ai (wr := [(m0, .inr (8, [.int rf, .ref sc0, .int (nI ss), .int (nI sp), .int ig, .int lo, .ref rd0, .ref nw0, .ref tr0, .ref di0, .int (nI ac), .ref ke0, .ref ik0, .ref cp0, .ref cn0, .ref be0])), (nw0, .inl (g 0, 748, .inl nw)), (di0, .inl (g 0, 10472, .inl di))]) (w2 := [(m0, .inr (8, [.int rf, .ref sc0, .int (nI ss), .int (nI sp), .int ig, .int lo, .ref rd0, .ref nw0, .ref tr0, .ref di0, .int (nI ac), .ref ke0, .ref ik0, .ref cp0, .ref cn0, .ref be0])), (nw0, .inl (g 0, 748, .inl nw)), (di0, .inl (g 0, 10472, .inl di))]) (va_runS (As := [.int net]) (rest := [.ref m0]) ⟨hx, hb, hml, hown, hts⟩ (c_X8_isSmall l D g H.size net) (va_cwS 1 hts gX8_net_X8_isSmall rfl rfl rfl (by decide +kernel) (k_lvl (by omega) (by decide))) (kPS hP hD hK hS hA hE [] rfl (by decide)) rfl rfl hl.1 rfl (lv_room (Nat.le_of_ble_eq_true rfl)) dX8_net_21 ⟨Nat.le_of_ble_eq_true rfl, Nat.le_of_ble_eq_true rfl⟩) hP hD hS hA [] [0, 1, 2] [0, 1, 2] rfl rfl (by decide) (by decide) rfl (by decide) (fun H locs hP hD hS => ?_)
      refine lv_if_eq (tgt := 31) hx hb dX8_net_24 (by decide) (fun c_5 => ?_) (fun c_5 => ?_)
      · refine lv_iconst (v := 2) hx hb dX8_net_31 (by decide) ?_
        have emn_0 : (nw 0).toNatClampNeg = mn_0 := Eq.symm kemn_0
        subst emn_0
        have h9 : (kc_X8_net nw pa net) = 2 := (if_neg c_1).trans ((if_neg c_2).trans ((if_pos c_5).trans (rfl)))
        rw [hk] at h9
        exact absurd h9 (by decide)
      · refine lv_iconst (v := 0) hx hb dX8_net_27 (by decide) ?_
        refine lv_goto (tgt := 32) hx hb dX8_net_28 (by decide) ?_
        refine k_ai (wr := [(nw0, .inl (g 0, 748, .inl nw)), (di0, .inl (g 0, 10472, .inl di))]) (w2 := [(m0, .inr (8, [.int 0, .ref sc0, .int (nI ss), .int (nI sp), .int ig, .int lo, .ref rd0, .ref nw0, .ref tr0, .ref di0, .int (nI ac), .ref ke0, .ref ik0, .ref cp0, .ref cn0, .ref be0])), (nw0, .inl (g 0, 748, .inl nw)), (di0, .inl (g 0, 10472, .inl di))]) (va_runV (As := [.int 0]) (rest := []) ⟨hx, hb, hml, hown, hts⟩ (c_X8_refused0 l D g m0 sc0 rd0 nw0 tr0 di0 ke0 ik0 cp0 cn0 be0 H.size rf ss sp ig lo ac) (cwV 1 hts gX8_net_X8_refused rfl rfl rfl (by decide +kernel) (k_lvl (by omega) (by decide))) (kPV hP hD hK hS hA hE [0] rfl (by decide) 0 8 rfl rfl rfl) rfl rfl hl.1 rfl (lv_room (Nat.le_of_ble_eq_true rfl)) dX8_net_32 ⟨Nat.le_of_ble_eq_true rfl, Nat.le_of_ble_eq_true rfl⟩) hP hD hS hA [0] [1, 2] [2, 0, 1] rfl rfl (by decide) (by decide) rfl (by decide) (fun H locs hP hD hS => ?_)
        refine lv_if_eq (tgt := 40) hx hb dX8_net_35 (by decide) (fun _ => ?_) (fun c_6 => absurd c_6 (by decide))
        obtain ⟨pa_0, epa_0⟩ : ∃ z, z = pa.toNatClampNeg := ⟨_, rfl⟩
        have qpa_0 : pa = nI pa_0 := by rw [epa_0]; exact (isPart_N c_1 hmn hm9).1
        have bpa_0 : pa_0 < mn_0 := by rw [epa_0]; exact (isPart_N c_1 hmn hm9).2
        have kepa_0 : kEq pa_0 pa.toNatClampNeg := epa_0
        clear epa_0
        have hl : lv_has ls 4 [(0, .ref m0), (1, .int (nI pa_0)), (2, .int net)] := by
          have h9 := hl
          rw [qpa_0] at h9
          exact h9
        refine lv_aload_n hx hb dX8_net_40 rfl (lv_at hl 0 rfl) ?_
        have hC := c_X8_remember l D g m0 sc0 rd0 nw0 tr0 di0 ke0 ik0 cp0 cn0 be0 H.size 0 ss sp ig lo ac nw di (by omega)
        obtain ⟨v_7, ev_7⟩ : ∃ z, z = (f_X8_remember ac nw di) := ⟨_, rfl⟩
        rw [← ev_7] at hC
        have kev_7 : kEq v_7 (f_X8_remember ac nw di) := ev_7
        clear ev_7
        refine k_av (wr := []) (w2 := [(m0, .inr (8, [.int 0, .ref sc0, .int (nI ss), .int (nI sp), .int ig, .int lo, .ref rd0, .ref nw0, .ref tr0, .ref di0, .int (nI v_7.1), .ref ke0, .ref ik0, .ref cp0, .ref cn0, .ref be0])), (nw0, .inl (g 0, 748, .inl nw)), (di0, .inl (g 0, 10472, .inl v_7.2))]) (va_runV (As := []) (rest := []) ⟨hx, hb, hml, hown, hts⟩ hC (cwV 0 hts gX8_net_X8_remember rfl rfl rfl (by decide +kernel) (k_lvl (by omega) (by decide))) (kPV hP hD hK hS hA hE [0, 1, 2] rfl (by decide) 0 8 rfl rfl rfl) rfl rfl hl.1 rfl (lv_room (Nat.le_of_ble_eq_true rfl)) dX8_net_41 ⟨Nat.le_of_ble_eq_true rfl, Nat.le_of_ble_eq_true rfl⟩) hP hD hS hA [0, 1, 2] [] [0, 1, 2] rfl rfl (by decide) (by decide) rfl (by decide) (fun H locs hP hD hS => ?_)
        refine lv_aload_n hx hb dX8_net_44 rfl (lv_at hl 0 rfl) ?_
        refine va_get (D := D) (ci := 8) (v := .ref nw0) (C := RX8) (T := TX8) (N := 16) hx hb hts (fun w h => (List.mem_cons_of_mem _ (List.mem_append_right _ h))) hown hK hP 0 rfl rfl 7 (by decide) (hts _ qX8_net_0) (fun _ h9 => h9) rfl dX8_net_45 ?_
        refine lv_iload_n hx hb dX8_net_48 rfl (lv_at hl 1 rfl) ?_
        refine lv_iconst (v := 4) hx hb dX8_net_49 (by decide) ?_
        refine k_ai (wr := [(m0, .inr (8, [.int 0, .ref sc0, .int (nI ss), .int (nI sp), .int ig, .int lo, .ref rd0, .ref nw0, .ref tr0, .ref di0, .int (nI v_7.1), .ref ke0, .ref ik0, .ref cp0, .ref cn0, .ref be0])), (nw0, .inl (g 0, 748, .inl nw)), (di0, .inl (g 0, 10472, .inl v_7.2))]) (w2 := [(m0, .inr (8, [.int 0, .ref sc0, .int (nI ss), .int (nI sp), .int ig, .int lo, .ref rd0, .ref nw0, .ref tr0, .ref di0, .int (nI v_7.1), .ref ke0, .ref ik0, .ref cp0, .ref cn0, .ref be0])), (nw0, .inl (g 0, 748, .inl nw)), (di0, .inl (g 0, 10472, .inl v_7.2))]) (va_runS (As := [.int (nI pa_0), .int 4]) (rest := [.ref nw0]) ⟨hx, hb, hml, hown, hts⟩ (c_X8_partAt l D g H.size pa_0 4) (va_cwS 2 hts gX8_net_X8_partAt rfl rfl rfl (by decide +kernel) (k_lvl (by omega) (by decide))) (kPS hP hD hK hS hA hE [] rfl (by decide)) rfl rfl hl.1 rfl (lv_room (Nat.le_of_ble_eq_true rfl)) dX8_net_50 ⟨Nat.le_of_ble_eq_true rfl, Nat.le_of_ble_eq_true rfl⟩) hP hD hS hA [] [0, 1, 2] [0, 1, 2] rfl rfl (by decide) (by decide) rfl (by decide) (fun H locs hP hD hS => ?_)
        refine va_iald (i := (nI (1 + 8 * pa_0 + 4))) hx hb hK hP 1 0 rfl rfl (vp_in_nI (n := (1 + 8 * pa_0 + 4)) (by omega) (by omega)) dX8_net_53 ?_
        refine k_top (y := (nw (1 + 8 * pa_0 + 4))) (by rw [nI_clamp (by omega)]) ?_
        refine lv_istore_n (lv' := [(3, .int (nw (1 + 8 * pa_0 + 4))), (0, .ref m0), (1, .int (nI pa_0)), (2, .int net)]) hx hb dX8_net_54 rfl hl (by decide) rfl (fun ls hl => ?_)
        refine lv_aload_n hx hb dX8_net_55 rfl (lv_at hl 1 rfl) ?_
        refine va_get (D := D) (ci := 8) (v := .ref nw0) (C := RX8) (T := TX8) (N := 16) hx hb hts (fun w h => (List.mem_cons_of_mem _ (List.mem_append_right _ h))) hown hK hP 0 rfl rfl 7 (by decide) (hts _ qX8_net_0) (fun _ h9 => h9) rfl dX8_net_56 ?_
        refine lv_iload_n hx hb dX8_net_59 rfl (lv_at hl 2 rfl) ?_
        refine lv_iconst (v := 4) hx hb dX8_net_60 (by decide) ?_
        refine k_ai (wr := [(m0, .inr (8, [.int 0, .ref sc0, .int (nI ss), .int (nI sp), .int ig, .int lo, .ref rd0, .ref nw0, .ref tr0, .ref di0, .int (nI v_7.1), .ref ke0, .ref ik0, .ref cp0, .ref cn0, .ref be0])), (nw0, .inl (g 0, 748, .inl nw)), (di0, .inl (g 0, 10472, .inl v_7.2))]) (w2 := [(m0, .inr (8, [.int 0, .ref sc0, .int (nI ss), .int (nI sp), .int ig, .int lo, .ref rd0, .ref nw0, .ref tr0, .ref di0, .int (nI v_7.1), .ref ke0, .ref ik0, .ref cp0, .ref cn0, .ref be0])), (nw0, .inl (g 0, 748, .inl nw)), (di0, .inl (g 0, 10472, .inl v_7.2))]) (va_runS (As := [.int (nI pa_0), .int 4]) (rest := [.ref nw0]) ⟨hx, hb, hml, hown, hts⟩ (c_X8_partAt l D g H.size pa_0 4) (va_cwS 2 hts gX8_net_X8_partAt rfl rfl rfl (by decide +kernel) (k_lvl (by omega) (by decide))) (kPS hP hD hK hS hA hE [] rfl (by decide)) rfl rfl hl.1 rfl (lv_room (Nat.le_of_ble_eq_true rfl)) dX8_net_61 ⟨Nat.le_of_ble_eq_true rfl, Nat.le_of_ble_eq_true rfl⟩) hP hD hS hA [] [0, 1, 2] [0, 1, 2] rfl rfl (by decide) (by decide) rfl (by decide) (fun H locs hP hD hS => ?_)
        refine lv_iload_n hx hb dX8_net_64 rfl (lv_at hl 3 rfl) ?_
        refine va_iast (i := (nI (1 + 8 * pa_0 + 4))) (x := net) hx hb hK hP hD hS 1 0 rfl rfl (vp_in_nI (n := (1 + 8 * pa_0 + 4)) (by omega) (by omega)) dX8_net_65 (fun H locs hP hD hS => ?_)
        rw [nI_clamp (n := (1 + 8 * pa_0 + 4)) (by omega)] at hP hD
        have hP : va_P D vwCl [(m0, .inr (8, [.int 0, .ref sc0, .int (nI ss), .int (nI sp), .int ig, .int lo, .ref rd0, .ref nw0, .ref tr0, .ref di0, .int (nI v_7.1), .ref ke0, .ref ik0, .ref cp0, .ref cn0, .ref be0])), (nw0, .inl (g 0, 748, .inl (upd nw (1 + 8 * pa_0 + 4) net))), (di0, .inl (g 0, 10472, .inl v_7.2))] H := hP
        have hD : va_D A [(m0, .inr (8, [.int 0, .ref sc0, .int (nI ss), .int (nI sp), .int ig, .int lo, .ref rd0, .ref nw0, .ref tr0, .ref di0, .int (nI v_7.1), .ref ke0, .ref ik0, .ref cp0, .ref cn0, .ref be0])), (nw0, .inl (g 0, 748, .inl (upd nw (1 + 8 * pa_0 + 4) net))), (di0, .inl (g 0, 10472, .inl v_7.2))] := hD
        refine lv_iload_n hx hb dX8_net_66 rfl (lv_at hl 0 rfl) ?_
        have ev_7 : (f_X8_remember ac nw di) = v_7 := Eq.symm kev_7
        have epa_0 : pa.toNatClampNeg = pa_0 := Eq.symm kepa_0
        have emn_0 : (nw 0).toNatClampNeg = mn_0 := Eq.symm kemn_0
        have hE2 : (f_X8_net ac nw di pa net) = ((nw (1 + 8 * pa_0 + 4)), v_7.1, v_7.2, (upd nw (1 + 8 * pa_0 + 4) net)) := by
          subst ev_7
          subst epa_0
          subst emn_0
          exact (if_neg c_2).trans (rfl)
        subst hQ
        exact k_ri hx hb hr hlocks hP hD hS dX8_net_67 (by rw [hE2]) (by rw [hE2])
  · refine lv_iconst (v := 1) hx hb dX8_net_9 (by decide) ?_
    refine lv_goto (tgt := 32) hx hb dX8_net_10 (by decide) ?_
    have emn_0 : (nw 0).toNatClampNeg = mn_0 := Eq.symm kemn_0
    subst emn_0
    have h9 : (kc_X8_net nw pa net) = 1 := (if_pos c_1).trans (rfl)
    rw [hk] at h9
    exact absurd h9 (by decide)
set_option maxHeartbeats 4000000 in
set_option maxRecDepth 100000 in
theorem c_X8_net_bad (l : Launch) (D : va_G) (g : Nat → Nat) (m0 sc0 rd0 nw0 tr0 di0 ke0 ik0 cp0 cn0 be0 : Nat) (sz : Nat) (rf : Int32) (ss : Nat) (sp : Nat) (ig : Int32) (lo : Int32) (ac : Nat) (nw : Nat → Int32) (di : Nat → Int32) (pa : Int32) (net : Int32) (hO : rdOk nw) (hac : ac ≤ 14) (hk : ¬ (kc_X8_net nw pa net) = 0) : kMi l D g yX8_net wsX8_net 3 0 0 [.ref m0, .int pa, .int net] [(m0, .inr (8, [.int rf, .ref sc0, .int (nI ss), .int (nI sp), .int ig, .int lo, .ref rd0, .ref nw0, .ref tr0, .ref di0, .int (nI ac), .ref ke0, .ref ik0, .ref cp0, .ref cn0, .ref be0])), (nw0, .inl (g 0, 748, .inl nw)), (di0, .inl (g 0, 10472, .inl di))] sz 0 [(m0, .inr (8, [.int (kc_X8_net nw pa net), .ref sc0, .int (nI ss), .int (nI sp), .int ig, .int lo, .ref rd0, .ref nw0, .ref tr0, .ref di0, .int (nI ac), .ref ke0, .ref ik0, .ref cp0, .ref cn0, .ref be0])), (nw0, .inl (g 0, 748, .inl nw)), (di0, .inl (g 0, 10472, .inl di))] := by
  refine k_enter (nm := "net") (own := RX8) (bytes := cX8_net) (maxL := 4) (ret := (some .int)) (Qf := fun A => kQi D [(m0, .inr (8, [.int (kc_X8_net nw pa net), .ref sc0, .int (nI ss), .int (nI sp), .int ig, .int lo, .ref rd0, .ref nw0, .ref tr0, .ref di0, .int (nI ac), .ref ke0, .ref ik0, .ref cp0, .ref cn0, .ref be0])), (nw0, .inl (g 0, 748, .inl nw)), (di0, .inl (g 0, 10472, .inl di))] A 0) (by decide) rfl rfl rfl (Nat.le_of_ble_eq_true rfl) ?_
  rintro pp ee s mm below meth cc A ls args Q H locs hQ ⟨hx, hb, hr, hml, hown, hts, hlocks, hin⟩ hP hK hD hA hS hE hl
  have hl : lv_has ls 4 [(0, .ref m0), (1, .int pa), (2, .int net)] := hl
  refine lv_aload_n hx hb dX8_net_0 rfl (lv_at hl 0 rfl) ?_
  refine lv_aload_n hx hb dX8_net_1 rfl (lv_at hl 0 rfl) ?_
  refine lv_iload_n hx hb dX8_net_2 rfl (lv_at hl 1 rfl) ?_
  refine k_ai (wr := [(di0, .inl (g 0, 10472, .inl di))]) (w2 := [(m0, .inr (8, [.int rf, .ref sc0, .int (nI ss), .int (nI sp), .int ig, .int lo, .ref rd0, .ref nw0, .ref tr0, .ref di0, .int (nI ac), .ref ke0, .ref ik0, .ref cp0, .ref cn0, .ref be0])), (nw0, .inl (g 0, 748, .inl nw)), (di0, .inl (g 0, 10472, .inl di))]) (va_runV (As := [.int pa]) (rest := [.ref m0]) ⟨hx, hb, hml, hown, hts⟩ (c_X8_isPart l D g m0 sc0 rd0 nw0 tr0 di0 ke0 ik0 cp0 cn0 be0 H.size rf ss sp ig lo ac nw pa) (cwV 1 hts gX8_net_X8_isPart rfl rfl rfl (by decide +kernel) (k_lvl (by omega) (by decide))) (kPV hP hD hK hS hA hE [0, 1] rfl (by decide) 0 8 rfl rfl rfl) rfl rfl hl.1 rfl (lv_room (Nat.le_of_ble_eq_true rfl)) dX8_net_3 ⟨Nat.le_of_ble_eq_true rfl, Nat.le_of_ble_eq_true rfl⟩) hP hD hS hA [0, 1] [2] [1, 2, 0] rfl rfl (by decide) (by decide) rfl (by decide) (fun H locs hP hD hS => ?_)
  refine lv_if_ne (tgt := 13) hx hb dX8_net_6 (by decide) (fun c_1 => ?_) (fun c_1 => ?_)
  · refine lv_iload_n hx hb dX8_net_13 rfl (lv_at hl 2 rfl) ?_
    refine lv_sipush (v := (-10000)) hx hb dX8_net_14 (by decide) ?_
    refine lv_icmp_eq (tgt := 27) hx hb dX8_net_17 (by decide) (fun c_2 => ?_) (fun c_2 => ?_)
    · refine lv_iconst (v := 0) hx hb dX8_net_27 (by decide) ?_
      refine lv_goto (tgt := 32) hx hb dX8_net_28 (by decide) ?_
      have h9 : (kc_X8_net nw pa net) = 0 := (if_neg c_1).trans ((if_pos c_2).trans (rfl))
      exact absurd h9 hk
    · refine lv_iload_n hx hb dX8_net_20 rfl (lv_at hl 2 rfl) ?_
      refine k_ai (wr := [(m0, .inr (8, [.int rf, .ref sc0, .int (nI ss), .int (nI sp), .int ig, .int lo, .ref rd0, .ref nw0, .ref tr0, .ref di0, .int (nI ac), .ref ke0, .ref ik0, .ref cp0, .ref cn0, .ref be0])), (nw0, .inl (g 0, 748, .inl nw)), (di0, .inl (g 0, 10472, .inl di))]) (w2 := [(m0, .inr (8, [.int rf, .ref sc0, .int (nI ss), .int (nI sp), .int ig, .int lo, .ref rd0, .ref nw0, .ref tr0, .ref di0, .int (nI ac), .ref ke0, .ref ik0, .ref cp0, .ref cn0, .ref be0])), (nw0, .inl (g 0, 748, .inl nw)), (di0, .inl (g 0, 10472, .inl di))]) (va_runS (As := [.int net]) (rest := [.ref m0]) ⟨hx, hb, hml, hown, hts⟩ (c_X8_isSmall l D g H.size net) (va_cwS 1 hts gX8_net_X8_isSmall rfl rfl rfl (by decide +kernel) (k_lvl (by omega) (by decide))) (kPS hP hD hK hS hA hE [] rfl (by decide)) rfl rfl hl.1 rfl (lv_room (Nat.le_of_ble_eq_true rfl)) dX8_net_21 ⟨Nat.le_of_ble_eq_true rfl, Nat.le_of_ble_eq_true rfl⟩) hP hD hS hA [] [0, 1, 2] [0, 1, 2] rfl rfl (by decide) (by decide) rfl (by decide) (fun H locs hP hD hS => ?_)
      refine lv_if_eq (tgt := 31) hx hb dX8_net_24 (by decide) (fun c_3 => ?_) (fun c_3 => ?_)
      · refine lv_iconst (v := 2) hx hb dX8_net_31 (by decide) ?_
        refine k_ai (wr := [(nw0, .inl (g 0, 748, .inl nw)), (di0, .inl (g 0, 10472, .inl di))]) (w2 := [(m0, .inr (8, [.int 2, .ref sc0, .int (nI ss), .int (nI sp), .int ig, .int lo, .ref rd0, .ref nw0, .ref tr0, .ref di0, .int (nI ac), .ref ke0, .ref ik0, .ref cp0, .ref cn0, .ref be0])), (nw0, .inl (g 0, 748, .inl nw)), (di0, .inl (g 0, 10472, .inl di))]) (va_runV (As := [.int 2]) (rest := []) ⟨hx, hb, hml, hown, hts⟩ (c_X8_refused2 l D g m0 sc0 rd0 nw0 tr0 di0 ke0 ik0 cp0 cn0 be0 H.size rf ss sp ig lo ac) (cwV 1 hts gX8_net_X8_refused rfl rfl rfl (by decide +kernel) (k_lvl (by omega) (by decide))) (kPV hP hD hK hS hA hE [0] rfl (by decide) 0 8 rfl rfl rfl) rfl rfl hl.1 rfl (lv_room (Nat.le_of_ble_eq_true rfl)) dX8_net_32 ⟨Nat.le_of_ble_eq_true rfl, Nat.le_of_ble_eq_true rfl⟩) hP hD hS hA [0] [1, 2] [2, 0, 1] rfl rfl (by decide) (by decide) rfl (by decide) (fun H locs hP hD hS => ?_)
        refine lv_if_eq (tgt := 40) hx hb dX8_net_35 (by decide) (fun c_4 => absurd c_4 (by decide)) (fun _ => ?_)
        refine lv_iconst (v := 0) hx hb dX8_net_38 (by decide) ?_
        subst hQ
        exact k_ri hx hb hr hlocks hP hD hS dX8_net_39 (rfl) (by rw [show (kc_X8_net nw pa net) = 2 from (if_neg c_1).trans ((if_neg c_2).trans ((if_pos c_3).trans (rfl)))])
      · refine lv_iconst (v := 0) hx hb dX8_net_27 (by decide) ?_
        refine lv_goto (tgt := 32) hx hb dX8_net_28 (by decide) ?_
        have h9 : (kc_X8_net nw pa net) = 0 := (if_neg c_1).trans ((if_neg c_2).trans ((if_neg c_3).trans (rfl)))
        exact absurd h9 hk
  · refine lv_iconst (v := 1) hx hb dX8_net_9 (by decide) ?_
    refine lv_goto (tgt := 32) hx hb dX8_net_10 (by decide) ?_
    refine k_ai (wr := [(nw0, .inl (g 0, 748, .inl nw)), (di0, .inl (g 0, 10472, .inl di))]) (w2 := [(m0, .inr (8, [.int 1, .ref sc0, .int (nI ss), .int (nI sp), .int ig, .int lo, .ref rd0, .ref nw0, .ref tr0, .ref di0, .int (nI ac), .ref ke0, .ref ik0, .ref cp0, .ref cn0, .ref be0])), (nw0, .inl (g 0, 748, .inl nw)), (di0, .inl (g 0, 10472, .inl di))]) (va_runV (As := [.int 1]) (rest := []) ⟨hx, hb, hml, hown, hts⟩ (c_X8_refused1 l D g m0 sc0 rd0 nw0 tr0 di0 ke0 ik0 cp0 cn0 be0 H.size rf ss sp ig lo ac) (cwV 1 hts gX8_net_X8_refused rfl rfl rfl (by decide +kernel) (k_lvl (by omega) (by decide))) (kPV hP hD hK hS hA hE [0] rfl (by decide) 0 8 rfl rfl rfl) rfl rfl hl.1 rfl (lv_room (Nat.le_of_ble_eq_true rfl)) dX8_net_32 ⟨Nat.le_of_ble_eq_true rfl, Nat.le_of_ble_eq_true rfl⟩) hP hD hS hA [0] [1, 2] [2, 0, 1] rfl rfl (by decide) (by decide) rfl (by decide) (fun H locs hP hD hS => ?_)
    refine lv_if_eq (tgt := 40) hx hb dX8_net_35 (by decide) (fun c_5 => absurd c_5 (by decide)) (fun _ => ?_)
    refine lv_iconst (v := 0) hx hb dX8_net_38 (by decide) ?_
    subst hQ
    exact k_ri hx hb hr hlocks hP hD hS dX8_net_39 (rfl) (by rw [show (kc_X8_net nw pa net) = 1 from (if_pos c_1).trans (rfl)])
/-- what own answers before it does anything: 0, or which of its exceptions is thrown -/
def kc_X8_own (nw : Nat → Int32) (pa : Int32) (al : Int32) (ah : Int32) (gl : Int32) (gh : Int32) : Int32 :=
  if (f_X8_isRange al ah) = 0 then
    if (f_X8_isPart nw pa) = 0 then
      1
    else
      2
  else
    if (f_X8_isRange gl gh) = 0 then
      if (f_X8_isPart nw pa) = 0 then
        1
      else
        2
    else
      if (f_X8_isPart nw pa) = 0 then
        1
      else
        0
def f_X8_own (ac : Nat) (nw : Nat → Int32) (di : Nat → Int32) (pa : Int32) (al : Int32) (ah : Int32) (gl : Int32) (gh : Int32) : Int32 × Nat × (Nat → Int32) × (Nat → Int32) :=
  let mn_0 := (nw 0).toNatClampNeg
  let pa_0 := pa.toNatClampNeg
  let v_10 := (f_X8_remember ac nw di)
  ((rCnt (f_X8_promise nw 0 pa_0 al ah gl gh) mn_0 0 (0 + 1 - 0)), v_10.1, v_10.2, (f_X8_promise nw 0 pa_0 al ah gl gh))
theorem qX8_own_0 : Cond.fieldLink RX8 16 "BlameChainsModel" "now" "[I" ∈ wsX8_own := (List.mem_cons_of_mem _ (List.mem_append_left _ (List.mem_append_left _ (List.mem_of_getElem? (i := 0) rfl))))
set_option maxHeartbeats 4000000 in
set_option maxRecDepth 100000 in
theorem c_X8_own (l : Launch) (D : va_G) (g : Nat → Nat) (m0 sc0 rd0 nw0 tr0 di0 ke0 ik0 cp0 cn0 be0 : Nat) (sz : Nat) (rf : Int32) (ss : Nat) (sp : Nat) (ig : Int32) (lo : Int32) (ac : Nat) (nw : Nat → Int32) (di : Nat → Int32) (pa : Int32) (al : Int32) (ah : Int32) (gl : Int32) (gh : Int32) (hO : rdOk nw) (hac : ac ≤ 14) (hk : (kc_X8_own nw pa al ah gl gh) = 0) : kMi l D g yX8_own wsX8_own 3 0 0 [.ref m0, .int pa, .int al, .int ah, .int gl, .int gh] [(m0, .inr (8, [.int rf, .ref sc0, .int (nI ss), .int (nI sp), .int ig, .int lo, .ref rd0, .ref nw0, .ref tr0, .ref di0, .int (nI ac), .ref ke0, .ref ik0, .ref cp0, .ref cn0, .ref be0])), (nw0, .inl (g 0, 748, .inl nw)), (di0, .inl (g 0, 10472, .inl di))] sz ((f_X8_own ac nw di pa al ah gl gh).1) [(m0, .inr (8, [.int 0, .ref sc0, .int (nI ss), .int (nI sp), .int ig, .int lo, .ref rd0, .ref nw0, .ref tr0, .ref di0, .int (nI ((f_X8_own ac nw di pa al ah gl gh).2.1)), .ref ke0, .ref ik0, .ref cp0, .ref cn0, .ref be0])), (nw0, .inl (g 0, 748, .inl ((f_X8_own ac nw di pa al ah gl gh).2.2.2))), (di0, .inl (g 0, 10472, .inl ((f_X8_own ac nw di pa al ah gl gh).2.2.1)))] := by
  refine k_enter (nm := "own") (own := RX8) (bytes := cX8_own) (maxL := 7) (ret := (some .int)) (Qf := fun A => kQi D [(m0, .inr (8, [.int 0, .ref sc0, .int (nI ss), .int (nI sp), .int ig, .int lo, .ref rd0, .ref nw0, .ref tr0, .ref di0, .int (nI ((f_X8_own ac nw di pa al ah gl gh).2.1)), .ref ke0, .ref ik0, .ref cp0, .ref cn0, .ref be0])), (nw0, .inl (g 0, 748, .inl ((f_X8_own ac nw di pa al ah gl gh).2.2.2))), (di0, .inl (g 0, 10472, .inl ((f_X8_own ac nw di pa al ah gl gh).2.2.1)))] A ((f_X8_own ac nw di pa al ah gl gh).1)) (by decide) rfl rfl rfl (Nat.le_of_ble_eq_true rfl) ?_
  rintro pp ee s mm below meth cc A ls args Q H locs hQ ⟨hx, hb, hr, hml, hown, hts, hlocks, hin⟩ hP hK hD hA hS hE hl
  have hl : lv_has ls 7 [(0, .ref m0), (1, .int pa), (2, .int al), (3, .int ah), (4, .int gl), (5, .int gh)] := hl
  obtain ⟨mn_0, emn_0⟩ : ∃ z, z = (nw 0).toNatClampNeg := ⟨_, rfl⟩
  have hmn : nw 0 = nI mn_0 := by rw [emn_0]; exact (rdOk_mn hO).1
  have hm9 : mn_0 ≤ 10 := by rw [emn_0]; exact (rdOk_mn hO).2
  have kemn_0 : kEq mn_0 (nw 0).toNatClampNeg := emn_0
  clear emn_0
  refine lv_iload_n hx hb dX8_own_0 rfl (lv_at hl 2 rfl) ?_
  refine lv_iload_n hx hb dX8_own_1 rfl (lv_at hl 3 rfl) ?_
  refine k_ai (wr := [(m0, .inr (8, [.int rf, .ref sc0, .int (nI ss), .int (nI sp), .int ig, .int lo, .ref rd0, .ref nw0, .ref tr0, .ref di0, .int (nI ac), .ref ke0, .ref ik0, .ref cp0, .ref cn0, .ref be0])), (nw0, .inl (g 0, 748, .inl nw)), (di0, .inl (g 0, 10472, .inl di))]) (w2 := [(m0, .inr (8, [.int rf, .ref sc0, .int (nI ss), .int (nI sp), .int ig, .int lo, .ref rd0, .ref nw0, .ref tr0, .ref di0, .int (nI ac), .ref ke0, .ref ik0, .ref cp0, .ref cn0, .ref be0])), (nw0, .inl (g 0, 748, .inl nw)), (di0, .inl (g 0, 10472, .inl di))]) (va_runS (As := [.int al, .int ah]) (rest := []) ⟨hx, hb, hml, hown, hts⟩ (c_X8_isRange l D g H.size al ah) (va_cwS 2 hts gX8_own_X8_isRange rfl rfl rfl (by decide +kernel) (k_lvl (by omega) (by decide))) (kPS hP hD hK hS hA hE [] rfl (by decide)) rfl rfl hl.1 rfl (lv_room (Nat.le_of_ble_eq_true rfl)) dX8_own_2 ⟨Nat.le_of_ble_eq_true rfl, Nat.le_of_ble_eq_true rfl⟩) hP hD hS hA [] [0, 1, 2] [0, 1, 2] rfl rfl (by decide) (by decide) rfl (by decide) (fun H locs hP hD hS => ?_)
  refine lv_if_eq (tgt := 22) hx hb dX8_own_5 (by decide) (fun c_1 => ?_) (fun c_1 => ?_)
  · refine lv_iconst (v := 0) hx hb dX8_own_22 (by decide) ?_
    refine lv_istore (lv' := [(6, .int 0), (0, .ref m0), (1, .int pa), (2, .int al), (3, .int ah), (4, .int gl), (5, .int gh)]) hx hb dX8_own_23 hl (by decide) rfl (fun ls hl => ?_)
    refine lv_aload_n hx hb dX8_own_25 rfl (lv_at hl 1 rfl) ?_
    refine lv_aload_n hx hb dX8_own_26 rfl (lv_at hl 1 rfl) ?_
    refine lv_iload_n hx hb dX8_own_27 rfl (lv_at hl 2 rfl) ?_
    refine k_ai (wr := [(di0, .inl (g 0, 10472, .inl di))]) (w2 := [(m0, .inr (8, [.int rf, .ref sc0, .int (nI ss), .int (nI sp), .int ig, .int lo, .ref rd0, .ref nw0, .ref tr0, .ref di0, .int (nI ac), .ref ke0, .ref ik0, .ref cp0, .ref cn0, .ref be0])), (nw0, .inl (g 0, 748, .inl nw)), (di0, .inl (g 0, 10472, .inl di))]) (va_runV (As := [.int pa]) (rest := [.ref m0]) ⟨hx, hb, hml, hown, hts⟩ (c_X8_isPart l D g m0 sc0 rd0 nw0 tr0 di0 ke0 ik0 cp0 cn0 be0 H.size rf ss sp ig lo ac nw pa) (cwV 1 hts gX8_own_X8_isPart rfl rfl rfl (by decide +kernel) (k_lvl (by omega) (by decide))) (kPV hP hD hK hS hA hE [0, 1] rfl (by decide) 0 8 rfl rfl rfl) rfl rfl hl.1 rfl (lv_room (Nat.le_of_ble_eq_true rfl)) dX8_own_28 ⟨Nat.le_of_ble_eq_true rfl, Nat.le_of_ble_eq_true rfl⟩) hP hD hS hA [0, 1] [2] [1, 2, 0] rfl rfl (by decide) (by decide) rfl (by decide) (fun H locs hP hD hS => ?_)
    refine lv_if_ne (tgt := 38) hx hb dX8_own_31 (by decide) (fun c_2 => ?_) (fun c_2 => ?_)
    · refine lv_iload hx hb dX8_own_38 (lv_at hl 0 rfl) ?_
      refine lv_if_eq (tgt := 47) hx hb dX8_own_40 (by decide) (fun _ => ?_) (fun c_3 => absurd c_3 (by decide))
      refine lv_iconst (v := 2) hx hb dX8_own_47 (by decide) ?_
      have emn_0 : (nw 0).toNatClampNeg = mn_0 := Eq.symm kemn_0
      subst emn_0
      have h9 : (kc_X8_own nw pa al ah gl gh) = 2 := (if_pos c_1).trans ((if_neg c_2).trans (rfl))
      rw [hk] at h9
      exact absurd h9 (by decide)
    · refine lv_iconst (v := 1) hx hb dX8_own_34 (by decide) ?_
      refine lv_goto (tgt := 48) hx hb dX8_own_35 (by decide) ?_
      have emn_0 : (nw 0).toNatClampNeg = mn_0 := Eq.symm kemn_0
      subst emn_0
      have h9 : (kc_X8_own nw pa al ah gl gh) = 1 := (if_pos c_1).trans ((if_pos c_2).trans (rfl))
      rw [hk] at h9
      exact absurd h9 (by decide)
  · refine lv_iload hx hb dX8_own_8 (lv_at hl 4 rfl) ?_
    refine lv_iload hx hb dX8_own_10 (lv_at hl 5 rfl) ?_
    refine k_ai (wr := [(m0, .inr (8, [.int rf, .ref sc0, .int (nI ss), .int (nI sp), .int ig, .int lo, .ref rd0, .ref nw0, .ref tr0, .ref di0, .int (nI ac), .ref ke0, .ref ik0, .ref cp0, .ref cn0, .ref be0])), (nw0, .inl (g 0, 748, .inl nw)), (di0, .inl (g 0, 10472, .inl di))]) (w2 := [(m0, .inr (8, [.int rf, .ref sc0, .int (nI ss), .int (nI sp), .int ig, .int lo, .ref rd0, .ref nw0, .ref tr0, .ref di0, .int (nI ac), .ref ke0, .ref ik0, .ref cp0, .ref cn0, .ref be0])), (nw0, .inl (g 0, 748, .inl nw)), (di0, .inl (g 0, 10472, .inl di))]) (va_runS (As := [.int gl, .int gh]) (rest := []) ⟨hx, hb, hml, hown, hts⟩ (c_X8_isRange l D g H.size gl gh) (va_cwS 2 hts gX8_own_X8_isRange rfl rfl rfl (by decide +kernel) (k_lvl (by omega) (by decide))) (kPS hP hD hK hS hA hE [] rfl (by decide)) rfl rfl hl.1 rfl (lv_room (Nat.le_of_ble_eq_true rfl)) dX8_own_12 ⟨Nat.le_of_ble_eq_true rfl, Nat.le_of_ble_eq_true rfl⟩) hP hD hS hA [] [0, 1, 2] [0, 1, 2] rfl rfl (by decide) (by decide) rfl (by decide) (fun H locs hP hD hS => ?_)
    refine lv_if_eq (tgt := 22) hx hb dX8_own_15 (by decide) (fun c_4 => ?_) (fun c_4 => ?_)
    · refine lv_iconst (v := 0) hx hb dX8_own_22 (by decide) ?_
      refine lv_istore (lv' := [(6, .int 0), (0, .ref m0), (1, .int pa), (2, .int al), (3, .int ah), (4, .int gl), (5, .int gh)]) hx hb dX8_own_23 hl (by decide) rfl (fun ls hl => ?_)
      refine lv_aload_n hx hb dX8_own_25 rfl (lv_at hl 1 rfl) ?_
      refine lv_aload_n hx hb dX8_own_26 rfl (lv_at hl 1 rfl) ?_
      refine lv_iload_n hx hb dX8_own_27 rfl (lv_at hl 2 rfl) ?_
      refine k_ai (wr := [(di0, .inl (g 0, 10472, .inl di))]) (w2 := [(m0, .inr (8, [.int rf, .ref sc0, .int (nI ss), .int (nI sp), .int ig, .int lo, .ref rd0, .ref nw0, .ref tr0, .ref di0, .int (nI ac), .ref ke0, .ref ik0, .ref cp0, .ref cn0, .ref be0])), (nw0, .inl (g 0, 748, .inl nw)), (di0, .inl (g 0, 10472, .inl di))]) (va_runV (As := [.int pa]) (rest := [.ref m0]) ⟨hx, hb, hml, hown, hts⟩ (c_X8_isPart l D g m0 sc0 rd0 nw0 tr0 di0 ke0 ik0 cp0 cn0 be0 H.size rf ss sp ig lo ac nw pa) (cwV 1 hts gX8_own_X8_isPart rfl rfl rfl (by decide +kernel) (k_lvl (by omega) (by decide))) (kPV hP hD hK hS hA hE [0, 1] rfl (by decide) 0 8 rfl rfl rfl) rfl rfl hl.1 rfl (lv_room (Nat.le_of_ble_eq_true rfl)) dX8_own_28 ⟨Nat.le_of_ble_eq_true rfl, Nat.le_of_ble_eq_true rfl⟩) hP hD hS hA [0, 1] [2] [1, 2, 0] rfl rfl (by decide) (by decide) rfl (by decide) (fun H locs hP hD hS => ?_)
      refine lv_if_ne (tgt := 38) hx hb dX8_own_31 (by decide) (fun c_5 => ?_) (fun c_5 => ?_)
      · refine lv_iload hx hb dX8_own_38 (lv_at hl 0 rfl) ?_
        refine lv_if_eq (tgt := 47) hx hb dX8_own_40 (by decide) (fun _ => ?_) (fun c_6 => absurd c_6 (by decide))
        refine lv_iconst (v := 2) hx hb dX8_own_47 (by decide) ?_
        have emn_0 : (nw 0).toNatClampNeg = mn_0 := Eq.symm kemn_0
        subst emn_0
        have h9 : (kc_X8_own nw pa al ah gl gh) = 2 := (if_neg c_1).trans ((if_pos c_4).trans ((if_neg c_5).trans (rfl)))
        rw [hk] at h9
        exact absurd h9 (by decide)
      · refine lv_iconst (v := 1) hx hb dX8_own_34 (by decide) ?_
        refine lv_goto (tgt := 48) hx hb dX8_own_35 (by decide) ?_
        have emn_0 : (nw 0).toNatClampNeg = mn_0 := Eq.symm kemn_0
        subst emn_0
        have h9 : (kc_X8_own nw pa al ah gl gh) = 1 := (if_neg c_1).trans ((if_pos c_4).trans ((if_pos c_5).trans (rfl)))
        rw [hk] at h9
        exact absurd h9 (by decide)
    · refine lv_iconst (v := 1) hx hb dX8_own_18 (by decide) ?_
      refine lv_goto (tgt := 23) hx hb dX8_own_19 (by decide) ?_
      refine lv_istore (lv' := [(6, .int 1), (0, .ref m0), (1, .int pa), (2, .int al), (3, .int ah), (4, .int gl), (5, .int gh)]) hx hb dX8_own_23 hl (by decide) rfl (fun ls hl => ?_)
      refine lv_aload_n hx hb dX8_own_25 rfl (lv_at hl 1 rfl) ?_
      refine lv_aload_n hx hb dX8_own_26 rfl (lv_at hl 1 rfl) ?_
      refine lv_iload_n hx hb dX8_own_27 rfl (lv_at hl 2 rfl) ?_
      refine k_ai (wr := [(di0, .inl (g 0, 10472, .inl di))]) (w2 := [(m0, .inr (8, [.int rf, .ref sc0, .int (nI ss), .int (nI sp), .int ig, .int lo, .ref rd0, .ref nw0, .ref tr0, .ref di0, .int (nI ac), .ref ke0, .ref ik0, .ref cp0, .ref cn0, .ref be0])), (nw0, .inl (g 0, 748, .inl nw)), (di0, .inl (g 0, 10472, .inl di))]) (va_runV (As := [.int pa]) (rest := [.ref m0]) ⟨hx, hb, hml, hown, hts⟩ (c_X8_isPart l D g m0 sc0 rd0 nw0 tr0 di0 ke0 ik0 cp0 cn0 be0 H.size rf ss sp ig lo ac nw pa) (cwV 1 hts gX8_own_X8_isPart rfl rfl rfl (by decide +kernel) (k_lvl (by omega) (by decide))) (kPV hP hD hK hS hA hE [0, 1] rfl (by decide) 0 8 rfl rfl rfl) rfl rfl hl.1 rfl (lv_room (Nat.le_of_ble_eq_true rfl)) dX8_own_28 ⟨Nat.le_of_ble_eq_true rfl, Nat.le_of_ble_eq_true rfl⟩) hP hD hS hA [0, 1] [2] [1, 2, 0] rfl rfl (by decide) (by decide) rfl (by decide) (fun H locs hP hD hS => ?_)
      refine lv_if_ne (tgt := 38) hx hb dX8_own_31 (by decide) (fun c_7 => ?_) (fun c_7 => ?_)
      · refine lv_iload hx hb dX8_own_38 (lv_at hl 0 rfl) ?_
        refine lv_if_eq (tgt := 47) hx hb dX8_own_40 (by decide) (fun c_8 => absurd c_8 (by decide)) (fun _ => ?_)
        refine lv_iconst (v := 0) hx hb dX8_own_43 (by decide) ?_
        refine lv_goto (tgt := 48) hx hb dX8_own_44 (by decide) ?_
        refine k_ai (wr := [(nw0, .inl (g 0, 748, .inl nw)), (di0, .inl (g 0, 10472, .inl di))]) (w2 := [(m0, .inr (8, [.int 0, .ref sc0, .int (nI ss), .int (nI sp), .int ig, .int lo, .ref rd0, .ref nw0, .ref tr0, .ref di0, .int (nI ac), .ref ke0, .ref ik0, .ref cp0, .ref cn0, .ref be0])), (nw0, .inl (g 0, 748, .inl nw)), (di0, .inl (g 0, 10472, .inl di))]) (va_runV (As := [.int 0]) (rest := []) ⟨hx, hb, hml, hown, hts⟩ (c_X8_refused0 l D g m0 sc0 rd0 nw0 tr0 di0 ke0 ik0 cp0 cn0 be0 H.size rf ss sp ig lo ac) (cwV 1 hts gX8_own_X8_refused rfl rfl rfl (by decide +kernel) (k_lvl (by omega) (by decide))) (kPV hP hD hK hS hA hE [0] rfl (by decide) 0 8 rfl rfl rfl) rfl rfl hl.1 rfl (lv_room (Nat.le_of_ble_eq_true rfl)) dX8_own_48 ⟨Nat.le_of_ble_eq_true rfl, Nat.le_of_ble_eq_true rfl⟩) hP hD hS hA [0] [1, 2] [2, 0, 1] rfl rfl (by decide) (by decide) rfl (by decide) (fun H locs hP hD hS => ?_)
        refine lv_if_eq (tgt := 56) hx hb dX8_own_51 (by decide) (fun _ => ?_) (fun c_9 => absurd c_9 (by decide))
        obtain ⟨pa_0, epa_0⟩ : ∃ z, z = pa.toNatClampNeg := ⟨_, rfl⟩
        have qpa_0 : pa = nI pa_0 := by rw [epa_0]; exact (isPart_N c_7 hmn hm9).1
        have bpa_0 : pa_0 < mn_0 := by rw [epa_0]; exact (isPart_N c_7 hmn hm9).2
        have kepa_0 : kEq pa_0 pa.toNatClampNeg := epa_0
        clear epa_0
        have hl : lv_has ls 7 [(6, .int 1), (0, .ref m0), (1, .int (nI pa_0)), (2, .int al), (3, .int ah), (4, .int gl), (5, .int gh)] := by
          have h9 := hl
          rw [qpa_0] at h9
          exact h9
        refine lv_aload_n hx hb dX8_own_56 rfl (lv_at hl 1 rfl) ?_
        have hC := c_X8_remember l D g m0 sc0 rd0 nw0 tr0 di0 ke0 ik0 cp0 cn0 be0 H.size 0 ss sp ig lo ac nw di (by omega)
        obtain ⟨v_10, ev_10⟩ : ∃ z, z = (f_X8_remember ac nw di) := ⟨_, rfl⟩
        rw [← ev_10] at hC
        have kev_10 : kEq v_10 (f_X8_remember ac nw di) := ev_10
        clear ev_10
        refine k_av (wr := []) (w2 := [(m0, .inr (8, [.int 0, .ref sc0, .int (nI ss), .int (nI sp), .int ig, .int lo, .ref rd0, .ref nw0, .ref tr0, .ref di0, .int (nI v_10.1), .ref ke0, .ref ik0, .ref cp0, .ref cn0, .ref be0])), (nw0, .inl (g 0, 748, .inl nw)), (di0, .inl (g 0, 10472, .inl v_10.2))]) (va_runV (As := []) (rest := []) ⟨hx, hb, hml, hown, hts⟩ hC (cwV 0 hts gX8_own_X8_remember rfl rfl rfl (by decide +kernel) (k_lvl (by omega) (by decide))) (kPV hP hD hK hS hA hE [0, 1, 2] rfl (by decide) 0 8 rfl rfl rfl) rfl rfl hl.1 rfl (lv_room (Nat.le_of_ble_eq_true rfl)) dX8_own_57 ⟨Nat.le_of_ble_eq_true rfl, Nat.le_of_ble_eq_true rfl⟩) hP hD hS hA [0, 1, 2] [] [0, 1, 2] rfl rfl (by decide) (by decide) rfl (by decide) (fun H locs hP hD hS => ?_)
        refine lv_aload_n hx hb dX8_own_60 rfl (lv_at hl 1 rfl) ?_
        refine va_get (D := D) (ci := 8) (v := .ref nw0) (C := RX8) (T := TX8) (N := 16) hx hb hts (fun w h => (List.mem_cons_of_mem _ (List.mem_append_right _ h))) hown hK hP 0 rfl rfl 7 (by decide) (hts _ qX8_own_0) (fun _ h9 => h9) rfl dX8_own_61 ?_
        refine lv_iconst (v := 0) hx hb dX8_own_64 (by decide) ?_
        refine lv_iload_n hx hb dX8_own_65 rfl (lv_at hl 2 rfl) ?_
        refine lv_iload_n hx hb dX8_own_66 rfl (lv_at hl 3 rfl) ?_
        refine lv_iload_n hx hb dX8_own_67 rfl (lv_at hl 4 rfl) ?_
        refine lv_iload hx hb dX8_own_68 (lv_at hl 5 rfl) ?_
        refine lv_iload hx hb dX8_own_70 (lv_at hl 6 rfl) ?_
        refine k_av (wr := [(m0, .inr (8, [.int 0, .ref sc0, .int (nI ss), .int (nI sp), .int ig, .int lo, .ref rd0, .ref nw0, .ref tr0, .ref di0, .int (nI v_10.1), .ref ke0, .ref ik0, .ref cp0, .ref cn0, .ref be0])), (di0, .inl (g 0, 10472, .inl v_10.2))]) (w2 := [(m0, .inr (8, [.int 0, .ref sc0, .int (nI ss), .int (nI sp), .int ig, .int lo, .ref rd0, .ref nw0, .ref tr0, .ref di0, .int (nI v_10.1), .ref ke0, .ref ik0, .ref cp0, .ref cn0, .ref be0])), (nw0, .inl (g 0, 748, .inl (f_X8_promise nw 0 pa_0 al ah gl gh))), (di0, .inl (g 0, 10472, .inl v_10.2))]) (va_runS (As := [.ref nw0, .int 0, .int (nI pa_0), .int al, .int ah, .int gl, .int gh]) (rest := []) ⟨hx, hb, hml, hown, hts⟩ (c_X8_promise l D g nw0 H.size nw 0 pa_0 al ah gl gh (by omega) (by omega)) (va_cwS 7 hts gX8_own_X8_promise rfl rfl rfl (by decide +kernel) (k_lvl (by omega) (by decide))) (kPS hP hD hK hS hA hE [1] rfl (by decide)) rfl rfl hl.1 rfl (lv_room (Nat.le_of_ble_eq_true rfl)) dX8_own_72 ⟨Nat.le_of_ble_eq_true rfl, Nat.le_of_ble_eq_true rfl⟩) hP hD hS hA [1] [0, 2] [0, 2, 1] rfl rfl (by decide) (by decide) rfl (by decide) (fun H locs hP hD hS => ?_)
        refine lv_aload_n hx hb dX8_own_75 rfl (lv_at hl 1 rfl) ?_
        refine va_get (D := D) (ci := 8) (v := .ref nw0) (C := RX8) (T := TX8) (N := 16) hx hb hts (fun w h => (List.mem_cons_of_mem _ (List.mem_append_right _ h))) hown hK hP 0 rfl rfl 7 (by decide) (hts _ qX8_own_0) (fun _ h9 => h9) rfl dX8_own_76 ?_
        refine lv_iconst (v := 0) hx hb dX8_own_79 (by decide) ?_
        refine lv_iconst (v := 0) hx hb dX8_own_80 (by decide) ?_
        refine k_ai (wr := [(m0, .inr (8, [.int 0, .ref sc0, .int (nI ss), .int (nI sp), .int ig, .int lo, .ref rd0, .ref nw0, .ref tr0, .ref di0, .int (nI v_10.1), .ref ke0, .ref ik0, .ref cp0, .ref cn0, .ref be0])), (di0, .inl (g 0, 10472, .inl v_10.2))]) (w2 := [(m0, .inr (8, [.int 0, .ref sc0, .int (nI ss), .int (nI sp), .int ig, .int lo, .ref rd0, .ref nw0, .ref tr0, .ref di0, .int (nI v_10.1), .ref ke0, .ref ik0, .ref cp0, .ref cn0, .ref be0])), (nw0, .inl (g 0, 748, .inl (f_X8_promise nw 0 pa_0 al ah gl gh))), (di0, .inl (g 0, 10472, .inl v_10.2))]) (va_runS (As := [.ref nw0, .int 0, .int 0]) (rest := []) ⟨hx, hb, hml, hown, hts⟩ (c_X8_contracts l D g nw0 H.size (f_X8_promise nw 0 pa_0 al ah gl gh) 0 0 mn_0 ((promise_low (by omega)).trans hmn) (by omega) (by omega) (by omega)) (va_cwS 3 hts gX8_own_X8_contracts rfl rfl rfl (by decide +kernel) (k_lvl (by omega) (by decide))) (kPS hP hD hK hS hA hE [1] rfl (by decide)) rfl rfl hl.1 rfl (lv_room (Nat.le_of_ble_eq_true rfl)) dX8_own_81 ⟨Nat.le_of_ble_eq_true rfl, Nat.le_of_ble_eq_true rfl⟩) hP hD hS hA [1] [0, 2] [0, 2, 1] rfl rfl (by decide) (by decide) rfl (by decide) (fun H locs hP hD hS => ?_)
        have ev_10 : (f_X8_remember ac nw di) = v_10 := Eq.symm kev_10
        have epa_0 : pa.toNatClampNeg = pa_0 := Eq.symm kepa_0
        have emn_0 : (nw 0).toNatClampNeg = mn_0 := Eq.symm kemn_0
        have hE2 : (f_X8_own ac nw di pa al ah gl gh) = ((rCnt (f_X8_promise nw 0 pa_0 al ah gl gh) mn_0 0 (0 + 1 - 0)), v_10.1, v_10.2, (f_X8_promise nw 0 pa_0 al ah gl gh)) := by
          subst ev_10
          subst epa_0
          subst emn_0
          exact rfl
        subst hQ
        exact k_ri hx hb hr hlocks hP hD hS dX8_own_84 (by rw [hE2]) (by rw [hE2])
      · refine lv_iconst (v := 1) hx hb dX8_own_34 (by decide) ?_
        refine lv_goto (tgt := 48) hx hb dX8_own_35 (by decide) ?_
        have emn_0 : (nw 0).toNatClampNeg = mn_0 := Eq.symm kemn_0
        subst emn_0
        have h9 : (kc_X8_own nw pa al ah gl gh) = 1 := (if_neg c_1).trans ((if_neg c_4).trans ((if_pos c_7).trans (rfl)))
        rw [hk] at h9
        exact absurd h9 (by decide)
set_option maxHeartbeats 4000000 in
set_option maxRecDepth 100000 in
theorem c_X8_own_bad (l : Launch) (D : va_G) (g : Nat → Nat) (m0 sc0 rd0 nw0 tr0 di0 ke0 ik0 cp0 cn0 be0 : Nat) (sz : Nat) (rf : Int32) (ss : Nat) (sp : Nat) (ig : Int32) (lo : Int32) (ac : Nat) (nw : Nat → Int32) (di : Nat → Int32) (pa : Int32) (al : Int32) (ah : Int32) (gl : Int32) (gh : Int32) (hO : rdOk nw) (hac : ac ≤ 14) (hk : ¬ (kc_X8_own nw pa al ah gl gh) = 0) : kMi l D g yX8_own wsX8_own 3 0 0 [.ref m0, .int pa, .int al, .int ah, .int gl, .int gh] [(m0, .inr (8, [.int rf, .ref sc0, .int (nI ss), .int (nI sp), .int ig, .int lo, .ref rd0, .ref nw0, .ref tr0, .ref di0, .int (nI ac), .ref ke0, .ref ik0, .ref cp0, .ref cn0, .ref be0])), (nw0, .inl (g 0, 748, .inl nw)), (di0, .inl (g 0, 10472, .inl di))] sz 0 [(m0, .inr (8, [.int (kc_X8_own nw pa al ah gl gh), .ref sc0, .int (nI ss), .int (nI sp), .int ig, .int lo, .ref rd0, .ref nw0, .ref tr0, .ref di0, .int (nI ac), .ref ke0, .ref ik0, .ref cp0, .ref cn0, .ref be0])), (nw0, .inl (g 0, 748, .inl nw)), (di0, .inl (g 0, 10472, .inl di))] := by
  refine k_enter (nm := "own") (own := RX8) (bytes := cX8_own) (maxL := 7) (ret := (some .int)) (Qf := fun A => kQi D [(m0, .inr (8, [.int (kc_X8_own nw pa al ah gl gh), .ref sc0, .int (nI ss), .int (nI sp), .int ig, .int lo, .ref rd0, .ref nw0, .ref tr0, .ref di0, .int (nI ac), .ref ke0, .ref ik0, .ref cp0, .ref cn0, .ref be0])), (nw0, .inl (g 0, 748, .inl nw)), (di0, .inl (g 0, 10472, .inl di))] A 0) (by decide) rfl rfl rfl (Nat.le_of_ble_eq_true rfl) ?_
  rintro pp ee s mm below meth cc A ls args Q H locs hQ ⟨hx, hb, hr, hml, hown, hts, hlocks, hin⟩ hP hK hD hA hS hE hl
  have hl : lv_has ls 7 [(0, .ref m0), (1, .int pa), (2, .int al), (3, .int ah), (4, .int gl), (5, .int gh)] := hl
  refine lv_iload_n hx hb dX8_own_0 rfl (lv_at hl 2 rfl) ?_
  refine lv_iload_n hx hb dX8_own_1 rfl (lv_at hl 3 rfl) ?_
  refine k_ai (wr := [(m0, .inr (8, [.int rf, .ref sc0, .int (nI ss), .int (nI sp), .int ig, .int lo, .ref rd0, .ref nw0, .ref tr0, .ref di0, .int (nI ac), .ref ke0, .ref ik0, .ref cp0, .ref cn0, .ref be0])), (nw0, .inl (g 0, 748, .inl nw)), (di0, .inl (g 0, 10472, .inl di))]) (w2 := [(m0, .inr (8, [.int rf, .ref sc0, .int (nI ss), .int (nI sp), .int ig, .int lo, .ref rd0, .ref nw0, .ref tr0, .ref di0, .int (nI ac), .ref ke0, .ref ik0, .ref cp0, .ref cn0, .ref be0])), (nw0, .inl (g 0, 748, .inl nw)), (di0, .inl (g 0, 10472, .inl di))]) (va_runS (As := [.int al, .int ah]) (rest := []) ⟨hx, hb, hml, hown, hts⟩ (c_X8_isRange l D g H.size al ah) (va_cwS 2 hts gX8_own_X8_isRange rfl rfl rfl (by decide +kernel) (k_lvl (by omega) (by decide))) (kPS hP hD hK hS hA hE [] rfl (by decide)) rfl rfl hl.1 rfl (lv_room (Nat.le_of_ble_eq_true rfl)) dX8_own_2 ⟨Nat.le_of_ble_eq_true rfl, Nat.le_of_ble_eq_true rfl⟩) hP hD hS hA [] [0, 1, 2] [0, 1, 2] rfl rfl (by decide) (by decide) rfl (by decide) (fun H locs hP hD hS => ?_)
  refine lv_if_eq (tgt := 22) hx hb dX8_own_5 (by decide) (fun c_1 => ?_) (fun c_1 => ?_)
  · refine lv_iconst (v := 0) hx hb dX8_own_22 (by decide) ?_
    refine lv_istore (lv' := [(6, .int 0), (0, .ref m0), (1, .int pa), (2, .int al), (3, .int ah), (4, .int gl), (5, .int gh)]) hx hb dX8_own_23 hl (by decide) rfl (fun ls hl => ?_)
    refine lv_aload_n hx hb dX8_own_25 rfl (lv_at hl 1 rfl) ?_
    refine lv_aload_n hx hb dX8_own_26 rfl (lv_at hl 1 rfl) ?_
    refine lv_iload_n hx hb dX8_own_27 rfl (lv_at hl 2 rfl) ?_
    refine k_ai (wr := [(di0, .inl (g 0, 10472, .inl di))]) (w2 := [(m0, .inr (8, [.int rf, .ref sc0, .int (nI ss), .int (nI sp), .int ig, .int lo, .ref rd0, .ref nw0, .ref tr0, .ref di0, .int (nI ac), .ref ke0, .ref ik0, .ref cp0, .ref cn0, .ref be0])), (nw0, .inl (g 0, 748, .inl nw)), (di0, .inl (g 0, 10472, .inl di))]) (va_runV (As := [.int pa]) (rest := [.ref m0]) ⟨hx, hb, hml, hown, hts⟩ (c_X8_isPart l D g m0 sc0 rd0 nw0 tr0 di0 ke0 ik0 cp0 cn0 be0 H.size rf ss sp ig lo ac nw pa) (cwV 1 hts gX8_own_X8_isPart rfl rfl rfl (by decide +kernel) (k_lvl (by omega) (by decide))) (kPV hP hD hK hS hA hE [0, 1] rfl (by decide) 0 8 rfl rfl rfl) rfl rfl hl.1 rfl (lv_room (Nat.le_of_ble_eq_true rfl)) dX8_own_28 ⟨Nat.le_of_ble_eq_true rfl, Nat.le_of_ble_eq_true rfl⟩) hP hD hS hA [0, 1] [2] [1, 2, 0] rfl rfl (by decide) (by decide) rfl (by decide) (fun H locs hP hD hS => ?_)
    refine lv_if_ne (tgt := 38) hx hb dX8_own_31 (by decide) (fun c_2 => ?_) (fun c_2 => ?_)
    · refine lv_iload hx hb dX8_own_38 (lv_at hl 0 rfl) ?_
      refine lv_if_eq (tgt := 47) hx hb dX8_own_40 (by decide) (fun _ => ?_) (fun c_3 => absurd c_3 (by decide))
      refine lv_iconst (v := 2) hx hb dX8_own_47 (by decide) ?_
      refine k_ai (wr := [(nw0, .inl (g 0, 748, .inl nw)), (di0, .inl (g 0, 10472, .inl di))]) (w2 := [(m0, .inr (8, [.int 2, .ref sc0, .int (nI ss), .int (nI sp), .int ig, .int lo, .ref rd0, .ref nw0, .ref tr0, .ref di0, .int (nI ac), .ref ke0, .ref ik0, .ref cp0, .ref cn0, .ref be0])), (nw0, .inl (g 0, 748, .inl nw)), (di0, .inl (g 0, 10472, .inl di))]) (va_runV (As := [.int 2]) (rest := []) ⟨hx, hb, hml, hown, hts⟩ (c_X8_refused2 l D g m0 sc0 rd0 nw0 tr0 di0 ke0 ik0 cp0 cn0 be0 H.size rf ss sp ig lo ac) (cwV 1 hts gX8_own_X8_refused rfl rfl rfl (by decide +kernel) (k_lvl (by omega) (by decide))) (kPV hP hD hK hS hA hE [0] rfl (by decide) 0 8 rfl rfl rfl) rfl rfl hl.1 rfl (lv_room (Nat.le_of_ble_eq_true rfl)) dX8_own_48 ⟨Nat.le_of_ble_eq_true rfl, Nat.le_of_ble_eq_true rfl⟩) hP hD hS hA [0] [1, 2] [2, 0, 1] rfl rfl (by decide) (by decide) rfl (by decide) (fun H locs hP hD hS => ?_)
      refine lv_if_eq (tgt := 56) hx hb dX8_own_51 (by decide) (fun c_4 => absurd c_4 (by decide)) (fun _ => ?_)
      refine lv_iconst (v := 0) hx hb dX8_own_54 (by decide) ?_
      subst hQ
      exact k_ri hx hb hr hlocks hP hD hS dX8_own_55 (rfl) (by rw [show (kc_X8_own nw pa al ah gl gh) = 2 from (if_pos c_1).trans ((if_neg c_2).trans (rfl))])
    · refine lv_iconst (v := 1) hx hb dX8_own_34 (by decide) ?_
      refine lv_goto (tgt := 48) hx hb dX8_own_35 (by decide) ?_
      refine k_ai (wr := [(nw0, .inl (g 0, 748, .inl nw)), (di0, .inl (g 0, 10472, .inl di))]) (w2 := [(m0, .inr (8, [.int 1, .ref sc0, .int (nI ss), .int (nI sp), .int ig, .int lo, .ref rd0, .ref nw0, .ref tr0, .ref di0, .int (nI ac), .ref ke0, .ref ik0, .ref cp0, .ref cn0, .ref be0])), (nw0, .inl (g 0, 748, .inl nw)), (di0, .inl (g 0, 10472, .inl di))]) (va_runV (As := [.int 1]) (rest := []) ⟨hx, hb, hml, hown, hts⟩ (c_X8_refused1 l D g m0 sc0 rd0 nw0 tr0 di0 ke0 ik0 cp0 cn0 be0 H.size rf ss sp ig lo ac) (cwV 1 hts gX8_own_X8_refused rfl rfl rfl (by decide +kernel) (k_lvl (by omega) (by decide))) (kPV hP hD hK hS hA hE [0] rfl (by decide) 0 8 rfl rfl rfl) rfl rfl hl.1 rfl (lv_room (Nat.le_of_ble_eq_true rfl)) dX8_own_48 ⟨Nat.le_of_ble_eq_true rfl, Nat.le_of_ble_eq_true rfl⟩) hP hD hS hA [0] [1, 2] [2, 0, 1] rfl rfl (by decide) (by decide) rfl (by decide) (fun H locs hP hD hS => ?_)
      refine lv_if_eq (tgt := 56) hx hb dX8_own_51 (by decide) (fun c_5 => absurd c_5 (by decide)) (fun _ => ?_)
      refine lv_iconst (v := 0) hx hb dX8_own_54 (by decide) ?_
      subst hQ
      exact k_ri hx hb hr hlocks hP hD hS dX8_own_55 (rfl) (by rw [show (kc_X8_own nw pa al ah gl gh) = 1 from (if_pos c_1).trans ((if_pos c_2).trans (rfl))])
  · refine lv_iload hx hb dX8_own_8 (lv_at hl 4 rfl) ?_
    refine lv_iload hx hb dX8_own_10 (lv_at hl 5 rfl) ?_
    refine k_ai (wr := [(m0, .inr (8, [.int rf, .ref sc0, .int (nI ss), .int (nI sp), .int ig, .int lo, .ref rd0, .ref nw0, .ref tr0, .ref di0, .int (nI ac), .ref ke0, .ref ik0, .ref cp0, .ref cn0, .ref be0])), (nw0, .inl (g 0, 748, .inl nw)), (di0, .inl (g 0, 10472, .inl di))]) (w2 := [(m0, .inr (8, [.int rf, .ref sc0, .int (nI ss), .int (nI sp), .int ig, .int lo, .ref rd0, .ref nw0, .ref tr0, .ref di0, .int (nI ac), .ref ke0, .ref ik0, .ref cp0, .ref cn0, .ref be0])), (nw0, .inl (g 0, 748, .inl nw)), (di0, .inl (g 0, 10472, .inl di))]) (va_runS (As := [.int gl, .int gh]) (rest := []) ⟨hx, hb, hml, hown, hts⟩ (c_X8_isRange l D g H.size gl gh) (va_cwS 2 hts gX8_own_X8_isRange rfl rfl rfl (by decide +kernel) (k_lvl (by omega) (by decide))) (kPS hP hD hK hS hA hE [] rfl (by decide)) rfl rfl hl.1 rfl (lv_room (Nat.le_of_ble_eq_true rfl)) dX8_own_12 ⟨Nat.le_of_ble_eq_true rfl, Nat.le_of_ble_eq_true rfl⟩) hP hD hS hA [] [0, 1, 2] [0, 1, 2] rfl rfl (by decide) (by decide) rfl (by decide) (fun H locs hP hD hS => ?_)
    refine lv_if_eq (tgt := 22) hx hb dX8_own_15 (by decide) (fun c_6 => ?_) (fun c_6 => ?_)
    · refine lv_iconst (v := 0) hx hb dX8_own_22 (by decide) ?_
      refine lv_istore (lv' := [(6, .int 0), (0, .ref m0), (1, .int pa), (2, .int al), (3, .int ah), (4, .int gl), (5, .int gh)]) hx hb dX8_own_23 hl (by decide) rfl (fun ls hl => ?_)
      refine lv_aload_n hx hb dX8_own_25 rfl (lv_at hl 1 rfl) ?_
      refine lv_aload_n hx hb dX8_own_26 rfl (lv_at hl 1 rfl) ?_
      refine lv_iload_n hx hb dX8_own_27 rfl (lv_at hl 2 rfl) ?_
      refine k_ai (wr := [(di0, .inl (g 0, 10472, .inl di))]) (w2 := [(m0, .inr (8, [.int rf, .ref sc0, .int (nI ss), .int (nI sp), .int ig, .int lo, .ref rd0, .ref nw0, .ref tr0, .ref di0, .int (nI ac), .ref ke0, .ref ik0, .ref cp0, .ref cn0, .ref be0])), (nw0, .inl (g 0, 748, .inl nw)), (di0, .inl (g 0, 10472, .inl di))]) (va_runV (As := [.int pa]) (rest := [.ref m0]) ⟨hx, hb, hml, hown, hts⟩ (c_X8_isPart l D g m0 sc0 rd0 nw0 tr0 di0 ke0 ik0 cp0 cn0 be0 H.size rf ss sp ig lo ac nw pa) (cwV 1 hts gX8_own_X8_isPart rfl rfl rfl (by decide +kernel) (k_lvl (by omega) (by decide))) (kPV hP hD hK hS hA hE [0, 1] rfl (by decide) 0 8 rfl rfl rfl) rfl rfl hl.1 rfl (lv_room (Nat.le_of_ble_eq_true rfl)) dX8_own_28 ⟨Nat.le_of_ble_eq_true rfl, Nat.le_of_ble_eq_true rfl⟩) hP hD hS hA [0, 1] [2] [1, 2, 0] rfl rfl (by decide) (by decide) rfl (by decide) (fun H locs hP hD hS => ?_)
      refine lv_if_ne (tgt := 38) hx hb dX8_own_31 (by decide) (fun c_7 => ?_) (fun c_7 => ?_)
      · refine lv_iload hx hb dX8_own_38 (lv_at hl 0 rfl) ?_
        refine lv_if_eq (tgt := 47) hx hb dX8_own_40 (by decide) (fun _ => ?_) (fun c_8 => absurd c_8 (by decide))
        refine lv_iconst (v := 2) hx hb dX8_own_47 (by decide) ?_
        refine k_ai (wr := [(nw0, .inl (g 0, 748, .inl nw)), (di0, .inl (g 0, 10472, .inl di))]) (w2 := [(m0, .inr (8, [.int 2, .ref sc0, .int (nI ss), .int (nI sp), .int ig, .int lo, .ref rd0, .ref nw0, .ref tr0, .ref di0, .int (nI ac), .ref ke0, .ref ik0, .ref cp0, .ref cn0, .ref be0])), (nw0, .inl (g 0, 748, .inl nw)), (di0, .inl (g 0, 10472, .inl di))]) (va_runV (As := [.int 2]) (rest := []) ⟨hx, hb, hml, hown, hts⟩ (c_X8_refused2 l D g m0 sc0 rd0 nw0 tr0 di0 ke0 ik0 cp0 cn0 be0 H.size rf ss sp ig lo ac) (cwV 1 hts gX8_own_X8_refused rfl rfl rfl (by decide +kernel) (k_lvl (by omega) (by decide))) (kPV hP hD hK hS hA hE [0] rfl (by decide) 0 8 rfl rfl rfl) rfl rfl hl.1 rfl (lv_room (Nat.le_of_ble_eq_true rfl)) dX8_own_48 ⟨Nat.le_of_ble_eq_true rfl, Nat.le_of_ble_eq_true rfl⟩) hP hD hS hA [0] [1, 2] [2, 0, 1] rfl rfl (by decide) (by decide) rfl (by decide) (fun H locs hP hD hS => ?_)
        refine lv_if_eq (tgt := 56) hx hb dX8_own_51 (by decide) (fun c_9 => absurd c_9 (by decide)) (fun _ => ?_)
        refine lv_iconst (v := 0) hx hb dX8_own_54 (by decide) ?_
        subst hQ
        exact k_ri hx hb hr hlocks hP hD hS dX8_own_55 (rfl) (by rw [show (kc_X8_own nw pa al ah gl gh) = 2 from (if_neg c_1).trans ((if_pos c_6).trans ((if_neg c_7).trans (rfl)))])
      · refine lv_iconst (v := 1) hx hb dX8_own_34 (by decide) ?_
        refine lv_goto (tgt := 48) hx hb dX8_own_35 (by decide) ?_
        refine k_ai (wr := [(nw0, .inl (g 0, 748, .inl nw)), (di0, .inl (g 0, 10472, .inl di))]) (w2 := [(m0, .inr (8, [.int 1, .ref sc0, .int (nI ss), .int (nI sp), .int ig, .int lo, .ref rd0, .ref nw0, .ref tr0, .ref di0, .int (nI ac), .ref ke0, .ref ik0, .ref cp0, .ref cn0, .ref be0])), (nw0, .inl (g 0, 748, .inl nw)), (di0, .inl (g 0, 10472, .inl di))]) (va_runV (As := [.int 1]) (rest := []) ⟨hx, hb, hml, hown, hts⟩ (c_X8_refused1 l D g m0 sc0 rd0 nw0 tr0 di0 ke0 ik0 cp0 cn0 be0 H.size rf ss sp ig lo ac) (cwV 1 hts gX8_own_X8_refused rfl rfl rfl (by decide +kernel) (k_lvl (by omega) (by decide))) (kPV hP hD hK hS hA hE [0] rfl (by decide) 0 8 rfl rfl rfl) rfl rfl hl.1 rfl (lv_room (Nat.le_of_ble_eq_true rfl)) dX8_own_48 ⟨Nat.le_of_ble_eq_true rfl, Nat.le_of_ble_eq_true rfl⟩) hP hD hS hA [0] [1, 2] [2, 0, 1] rfl rfl (by decide) (by decide) rfl (by decide) (fun H locs hP hD hS => ?_)
        refine lv_if_eq (tgt := 56) hx hb dX8_own_51 (by decide) (fun c_10 => absurd c_10 (by decide)) (fun _ => ?_)
        refine lv_iconst (v := 0) hx hb dX8_own_54 (by decide) ?_
        subst hQ
        exact k_ri hx hb hr hlocks hP hD hS dX8_own_55 (rfl) (by rw [show (kc_X8_own nw pa al ah gl gh) = 1 from (if_neg c_1).trans ((if_pos c_6).trans ((if_pos c_7).trans (rfl)))])
    · refine lv_iconst (v := 1) hx hb dX8_own_18 (by decide) ?_
      refine lv_goto (tgt := 23) hx hb dX8_own_19 (by decide) ?_
      refine lv_istore (lv' := [(6, .int 1), (0, .ref m0), (1, .int pa), (2, .int al), (3, .int ah), (4, .int gl), (5, .int gh)]) hx hb dX8_own_23 hl (by decide) rfl (fun ls hl => ?_)
      refine lv_aload_n hx hb dX8_own_25 rfl (lv_at hl 1 rfl) ?_
      refine lv_aload_n hx hb dX8_own_26 rfl (lv_at hl 1 rfl) ?_
      refine lv_iload_n hx hb dX8_own_27 rfl (lv_at hl 2 rfl) ?_
      refine k_ai (wr := [(di0, .inl (g 0, 10472, .inl di))]) (w2 := [(m0, .inr (8, [.int rf, .ref sc0, .int (nI ss), .int (nI sp), .int ig, .int lo, .ref rd0, .ref nw0, .ref tr0, .ref di0, .int (nI ac), .ref ke0, .ref ik0, .ref cp0, .ref cn0, .ref be0])), (nw0, .inl (g 0, 748, .inl nw)), (di0, .inl (g 0, 10472, .inl di))]) (va_runV (As := [.int pa]) (rest := [.ref m0]) ⟨hx, hb, hml, hown, hts⟩ (c_X8_isPart l D g m0 sc0 rd0 nw0 tr0 di0 ke0 ik0 cp0 cn0 be0 H.size rf ss sp ig lo ac nw pa) (cwV 1 hts gX8_own_X8_isPart rfl rfl rfl (by decide +kernel) (k_lvl (by omega) (by decide))) (kPV hP hD hK hS hA hE [0, 1] rfl (by decide) 0 8 rfl rfl rfl) rfl rfl hl.1 rfl (lv_room (Nat.le_of_ble_eq_true rfl)) dX8_own_28 ⟨Nat.le_of_ble_eq_true rfl, Nat.le_of_ble_eq_true rfl⟩) hP hD hS hA [0, 1] [2] [1, 2, 0] rfl rfl (by decide) (by decide) rfl (by decide) (fun H locs hP hD hS => ?_)
      refine lv_if_ne (tgt := 38) hx hb dX8_own_31 (by decide) (fun c_11 => ?_) (fun c_11 => ?_)
      · refine lv_iload hx hb dX8_own_38 (lv_at hl 0 rfl) ?_
        refine lv_if_eq (tgt := 47) hx hb dX8_own_40 (by decide) (fun c_12 => absurd c_12 (by decide)) (fun _ => ?_)
        refine lv_iconst (v := 0) hx hb dX8_own_43 (by decide) ?_
        refine lv_goto (tgt := 48) hx hb dX8_own_44 (by decide) ?_
        have h9 : (kc_X8_own nw pa al ah gl gh) = 0 := (if_neg c_1).trans ((if_neg c_6).trans ((if_neg c_11).trans (rfl)))
        exact absurd h9 hk
      · refine lv_iconst (v := 1) hx hb dX8_own_34 (by decide) ?_
        refine lv_goto (tgt := 48) hx hb dX8_own_35 (by decide) ?_
        refine k_ai (wr := [(nw0, .inl (g 0, 748, .inl nw)), (di0, .inl (g 0, 10472, .inl di))]) (w2 := [(m0, .inr (8, [.int 1, .ref sc0, .int (nI ss), .int (nI sp), .int ig, .int lo, .ref rd0, .ref nw0, .ref tr0, .ref di0, .int (nI ac), .ref ke0, .ref ik0, .ref cp0, .ref cn0, .ref be0])), (nw0, .inl (g 0, 748, .inl nw)), (di0, .inl (g 0, 10472, .inl di))]) (va_runV (As := [.int 1]) (rest := []) ⟨hx, hb, hml, hown, hts⟩ (c_X8_refused1 l D g m0 sc0 rd0 nw0 tr0 di0 ke0 ik0 cp0 cn0 be0 H.size rf ss sp ig lo ac) (cwV 1 hts gX8_own_X8_refused rfl rfl rfl (by decide +kernel) (k_lvl (by omega) (by decide))) (kPV hP hD hK hS hA hE [0] rfl (by decide) 0 8 rfl rfl rfl) rfl rfl hl.1 rfl (lv_room (Nat.le_of_ble_eq_true rfl)) dX8_own_48 ⟨Nat.le_of_ble_eq_true rfl, Nat.le_of_ble_eq_true rfl⟩) hP hD hS hA [0] [1, 2] [2, 0, 1] rfl rfl (by decide) (by decide) rfl (by decide) (fun H locs hP hD hS => ?_)
        refine lv_if_eq (tgt := 56) hx hb dX8_own_51 (by decide) (fun c_13 => absurd c_13 (by decide)) (fun _ => ?_)
        refine lv_iconst (v := 0) hx hb dX8_own_54 (by decide) ?_
        subst hQ
        exact k_ri hx hb hr hlocks hP hD hS dX8_own_55 (rfl) (by rw [show (kc_X8_own nw pa al ah gl gh) = 1 from (if_neg c_1).trans ((if_neg c_6).trans ((if_pos c_11).trans (rfl)))])
/-- what undo answers before it does anything: 0, or which of its exceptions is thrown -/
def kc_X8_undo (ac : Nat) : Int32 :=
  if ac = 0 then
    1
  else
    0
def f_X8_undo (ac : Nat) (nw : Nat → Int32) (di : Nat → Int32) : Nat × Nat × (Nat → Int32) :=
  ((ac - 1), (ac - 1), (va_cpy di nw (748 * (ac - 1)) 0 748))
theorem qX8_undo_0 : Cond.fieldLink RX8 47 "BlameChainsModel" "acts" "I" ∈ wsX8_undo := (List.mem_cons_of_mem _ (List.mem_append_left _ (List.mem_of_getElem? (i := 0) rfl)))
theorem qX8_undo_1 : Cond.fieldLink RX8 22 "BlameChainsModel" "diary" "[I" ∈ wsX8_undo := (List.mem_cons_of_mem _ (List.mem_append_left _ (List.mem_of_getElem? (i := 1) rfl)))
theorem qX8_undo_2 : Cond.fieldLink RX8 16 "BlameChainsModel" "now" "[I" ∈ wsX8_undo := (List.mem_cons_of_mem _ (List.mem_append_left _ (List.mem_of_getElem? (i := 2) rfl)))
set_option maxHeartbeats 4000000 in
set_option maxRecDepth 100000 in
theorem c_X8_undo (l : Launch) (D : va_G) (g : Nat → Nat) (m0 sc0 rd0 nw0 tr0 di0 ke0 ik0 cp0 cn0 be0 : Nat) (sz : Nat) (rf : Int32) (ss : Nat) (sp : Nat) (ig : Int32) (lo : Int32) (ac : Nat) (nw : Nat → Int32) (di : Nat → Int32) (hac : ac ≤ 14) (hk : (kc_X8_undo ac) = 0) : kMi l D g yX8_undo wsX8_undo 2 0 0 [.ref m0] [(m0, .inr (8, [.int rf, .ref sc0, .int (nI ss), .int (nI sp), .int ig, .int lo, .ref rd0, .ref nw0, .ref tr0, .ref di0, .int (nI ac), .ref ke0, .ref ik0, .ref cp0, .ref cn0, .ref be0])), (nw0, .inl (g 0, 748, .inl nw)), (di0, .inl (g 0, 10472, .inl di))] sz (nI ((f_X8_undo ac nw di).1)) [(m0, .inr (8, [.int 0, .ref sc0, .int (nI ss), .int (nI sp), .int ig, .int lo, .ref rd0, .ref nw0, .ref tr0, .ref di0, .int (nI ((f_X8_undo ac nw di).2.1)), .ref ke0, .ref ik0, .ref cp0, .ref cn0, .ref be0])), (nw0, .inl (g 0, 748, .inl ((f_X8_undo ac nw di).2.2))), (di0, .inl (g 0, 10472, .inl di))] := by
  refine k_enter (nm := "undo") (own := RX8) (bytes := cX8_undo) (maxL := 1) (ret := (some .int)) (Qf := fun A => kQi D [(m0, .inr (8, [.int 0, .ref sc0, .int (nI ss), .int (nI sp), .int ig, .int lo, .ref rd0, .ref nw0, .ref tr0, .ref di0, .int (nI ((f_X8_undo ac nw di).2.1)), .ref ke0, .ref ik0, .ref cp0, .ref cn0, .ref be0])), (nw0, .inl (g 0, 748, .inl ((f_X8_undo ac nw di).2.2))), (di0, .inl (g 0, 10472, .inl di))] A (nI ((f_X8_undo ac nw di).1))) (by decide) rfl rfl rfl (Nat.le_of_ble_eq_true rfl) ?_
  rintro pp ee s mm below meth cc A ls args Q H locs hQ ⟨hx, hb, hr, hml, hown, hts, hlocks, hin⟩ hP hK hD hA hS hE hl
  have hl : lv_has ls 1 [(0, .ref m0)] := hl
  refine lv_aload_n hx hb dX8_undo_0 rfl (lv_at hl 0 rfl) ?_
  refine lv_aload_n hx hb dX8_undo_1 rfl (lv_at hl 0 rfl) ?_
  refine va_get (D := D) (ci := 8) (v := .int (nI ac)) (C := RX8) (T := TX8) (N := 16) hx hb hts (fun w h => (List.mem_cons_of_mem _ (List.mem_append_right _ h))) hown hK hP 0 rfl rfl 10 (by decide) (hts _ qX8_undo_0) (fun _ h9 => h9) rfl dX8_undo_2 ?_
  refine lv_if_ne (tgt := 12) hx hb dX8_undo_5 (by decide) (fun c_1 => ?_) (fun c_1 => ?_)
  · have c_1 : ¬ (ac = 0) := fun h9 => c_1 ((nI_eq (a := ac) (b := 0) (by omega) (by omega)).mpr h9)
    refine lv_iconst (v := 0) hx hb dX8_undo_12 (by decide) ?_
    refine k_ai (wr := [(nw0, .inl (g 0, 748, .inl nw)), (di0, .inl (g 0, 10472, .inl di))]) (w2 := [(m0, .inr (8, [.int 0, .ref sc0, .int (nI ss), .int (nI sp), .int ig, .int lo, .ref rd0, .ref nw0, .ref tr0, .ref di0, .int (nI ac), .ref ke0, .ref ik0, .ref cp0, .ref cn0, .ref be0])), (nw0, .inl (g 0, 748, .inl nw)), (di0, .inl (g 0, 10472, .inl di))]) (va_runV (As := [.int 0]) (rest := []) ⟨hx, hb, hml, hown, hts⟩ (c_X8_refused0 l D g m0 sc0 rd0 nw0 tr0 di0 ke0 ik0 cp0 cn0 be0 H.size rf ss sp ig lo ac) (cwV 1 hts gX8_undo_X8_refused rfl rfl rfl (by decide +kernel) (k_lvl (by omega) (by decide))) (kPV hP hD hK hS hA hE [0] rfl (by decide) 0 8 rfl rfl rfl) rfl rfl hl.1 rfl (lv_room (Nat.le_of_ble_eq_true rfl)) dX8_undo_13 ⟨Nat.le_of_ble_eq_true rfl, Nat.le_of_ble_eq_true rfl⟩) hP hD hS hA [0] [1, 2] [2, 0, 1] rfl rfl (by decide) (by decide) rfl (by decide) (fun H locs hP hD hS => ?_)
    refine lv_if_eq (tgt := 21) hx hb dX8_undo_16 (by decide) (fun _ => ?_) (fun c_2 => absurd c_2 (by decide))
    refine lv_aload_n hx hb dX8_undo_21 rfl (lv_at hl 0 rfl) ?_
    refine lv_dup hx hb dX8_undo_22 rfl ?_
    refine va_get (D := D) (ci := 8) (v := .int (nI ac)) (C := RX8) (T := TX8) (N := 16) hx hb hts (fun w h => (List.mem_cons_of_mem _ (List.mem_append_right _ h))) hown hK hP 0 rfl rfl 10 (by decide) (hts _ qX8_undo_0) (fun _ h9 => h9) rfl dX8_undo_23 ?_
    refine lv_iconst (v := 1) hx hb dX8_undo_26 (by decide) ?_
    refine lv_isub hx hb dX8_undo_27 ?_
    refine k_top (y := (nI (ac - 1))) (pk_sub (a := ac) (b := 1) (by omega)) ?_
    refine va_put (D := D) (ci := 8) (v := .int (nI (ac - 1))) (ty := .int) (C := RX8) (T := TX8) (N := 16) hx hb hts (fun w h => (List.mem_cons_of_mem _ (List.mem_append_right _ h))) tyX8 tyX8_ok nmX8 hown hK hP hD hS 0 rfl rfl 10 (by decide) (hts _ qX8_undo_0) (fun _ h9 => h9) rfl (by decide +kernel) rfl rfl (Nat.le_of_ble_eq_true rfl) dX8_undo_28 (fun H locs hP hD hS => ?_)
    have hP : va_P D vwCl [(m0, .inr (8, [.int 0, .ref sc0, .int (nI ss), .int (nI sp), .int ig, .int lo, .ref rd0, .ref nw0, .ref tr0, .ref di0, .int (nI (ac - 1)), .ref ke0, .ref ik0, .ref cp0, .ref cn0, .ref be0])), (nw0, .inl (g 0, 748, .inl nw)), (di0, .inl (g 0, 10472, .inl di))] H := hP
    have hD : va_D A [(m0, .inr (8, [.int 0, .ref sc0, .int (nI ss), .int (nI sp), .int ig, .int lo, .ref rd0, .ref nw0, .ref tr0, .ref di0, .int (nI (ac - 1)), .ref ke0, .ref ik0, .ref cp0, .ref cn0, .ref be0])), (nw0, .inl (g 0, 748, .inl nw)), (di0, .inl (g 0, 10472, .inl di))] := hD
    refine lv_aload_n hx hb dX8_undo_31 rfl (lv_at hl 0 rfl) ?_
    refine va_get (D := D) (ci := 8) (v := .ref di0) (C := RX8) (T := TX8) (N := 16) hx hb hts (fun w h => (List.mem_cons_of_mem _ (List.mem_append_right _ h))) hown hK hP 0 rfl rfl 9 (by decide) (hts _ qX8_undo_1) (fun _ h9 => h9) rfl dX8_undo_32 ?_
    refine lv_sipush (v := 748) hx hb dX8_undo_35 (by decide) ?_
    refine lv_aload_n hx hb dX8_undo_38 rfl (lv_at hl 0 rfl) ?_
    refine va_get (D := D) (ci := 8) (v := .int (nI (ac - 1))) (C := RX8) (T := TX8) (N := 16) hx hb hts (fun w h => (List.mem_cons_of_mem _ (List.mem_append_right _ h))) hown hK hP 0 rfl rfl 10 (by decide) (hts _ qX8_undo_0) (fun _ h9 => h9) rfl dX8_undo_39 ?_
    refine lv_imul hx hb dX8_undo_42 ?_
    refine k_top (y := (nI (748 * (ac - 1)))) (pk_mul 748 (ac - 1)) ?_
    refine lv_aload_n hx hb dX8_undo_43 rfl (lv_at hl 0 rfl) ?_
    refine va_get (D := D) (ci := 8) (v := .ref nw0) (C := RX8) (T := TX8) (N := 16) hx hb hts (fun w h => (List.mem_cons_of_mem _ (List.mem_append_right _ h))) hown hK hP 0 rfl rfl 7 (by decide) (hts _ qX8_undo_2) (fun _ h9 => h9) rfl dX8_undo_44 ?_
    refine lv_iconst (v := 0) hx hb dX8_undo_47 (by decide) ?_
    refine lv_sipush (v := 748) hx hb dX8_undo_48 (by decide) ?_
    refine k_av (wr := [(m0, .inr (8, [.int 0, .ref sc0, .int (nI ss), .int (nI sp), .int ig, .int lo, .ref rd0, .ref nw0, .ref tr0, .ref di0, .int (nI (ac - 1)), .ref ke0, .ref ik0, .ref cp0, .ref cn0, .ref be0]))]) (w2 := [(m0, .inr (8, [.int 0, .ref sc0, .int (nI ss), .int (nI sp), .int ig, .int lo, .ref rd0, .ref nw0, .ref tr0, .ref di0, .int (nI (ac - 1)), .ref ke0, .ref ik0, .ref cp0, .ref cn0, .ref be0])), (nw0, .inl (g 0, 748, .inl (va_cpy di nw (748 * (ac - 1)) 0 748))), (di0, .inl (g 0, 10472, .inl di))]) (va_runS (As := [.ref di0, .int (nI (748 * (ac - 1))), .ref nw0, .int 0, .int 748]) (rest := []) ⟨hx, hb, hml, hown, hts⟩ (c_X8_copy l D g di0 nw0 H.size di nw (748 * (ac - 1)) 0 748 10472 748 (by omega) (by omega) (by omega) (by omega)) (va_cwS 5 hts gX8_undo_X8_copy rfl rfl rfl (by decide +kernel) (k_lvl (by omega) (by decide))) (kPS hP hD hK hS hA hE [2, 1] rfl (by decide)) rfl rfl hl.1 rfl (lv_room (Nat.le_of_ble_eq_true rfl)) dX8_undo_51 ⟨Nat.le_of_ble_eq_true rfl, Nat.le_of_ble_eq_true rfl⟩) hP hD hS hA [2, 1] [0] [0, 2, 1] rfl rfl (by decide) (by decide) rfl (by decide) (fun H locs hP hD hS => ?_)
    refine lv_aload_n hx hb dX8_undo_54 rfl (lv_at hl 0 rfl) ?_
    refine va_get (D := D) (ci := 8) (v := .int (nI (ac - 1))) (C := RX8) (T := TX8) (N := 16) hx hb hts (fun w h => (List.mem_cons_of_mem _ (List.mem_append_right _ h))) hown hK hP 0 rfl rfl 10 (by decide) (hts _ qX8_undo_0) (fun _ h9 => h9) rfl dX8_undo_55 ?_
    have hE2 : (f_X8_undo ac nw di) = ((ac - 1), (ac - 1), (va_cpy di nw (748 * (ac - 1)) 0 748)) := by
      exact rfl
    subst hQ
    exact k_ri hx hb hr hlocks hP hD hS dX8_undo_58 (by rw [hE2]) (by rw [hE2])
  · have c_1 : ac = 0 := (nI_eq (a := ac) (b := 0) (by omega) (by omega)).mp c_1
    refine lv_iconst (v := 1) hx hb dX8_undo_8 (by decide) ?_
    refine lv_goto (tgt := 13) hx hb dX8_undo_9 (by decide) ?_
    have h9 : (kc_X8_undo ac) = 1 := (if_pos c_1).trans (rfl)
    rw [hk] at h9
    exact absurd h9 (by decide)
theorem qc_X8_undo_bad_X8_undo_0 : Cond.fieldLink RX8 47 "BlameChainsModel" "acts" "I" ∈ wsX8_undo := (List.mem_cons_of_mem _ (List.mem_append_left _ (List.mem_of_getElem? (i := 0) rfl)))
set_option maxHeartbeats 4000000 in
set_option maxRecDepth 100000 in
theorem c_X8_undo_bad (l : Launch) (D : va_G) (g : Nat → Nat) (m0 sc0 rd0 nw0 tr0 di0 ke0 ik0 cp0 cn0 be0 : Nat) (sz : Nat) (rf : Int32) (ss : Nat) (sp : Nat) (ig : Int32) (lo : Int32) (ac : Nat) (nw : Nat → Int32) (di : Nat → Int32) (hac : ac ≤ 14) (hk : ¬ (kc_X8_undo ac) = 0) : kMi l D g yX8_undo wsX8_undo 2 0 0 [.ref m0] [(m0, .inr (8, [.int rf, .ref sc0, .int (nI ss), .int (nI sp), .int ig, .int lo, .ref rd0, .ref nw0, .ref tr0, .ref di0, .int (nI ac), .ref ke0, .ref ik0, .ref cp0, .ref cn0, .ref be0])), (nw0, .inl (g 0, 748, .inl nw)), (di0, .inl (g 0, 10472, .inl di))] sz 0 [(m0, .inr (8, [.int (kc_X8_undo ac), .ref sc0, .int (nI ss), .int (nI sp), .int ig, .int lo, .ref rd0, .ref nw0, .ref tr0, .ref di0, .int (nI ac), .ref ke0, .ref ik0, .ref cp0, .ref cn0, .ref be0])), (nw0, .inl (g 0, 748, .inl nw)), (di0, .inl (g 0, 10472, .inl di))] := by
  refine k_enter (nm := "undo") (own := RX8) (bytes := cX8_undo) (maxL := 1) (ret := (some .int)) (Qf := fun A => kQi D [(m0, .inr (8, [.int (kc_X8_undo ac), .ref sc0, .int (nI ss), .int (nI sp), .int ig, .int lo, .ref rd0, .ref nw0, .ref tr0, .ref di0, .int (nI ac), .ref ke0, .ref ik0, .ref cp0, .ref cn0, .ref be0])), (nw0, .inl (g 0, 748, .inl nw)), (di0, .inl (g 0, 10472, .inl di))] A 0) (by decide) rfl rfl rfl (Nat.le_of_ble_eq_true rfl) ?_
  rintro pp ee s mm below meth cc A ls args Q H locs hQ ⟨hx, hb, hr, hml, hown, hts, hlocks, hin⟩ hP hK hD hA hS hE hl
  have hl : lv_has ls 1 [(0, .ref m0)] := hl
  refine lv_aload_n hx hb dX8_undo_0 rfl (lv_at hl 0 rfl) ?_
  refine lv_aload_n hx hb dX8_undo_1 rfl (lv_at hl 0 rfl) ?_
  refine va_get (D := D) (ci := 8) (v := .int (nI ac)) (C := RX8) (T := TX8) (N := 16) hx hb hts (fun w h => (List.mem_cons_of_mem _ (List.mem_append_right _ h))) hown hK hP 0 rfl rfl 10 (by decide) (hts _ qc_X8_undo_bad_X8_undo_0) (fun _ h9 => h9) rfl dX8_undo_2 ?_
  refine lv_if_ne (tgt := 12) hx hb dX8_undo_5 (by decide) (fun c_1 => ?_) (fun c_1 => ?_)
  · have c_1 : ¬ (ac = 0) := fun h9 => c_1 ((nI_eq (a := ac) (b := 0) (by omega) (by omega)).mpr h9)
    refine lv_iconst (v := 0) hx hb dX8_undo_12 (by decide) ?_
    have h9 : (kc_X8_undo ac) = 0 := (if_neg c_1).trans (rfl)
    exact absurd h9 hk
  · have c_1 : ac = 0 := (nI_eq (a := ac) (b := 0) (by omega) (by omega)).mp c_1
    refine lv_iconst (v := 1) hx hb dX8_undo_8 (by decide) ?_
    refine lv_goto (tgt := 13) hx hb dX8_undo_9 (by decide) ?_
    refine k_ai (wr := [(nw0, .inl (g 0, 748, .inl nw)), (di0, .inl (g 0, 10472, .inl di))]) (w2 := [(m0, .inr (8, [.int 1, .ref sc0, .int (nI ss), .int (nI sp), .int ig, .int lo, .ref rd0, .ref nw0, .ref tr0, .ref di0, .int (nI ac), .ref ke0, .ref ik0, .ref cp0, .ref cn0, .ref be0])), (nw0, .inl (g 0, 748, .inl nw)), (di0, .inl (g 0, 10472, .inl di))]) (va_runV (As := [.int 1]) (rest := []) ⟨hx, hb, hml, hown, hts⟩ (c_X8_refused1 l D g m0 sc0 rd0 nw0 tr0 di0 ke0 ik0 cp0 cn0 be0 H.size rf ss sp ig lo ac) (cwV 1 hts gX8_undo_X8_refused rfl rfl rfl (by decide +kernel) (k_lvl (by omega) (by decide))) (kPV hP hD hK hS hA hE [0] rfl (by decide) 0 8 rfl rfl rfl) rfl rfl hl.1 rfl (lv_room (Nat.le_of_ble_eq_true rfl)) dX8_undo_13 ⟨Nat.le_of_ble_eq_true rfl, Nat.le_of_ble_eq_true rfl⟩) hP hD hS hA [0] [1, 2] [2, 0, 1] rfl rfl (by decide) (by decide) rfl (by decide) (fun H locs hP hD hS => ?_)
    refine lv_if_eq (tgt := 21) hx hb dX8_undo_16 (by decide) (fun c_2 => absurd c_2 (by decide)) (fun _ => ?_)
    refine lv_iconst (v := 0) hx hb dX8_undo_19 (by decide) ?_
    subst hQ
    exact k_ri hx hb hr hlocks hP hD hS dX8_undo_20 (rfl) (by rw [show (kc_X8_undo ac) = 1 from (if_pos c_1).trans (rfl)])
/-- what drop answers before it does anything: 0, or which of its exceptions is thrown -/
def kc_X8_drop (nw : Nat → Int32) (caller : Int32) (pa : Int32) : Int32 :=
  if (f_X8_isContract nw caller pa) = 0 then
    1
  else
    0
def f_X8_drop (ac : Nat) (nw : Nat → Int32) (di : Nat → Int32) (caller : Int32) (pa : Int32) : Int32 × Nat × (Nat → Int32) × (Nat → Int32) :=
  let mn_0 := (nw 0).toNatClampNeg
  let pa_0 := pa.toNatClampNeg
  let v_3 := (f_X8_remember ac nw di)
  ((rCnt (upd nw (81 + 5 * (10 * (kSide caller) + pa_0) + 0) 0) mn_0 0 (11 + 1 - 0)), v_3.1, v_3.2, (upd nw (81 + 5 * (10 * (kSide caller) + pa_0) + 0) 0))
theorem qX8_drop_0 : Cond.fieldLink RX8 16 "BlameChainsModel" "now" "[I" ∈ wsX8_drop := (List.mem_cons_of_mem _ (List.mem_append_left _ (List.mem_append_left _ (List.mem_of_getElem? (i := 0) rfl))))
set_option maxHeartbeats 4000000 in
set_option maxRecDepth 100000 in
theorem c_X8_drop (l : Launch) (D : va_G) (g : Nat → Nat) (m0 sc0 rd0 nw0 tr0 di0 ke0 ik0 cp0 cn0 be0 : Nat) (sz : Nat) (rf : Int32) (ss : Nat) (sp : Nat) (ig : Int32) (lo : Int32) (ac : Nat) (nw : Nat → Int32) (di : Nat → Int32) (caller : Int32) (pa : Int32) (hO : rdOk nw) (hac : ac ≤ 14) (hk : (kc_X8_drop nw caller pa) = 0) : kMi l D g yX8_drop wsX8_drop 4 0 0 [.ref m0, .int caller, .int pa] [(m0, .inr (8, [.int rf, .ref sc0, .int (nI ss), .int (nI sp), .int ig, .int lo, .ref rd0, .ref nw0, .ref tr0, .ref di0, .int (nI ac), .ref ke0, .ref ik0, .ref cp0, .ref cn0, .ref be0])), (nw0, .inl (g 0, 748, .inl nw)), (di0, .inl (g 0, 10472, .inl di))] sz ((f_X8_drop ac nw di caller pa).1) [(m0, .inr (8, [.int 0, .ref sc0, .int (nI ss), .int (nI sp), .int ig, .int lo, .ref rd0, .ref nw0, .ref tr0, .ref di0, .int (nI ((f_X8_drop ac nw di caller pa).2.1)), .ref ke0, .ref ik0, .ref cp0, .ref cn0, .ref be0])), (nw0, .inl (g 0, 748, .inl ((f_X8_drop ac nw di caller pa).2.2.2))), (di0, .inl (g 0, 10472, .inl ((f_X8_drop ac nw di caller pa).2.2.1)))] := by
  refine k_enter (nm := "drop") (own := RX8) (bytes := cX8_drop) (maxL := 3) (ret := (some .int)) (Qf := fun A => kQi D [(m0, .inr (8, [.int 0, .ref sc0, .int (nI ss), .int (nI sp), .int ig, .int lo, .ref rd0, .ref nw0, .ref tr0, .ref di0, .int (nI ((f_X8_drop ac nw di caller pa).2.1)), .ref ke0, .ref ik0, .ref cp0, .ref cn0, .ref be0])), (nw0, .inl (g 0, 748, .inl ((f_X8_drop ac nw di caller pa).2.2.2))), (di0, .inl (g 0, 10472, .inl ((f_X8_drop ac nw di caller pa).2.2.1)))] A ((f_X8_drop ac nw di caller pa).1)) (by decide) rfl rfl rfl (Nat.le_of_ble_eq_true rfl) ?_
  rintro pp ee s mm below meth cc A ls args Q H locs hQ ⟨hx, hb, hr, hml, hown, hts, hlocks, hin⟩ hP hK hD hA hS hE hl
  have hl : lv_has ls 3 [(0, .ref m0), (1, .int caller), (2, .int pa)] := hl
  obtain ⟨mn_0, emn_0⟩ : ∃ z, z = (nw 0).toNatClampNeg := ⟨_, rfl⟩
  have hmn : nw 0 = nI mn_0 := by rw [emn_0]; exact (rdOk_mn hO).1
  have hm9 : mn_0 ≤ 10 := by rw [emn_0]; exact (rdOk_mn hO).2
  have kemn_0 : kEq mn_0 (nw 0).toNatClampNeg := emn_0
  clear emn_0
  refine lv_aload_n hx hb dX8_drop_0 rfl (lv_at hl 0 rfl) ?_
  refine lv_aload_n hx hb dX8_drop_1 rfl (lv_at hl 0 rfl) ?_
  refine lv_iload_n hx hb dX8_drop_2 rfl (lv_at hl 1 rfl) ?_
  refine lv_iload_n hx hb dX8_drop_3 rfl (lv_at hl 2 rfl) ?_
  refine k_ai (wr := [(di0, .inl (g 0, 10472, .inl di))]) (w2 := [(m0, .inr (8, [.int rf, .ref sc0, .int (nI ss), .int (nI sp), .int ig, .int lo, .ref rd0, .ref nw0, .ref tr0, .ref di0, .int (nI ac), .ref ke0, .ref ik0, .ref cp0, .ref cn0, .ref be0])), (nw0, .inl (g 0, 748, .inl nw)), (di0, .inl (g 0, 10472, .inl di))]) (va_runV (As := [.int caller, .int pa]) (rest := [.ref m0]) ⟨hx, hb, hml, hown, hts⟩ (c_X8_isContract l D g m0 sc0 rd0 nw0 tr0 di0 ke0 ik0 cp0 cn0 be0 H.size rf ss sp ig lo ac nw caller pa hO) (cwV 2 hts gX8_drop_X8_isContract rfl rfl rfl (by decide +kernel) (k_lvl (by omega) (by decide))) (kPV hP hD hK hS hA hE [0, 1] rfl (by decide) 0 8 rfl rfl rfl) rfl rfl hl.1 rfl (lv_room (Nat.le_of_ble_eq_true rfl)) dX8_drop_4 ⟨Nat.le_of_ble_eq_true rfl, Nat.le_of_ble_eq_true rfl⟩) hP hD hS hA [0, 1] [2] [1, 2, 0] rfl rfl (by decide) (by decide) rfl (by decide) (fun H locs hP hD hS => ?_)
  refine lv_if_eq (tgt := 14) hx hb dX8_drop_7 (by decide) (fun c_1 => ?_) (fun c_1 => ?_)
  · refine lv_iconst (v := 1) hx hb dX8_drop_14 (by decide) ?_
    have emn_0 : (nw 0).toNatClampNeg = mn_0 := Eq.symm kemn_0
    subst emn_0
    have h9 : (kc_X8_drop nw caller pa) = 1 := (if_pos c_1).trans (rfl)
    rw [hk] at h9
    exact absurd h9 (by decide)
  · refine lv_iconst (v := 0) hx hb dX8_drop_10 (by decide) ?_
    refine lv_goto (tgt := 15) hx hb dX8_drop_11 (by decide) ?_
    refine k_ai (wr := [(nw0, .inl (g 0, 748, .inl nw)), (di0, .inl (g 0, 10472, .inl di))]) (w2 := [(m0, .inr (8, [.int 0, .ref sc0, .int (nI ss), .int (nI sp), .int ig, .int lo, .ref rd0, .ref nw0, .ref tr0, .ref di0, .int (nI ac), .ref ke0, .ref ik0, .ref cp0, .ref cn0, .ref be0])), (nw0, .inl (g 0, 748, .inl nw)), (di0, .inl (g 0, 10472, .inl di))]) (va_runV (As := [.int 0]) (rest := []) ⟨hx, hb, hml, hown, hts⟩ (c_X8_refused0 l D g m0 sc0 rd0 nw0 tr0 di0 ke0 ik0 cp0 cn0 be0 H.size rf ss sp ig lo ac) (cwV 1 hts gX8_drop_X8_refused rfl rfl rfl (by decide +kernel) (k_lvl (by omega) (by decide))) (kPV hP hD hK hS hA hE [0] rfl (by decide) 0 8 rfl rfl rfl) rfl rfl hl.1 rfl (lv_room (Nat.le_of_ble_eq_true rfl)) dX8_drop_15 ⟨Nat.le_of_ble_eq_true rfl, Nat.le_of_ble_eq_true rfl⟩) hP hD hS hA [0] [1, 2] [2, 0, 1] rfl rfl (by decide) (by decide) rfl (by decide) (fun H locs hP hD hS => ?_)
    refine lv_if_eq (tgt := 23) hx hb dX8_drop_18 (by decide) (fun _ => ?_) (fun c_2 => absurd c_2 (by decide))
    obtain ⟨hcp, hcl9, hsd8, hhc9⟩ := isContract_N hO c_1
    obtain ⟨pa_0, epa_0⟩ : ∃ z, z = pa.toNatClampNeg := ⟨_, rfl⟩
    have qpa_0 : pa = nI pa_0 := by rw [epa_0]; exact hcp.1
    have bpa_0 : pa_0 < 10 := by rw [epa_0]; exact (by have h7 := hcp.2; have h8 := (rdOk_mn hO).2; omega)
    have kepa_0 : kEq pa_0 pa.toNatClampNeg := epa_0
    clear epa_0
    have hl : lv_has ls 3 [(0, .ref m0), (1, .int caller), (2, .int (nI pa_0))] := by
      have h9 := hl
      rw [qpa_0] at h9
      exact h9
    refine lv_aload_n hx hb dX8_drop_23 rfl (lv_at hl 0 rfl) ?_
    have hC := c_X8_remember l D g m0 sc0 rd0 nw0 tr0 di0 ke0 ik0 cp0 cn0 be0 H.size 0 ss sp ig lo ac nw di (by omega)
    obtain ⟨v_3, ev_3⟩ : ∃ z, z = (f_X8_remember ac nw di) := ⟨_, rfl⟩
    rw [← ev_3] at hC
    have kev_3 : kEq v_3 (f_X8_remember ac nw di) := ev_3
    clear ev_3
    refine k_av (wr := []) (w2 := [(m0, .inr (8, [.int 0, .ref sc0, .int (nI ss), .int (nI sp), .int ig, .int lo, .ref rd0, .ref nw0, .ref tr0, .ref di0, .int (nI v_3.1), .ref ke0, .ref ik0, .ref cp0, .ref cn0, .ref be0])), (nw0, .inl (g 0, 748, .inl nw)), (di0, .inl (g 0, 10472, .inl v_3.2))]) (va_runV (As := []) (rest := []) ⟨hx, hb, hml, hown, hts⟩ hC (cwV 0 hts gX8_drop_X8_remember rfl rfl rfl (by decide +kernel) (k_lvl (by omega) (by decide))) (kPV hP hD hK hS hA hE [0, 1, 2] rfl (by decide) 0 8 rfl rfl rfl) rfl rfl hl.1 rfl (lv_room (Nat.le_of_ble_eq_true rfl)) dX8_drop_24 ⟨Nat.le_of_ble_eq_true rfl, Nat.le_of_ble_eq_true rfl⟩) hP hD hS hA [0, 1, 2] [] [0, 1, 2] rfl rfl (by decide) (by decide) rfl (by decide) (fun H locs hP hD hS => ?_)
    refine lv_aload_n hx hb dX8_drop_27 rfl (lv_at hl 0 rfl) ?_
    refine va_get (D := D) (ci := 8) (v := .ref nw0) (C := RX8) (T := TX8) (N := 16) hx hb hts (fun w h => (List.mem_cons_of_mem _ (List.mem_append_right _ h))) hown hK hP 0 rfl rfl 7 (by decide) (hts _ qX8_drop_0) (fun _ h9 => h9) rfl dX8_drop_28 ?_
    refine lv_iload_n hx hb dX8_drop_31 rfl (lv_at hl 1 rfl) ?_
    refine k_ai (wr := [(m0, .inr (8, [.int 0, .ref sc0, .int (nI ss), .int (nI sp), .int ig, .int lo, .ref rd0, .ref nw0, .ref tr0, .ref di0, .int (nI v_3.1), .ref ke0, .ref ik0, .ref cp0, .ref cn0, .ref be0])), (nw0, .inl (g 0, 748, .inl nw)), (di0, .inl (g 0, 10472, .inl v_3.2))]) (w2 := [(m0, .inr (8, [.int 0, .ref sc0, .int (nI ss), .int (nI sp), .int ig, .int lo, .ref rd0, .ref nw0, .ref tr0, .ref di0, .int (nI v_3.1), .ref ke0, .ref ik0, .ref cp0, .ref cn0, .ref be0])), (nw0, .inl (g 0, 748, .inl nw)), (di0, .inl (g 0, 10472, .inl v_3.2))]) (va_runS (As := [.int caller]) (rest := [.ref nw0]) ⟨hx, hb, hml, hown, hts⟩ (c_X8_sideOf l D g H.size caller hcl9) (va_cwS 1 hts gX8_drop_X8_sideOf rfl rfl rfl (by decide +kernel) (k_lvl (by omega) (by decide))) (kPS hP hD hK hS hA hE [] rfl (by decide)) rfl rfl hl.1 rfl (lv_room (Nat.le_of_ble_eq_true rfl)) dX8_drop_32 ⟨Nat.le_of_ble_eq_true rfl, Nat.le_of_ble_eq_true rfl⟩) hP hD hS hA [] [0, 1, 2] [0, 1, 2] rfl rfl (by decide) (by decide) rfl (by decide) (fun H locs hP hD hS => ?_)
    refine lv_iload_n hx hb dX8_drop_35 rfl (lv_at hl 2 rfl) ?_
    refine lv_iconst (v := 0) hx hb dX8_drop_36 (by decide) ?_
    refine k_ai (wr := [(m0, .inr (8, [.int 0, .ref sc0, .int (nI ss), .int (nI sp), .int ig, .int lo, .ref rd0, .ref nw0, .ref tr0, .ref di0, .int (nI v_3.1), .ref ke0, .ref ik0, .ref cp0, .ref cn0, .ref be0])), (nw0, .inl (g 0, 748, .inl nw)), (di0, .inl (g 0, 10472, .inl v_3.2))]) (w2 := [(m0, .inr (8, [.int 0, .ref sc0, .int (nI ss), .int (nI sp), .int ig, .int lo, .ref rd0, .ref nw0, .ref tr0, .ref di0, .int (nI v_3.1), .ref ke0, .ref ik0, .ref cp0, .ref cn0, .ref be0])), (nw0, .inl (g 0, 748, .inl nw)), (di0, .inl (g 0, 10472, .inl v_3.2))]) (va_runS (As := [.int (nI (kSide caller)), .int (nI pa_0), .int 0]) (rest := [.ref nw0]) ⟨hx, hb, hml, hown, hts⟩ (c_X8_contractAt l D g H.size (kSide caller) pa_0 0) (va_cwS 3 hts gX8_drop_X8_contractAt rfl rfl rfl (by decide +kernel) (k_lvl (by omega) (by decide))) (kPS hP hD hK hS hA hE [] rfl (by decide)) rfl rfl hl.1 rfl (lv_room (Nat.le_of_ble_eq_true rfl)) dX8_drop_37 ⟨Nat.le_of_ble_eq_true rfl, Nat.le_of_ble_eq_true rfl⟩) hP hD hS hA [] [0, 1, 2] [0, 1, 2] rfl rfl (by decide) (by decide) rfl (by decide) (fun H locs hP hD hS => ?_)
    refine lv_iconst (v := 0) hx hb dX8_drop_40 (by decide) ?_
    refine va_iast (i := (nI (81 + 5 * (10 * (kSide caller) + pa_0) + 0))) (x := 0) hx hb hK hP hD hS 1 0 rfl rfl (vp_in_nI (n := (81 + 5 * (10 * (kSide caller) + pa_0) + 0)) (by omega) (by omega)) dX8_drop_41 (fun H locs hP hD hS => ?_)
    rw [nI_clamp (n := (81 + 5 * (10 * (kSide caller) + pa_0) + 0)) (by omega)] at hP hD
    have hP : va_P D vwCl [(m0, .inr (8, [.int 0, .ref sc0, .int (nI ss), .int (nI sp), .int ig, .int lo, .ref rd0, .ref nw0, .ref tr0, .ref di0, .int (nI v_3.1), .ref ke0, .ref ik0, .ref cp0, .ref cn0, .ref be0])), (nw0, .inl (g 0, 748, .inl (upd nw (81 + 5 * (10 * (kSide caller) + pa_0) + 0) 0))), (di0, .inl (g 0, 10472, .inl v_3.2))] H := hP
    have hD : va_D A [(m0, .inr (8, [.int 0, .ref sc0, .int (nI ss), .int (nI sp), .int ig, .int lo, .ref rd0, .ref nw0, .ref tr0, .ref di0, .int (nI v_3.1), .ref ke0, .ref ik0, .ref cp0, .ref cn0, .ref be0])), (nw0, .inl (g 0, 748, .inl (upd nw (81 + 5 * (10 * (kSide caller) + pa_0) + 0) 0))), (di0, .inl (g 0, 10472, .inl v_3.2))] := hD
    refine lv_aload_n hx hb dX8_drop_42 rfl (lv_at hl 0 rfl) ?_
    refine va_get (D := D) (ci := 8) (v := .ref nw0) (C := RX8) (T := TX8) (N := 16) hx hb hts (fun w h => (List.mem_cons_of_mem _ (List.mem_append_right _ h))) hown hK hP 0 rfl rfl 7 (by decide) (hts _ qX8_drop_0) (fun _ h9 => h9) rfl dX8_drop_43 ?_
    refine lv_iconst (v := 0) hx hb dX8_drop_46 (by decide) ?_
    refine lv_bipush (v := 11) hx hb dX8_drop_47 (by decide) ?_
    refine k_ai (wr := [(m0, .inr (8, [.int 0, .ref sc0, .int (nI ss), .int (nI sp), .int ig, .int lo, .ref rd0, .ref nw0, .ref tr0, .ref di0, .int (nI v_3.1), .ref ke0, .ref ik0, .ref cp0, .ref cn0, .ref be0])), (di0, .inl (g 0, 10472, .inl v_3.2))]) (w2 := [(m0, .inr (8, [.int 0, .ref sc0, .int (nI ss), .int (nI sp), .int ig, .int lo, .ref rd0, .ref nw0, .ref tr0, .ref di0, .int (nI v_3.1), .ref ke0, .ref ik0, .ref cp0, .ref cn0, .ref be0])), (nw0, .inl (g 0, 748, .inl (upd nw (81 + 5 * (10 * (kSide caller) + pa_0) + 0) 0))), (di0, .inl (g 0, 10472, .inl v_3.2))]) (va_runS (As := [.ref nw0, .int 0, .int 11]) (rest := []) ⟨hx, hb, hml, hown, hts⟩ (c_X8_contracts l D g nw0 H.size (upd nw (81 + 5 * (10 * (kSide caller) + pa_0) + 0) 0) 0 11 mn_0 ((pk_un (by omega)).trans hmn) (by omega) (by omega) (by omega)) (va_cwS 3 hts gX8_drop_X8_contracts rfl rfl rfl (by decide +kernel) (k_lvl (by omega) (by decide))) (kPS hP hD hK hS hA hE [1] rfl (by decide)) rfl rfl hl.1 rfl (lv_room (Nat.le_of_ble_eq_true rfl)) dX8_drop_49 ⟨Nat.le_of_ble_eq_true rfl, Nat.le_of_ble_eq_true rfl⟩) hP hD hS hA [1] [0, 2] [0, 2, 1] rfl rfl (by decide) (by decide) rfl (by decide) (fun H locs hP hD hS => ?_)
    have ev_3 : (f_X8_remember ac nw di) = v_3 := Eq.symm kev_3
    have epa_0 : pa.toNatClampNeg = pa_0 := Eq.symm kepa_0
    have emn_0 : (nw 0).toNatClampNeg = mn_0 := Eq.symm kemn_0
    have hE2 : (f_X8_drop ac nw di caller pa) = ((rCnt (upd nw (81 + 5 * (10 * (kSide caller) + pa_0) + 0) 0) mn_0 0 (11 + 1 - 0)), v_3.1, v_3.2, (upd nw (81 + 5 * (10 * (kSide caller) + pa_0) + 0) 0)) := by
      subst ev_3
      subst epa_0
      subst emn_0
      exact rfl
    subst hQ
    exact k_ri hx hb hr hlocks hP hD hS dX8_drop_52 (by rw [hE2]) (by rw [hE2])
set_option maxHeartbeats 4000000 in
set_option maxRecDepth 100000 in
theorem c_X8_drop_bad (l : Launch) (D : va_G) (g : Nat → Nat) (m0 sc0 rd0 nw0 tr0 di0 ke0 ik0 cp0 cn0 be0 : Nat) (sz : Nat) (rf : Int32) (ss : Nat) (sp : Nat) (ig : Int32) (lo : Int32) (ac : Nat) (nw : Nat → Int32) (di : Nat → Int32) (caller : Int32) (pa : Int32) (hO : rdOk nw) (hac : ac ≤ 14) (hk : ¬ (kc_X8_drop nw caller pa) = 0) : kMi l D g yX8_drop wsX8_drop 4 0 0 [.ref m0, .int caller, .int pa] [(m0, .inr (8, [.int rf, .ref sc0, .int (nI ss), .int (nI sp), .int ig, .int lo, .ref rd0, .ref nw0, .ref tr0, .ref di0, .int (nI ac), .ref ke0, .ref ik0, .ref cp0, .ref cn0, .ref be0])), (nw0, .inl (g 0, 748, .inl nw)), (di0, .inl (g 0, 10472, .inl di))] sz 0 [(m0, .inr (8, [.int (kc_X8_drop nw caller pa), .ref sc0, .int (nI ss), .int (nI sp), .int ig, .int lo, .ref rd0, .ref nw0, .ref tr0, .ref di0, .int (nI ac), .ref ke0, .ref ik0, .ref cp0, .ref cn0, .ref be0])), (nw0, .inl (g 0, 748, .inl nw)), (di0, .inl (g 0, 10472, .inl di))] := by
  refine k_enter (nm := "drop") (own := RX8) (bytes := cX8_drop) (maxL := 3) (ret := (some .int)) (Qf := fun A => kQi D [(m0, .inr (8, [.int (kc_X8_drop nw caller pa), .ref sc0, .int (nI ss), .int (nI sp), .int ig, .int lo, .ref rd0, .ref nw0, .ref tr0, .ref di0, .int (nI ac), .ref ke0, .ref ik0, .ref cp0, .ref cn0, .ref be0])), (nw0, .inl (g 0, 748, .inl nw)), (di0, .inl (g 0, 10472, .inl di))] A 0) (by decide) rfl rfl rfl (Nat.le_of_ble_eq_true rfl) ?_
  rintro pp ee s mm below meth cc A ls args Q H locs hQ ⟨hx, hb, hr, hml, hown, hts, hlocks, hin⟩ hP hK hD hA hS hE hl
  have hl : lv_has ls 3 [(0, .ref m0), (1, .int caller), (2, .int pa)] := hl
  refine lv_aload_n hx hb dX8_drop_0 rfl (lv_at hl 0 rfl) ?_
  refine lv_aload_n hx hb dX8_drop_1 rfl (lv_at hl 0 rfl) ?_
  refine lv_iload_n hx hb dX8_drop_2 rfl (lv_at hl 1 rfl) ?_
  refine lv_iload_n hx hb dX8_drop_3 rfl (lv_at hl 2 rfl) ?_
  refine k_ai (wr := [(di0, .inl (g 0, 10472, .inl di))]) (w2 := [(m0, .inr (8, [.int rf, .ref sc0, .int (nI ss), .int (nI sp), .int ig, .int lo, .ref rd0, .ref nw0, .ref tr0, .ref di0, .int (nI ac), .ref ke0, .ref ik0, .ref cp0, .ref cn0, .ref be0])), (nw0, .inl (g 0, 748, .inl nw)), (di0, .inl (g 0, 10472, .inl di))]) (va_runV (As := [.int caller, .int pa]) (rest := [.ref m0]) ⟨hx, hb, hml, hown, hts⟩ (c_X8_isContract l D g m0 sc0 rd0 nw0 tr0 di0 ke0 ik0 cp0 cn0 be0 H.size rf ss sp ig lo ac nw caller pa hO) (cwV 2 hts gX8_drop_X8_isContract rfl rfl rfl (by decide +kernel) (k_lvl (by omega) (by decide))) (kPV hP hD hK hS hA hE [0, 1] rfl (by decide) 0 8 rfl rfl rfl) rfl rfl hl.1 rfl (lv_room (Nat.le_of_ble_eq_true rfl)) dX8_drop_4 ⟨Nat.le_of_ble_eq_true rfl, Nat.le_of_ble_eq_true rfl⟩) hP hD hS hA [0, 1] [2] [1, 2, 0] rfl rfl (by decide) (by decide) rfl (by decide) (fun H locs hP hD hS => ?_)
  refine lv_if_eq (tgt := 14) hx hb dX8_drop_7 (by decide) (fun c_1 => ?_) (fun c_1 => ?_)
  · refine lv_iconst (v := 1) hx hb dX8_drop_14 (by decide) ?_
    refine k_ai (wr := [(nw0, .inl (g 0, 748, .inl nw)), (di0, .inl (g 0, 10472, .inl di))]) (w2 := [(m0, .inr (8, [.int 1, .ref sc0, .int (nI ss), .int (nI sp), .int ig, .int lo, .ref rd0, .ref nw0, .ref tr0, .ref di0, .int (nI ac), .ref ke0, .ref ik0, .ref cp0, .ref cn0, .ref be0])), (nw0, .inl (g 0, 748, .inl nw)), (di0, .inl (g 0, 10472, .inl di))]) (va_runV (As := [.int 1]) (rest := []) ⟨hx, hb, hml, hown, hts⟩ (c_X8_refused1 l D g m0 sc0 rd0 nw0 tr0 di0 ke0 ik0 cp0 cn0 be0 H.size rf ss sp ig lo ac) (cwV 1 hts gX8_drop_X8_refused rfl rfl rfl (by decide +kernel) (k_lvl (by omega) (by decide))) (kPV hP hD hK hS hA hE [0] rfl (by decide) 0 8 rfl rfl rfl) rfl rfl hl.1 rfl (lv_room (Nat.le_of_ble_eq_true rfl)) dX8_drop_15 ⟨Nat.le_of_ble_eq_true rfl, Nat.le_of_ble_eq_true rfl⟩) hP hD hS hA [0] [1, 2] [2, 0, 1] rfl rfl (by decide) (by decide) rfl (by decide) (fun H locs hP hD hS => ?_)
    refine lv_if_eq (tgt := 23) hx hb dX8_drop_18 (by decide) (fun c_2 => absurd c_2 (by decide)) (fun _ => ?_)
    refine lv_iconst (v := 0) hx hb dX8_drop_21 (by decide) ?_
    subst hQ
    exact k_ri hx hb hr hlocks hP hD hS dX8_drop_22 (rfl) (by rw [show (kc_X8_drop nw caller pa) = 1 from (if_pos c_1).trans (rfl)])
  · refine lv_iconst (v := 0) hx hb dX8_drop_10 (by decide) ?_
    refine lv_goto (tgt := 15) hx hb dX8_drop_11 (by decide) ?_
    have h9 : (kc_X8_drop nw caller pa) = 0 := (if_neg c_1).trans (rfl)
    exact absurd h9 hk
/-- what link answers before it does anything: 0, or which of its exceptions is thrown -/
def kc_X8_link (nw : Nat → Int32) (caller : Int32) (pa : Int32) (al : Int32) (ah : Int32) (gl : Int32) (gh : Int32) : Int32 :=
  if caller = (-10000) then
    if (f_X8_isRange al ah) = 0 then
      if (f_X8_isPart nw pa) = 0 then
        1
      else
        2
    else
      if (f_X8_isRange gl gh) = 0 then
        if (f_X8_isPart nw pa) = 0 then
          1
        else
          2
      else
        if (f_X8_isPart nw pa) = 0 then
          1
        else
          0
  else
    if (f_X8_isPart nw caller) = 0 then
      if (f_X8_isPart nw pa) = 0 then
        1
      else
        2
    else
      if caller ≤ pa then
        if (f_X8_isPart nw pa) = 0 then
          1
        else
          2
      else
        if (f_X8_isRange al ah) = 0 then
          if (f_X8_isPart nw pa) = 0 then
            1
          else
            2
        else
          if (f_X8_isRange gl gh) = 0 then
            if (f_X8_isPart nw pa) = 0 then
              1
            else
              2
          else
            if (f_X8_isPart nw pa) = 0 then
              1
            else
              0
def f_X8_link (ac : Nat) (nw : Nat → Int32) (di : Nat → Int32) (caller : Int32) (pa : Int32) (al : Int32) (ah : Int32) (gl : Int32) (gh : Int32) : Int32 × Nat × (Nat → Int32) × (Nat → Int32) :=
  let mn_0 := (nw 0).toNatClampNeg
  let pa_0 := pa.toNatClampNeg
  let v_11 := (f_X8_remember ac nw di)
  let v_27 := (f_X8_remember ac nw di)
  if caller = (-10000) then
    ((rCnt (f_X8_promise nw (kSide caller) pa_0 al ah gl gh) mn_0 1 (11 + 1 - 1)), v_11.1, v_11.2, (f_X8_promise nw (kSide caller) pa_0 al ah gl gh))
  else
    ((rCnt (f_X8_promise nw (kSide caller) pa_0 al ah gl gh) mn_0 1 (11 + 1 - 1)), v_27.1, v_27.2, (f_X8_promise nw (kSide caller) pa_0 al ah gl gh))
theorem qX8_link_0 : Cond.fieldLink RX8 16 "BlameChainsModel" "now" "[I" ∈ wsX8_link := (List.mem_cons_of_mem _ (List.mem_append_left _ (List.mem_append_left _ (List.mem_of_getElem? (i := 0) rfl))))
set_option maxHeartbeats 4000000 in
set_option maxRecDepth 100000 in
theorem c_X8_link (l : Launch) (D : va_G) (g : Nat → Nat) (m0 sc0 rd0 nw0 tr0 di0 ke0 ik0 cp0 cn0 be0 : Nat) (sz : Nat) (rf : Int32) (ss : Nat) (sp : Nat) (ig : Int32) (lo : Int32) (ac : Nat) (nw : Nat → Int32) (di : Nat → Int32) (caller : Int32) (pa : Int32) (al : Int32) (ah : Int32) (gl : Int32) (gh : Int32) (hO : rdOk nw) (hac : ac ≤ 14) (hk : (kc_X8_link nw caller pa al ah gl gh) = 0) : kMi l D g yX8_link wsX8_link 3 0 0 [.ref m0, .int caller, .int pa, .int al, .int ah, .int gl, .int gh] [(m0, .inr (8, [.int rf, .ref sc0, .int (nI ss), .int (nI sp), .int ig, .int lo, .ref rd0, .ref nw0, .ref tr0, .ref di0, .int (nI ac), .ref ke0, .ref ik0, .ref cp0, .ref cn0, .ref be0])), (nw0, .inl (g 0, 748, .inl nw)), (di0, .inl (g 0, 10472, .inl di))] sz ((f_X8_link ac nw di caller pa al ah gl gh).1) [(m0, .inr (8, [.int 0, .ref sc0, .int (nI ss), .int (nI sp), .int ig, .int lo, .ref rd0, .ref nw0, .ref tr0, .ref di0, .int (nI ((f_X8_link ac nw di caller pa al ah gl gh).2.1)), .ref ke0, .ref ik0, .ref cp0, .ref cn0, .ref be0])), (nw0, .inl (g 0, 748, .inl ((f_X8_link ac nw di caller pa al ah gl gh).2.2.2))), (di0, .inl (g 0, 10472, .inl ((f_X8_link ac nw di caller pa al ah gl gh).2.2.1)))] := by
  refine k_enter (nm := "link") (own := RX8) (bytes := cX8_link) (maxL := 8) (ret := (some .int)) (Qf := fun A => kQi D [(m0, .inr (8, [.int 0, .ref sc0, .int (nI ss), .int (nI sp), .int ig, .int lo, .ref rd0, .ref nw0, .ref tr0, .ref di0, .int (nI ((f_X8_link ac nw di caller pa al ah gl gh).2.1)), .ref ke0, .ref ik0, .ref cp0, .ref cn0, .ref be0])), (nw0, .inl (g 0, 748, .inl ((f_X8_link ac nw di caller pa al ah gl gh).2.2.2))), (di0, .inl (g 0, 10472, .inl ((f_X8_link ac nw di caller pa al ah gl gh).2.2.1)))] A ((f_X8_link ac nw di caller pa al ah gl gh).1)) (by decide) rfl rfl rfl (Nat.le_of_ble_eq_true rfl) ?_
  rintro pp ee s mm below meth cc A ls args Q H locs hQ ⟨hx, hb, hr, hml, hown, hts, hlocks, hin⟩ hP hK hD hA hS hE hl
  have hl : lv_has ls 8 [(0, .ref m0), (1, .int caller), (2, .int pa), (3, .int al), (4, .int ah), (5, .int gl), (6, .int gh)] := hl
  obtain ⟨mn_0, emn_0⟩ : ∃ z, z = (nw 0).toNatClampNeg := ⟨_, rfl⟩
  have hmn : nw 0 = nI mn_0 := by rw [emn_0]; exact (rdOk_mn hO).1
  have hm9 : mn_0 ≤ 10 := by rw [emn_0]; exact (rdOk_mn hO).2
  have kemn_0 : kEq mn_0 (nw 0).toNatClampNeg := emn_0
  clear emn_0
  refine lv_iload_n hx hb dX8_link_0 rfl (lv_at hl 1 rfl) ?_
  refine lv_sipush (v := (-10000)) hx hb dX8_link_1 (by decide) ?_
  refine lv_icmp_eq (tgt := 20) hx hb dX8_link_4 (by decide) (fun c_1 => ?_) (fun c_1 => ?_)
  · refine lv_iload_n hx hb dX8_link_20 rfl (lv_at hl 3 rfl) ?_
    refine lv_iload hx hb dX8_link_21 (lv_at hl 4 rfl) ?_
    refine k_ai (wr := [(m0, .inr (8, [.int rf, .ref sc0, .int (nI ss), .int (nI sp), .int ig, .int lo, .ref rd0, .ref nw0, .ref tr0, .ref di0, .int (nI ac), .ref ke0, .ref ik0, .ref cp0, .ref cn0, .ref be0])), (nw0, .inl (g 0, 748, .inl nw)), (di0, .inl (g 0, 10472, .inl di))]) (w2 := [(m0, .inr (8, [.int rf, .ref sc0, .int (nI ss), .int (nI sp), .int ig, .int lo, .ref rd0, .ref nw0, .ref tr0, .ref di0, .int (nI ac), .ref ke0, .ref ik0, .ref cp0, .ref cn0, .ref be0])), (nw0, .inl (g 0, 748, .inl nw)), (di0, .inl (g 0, 10472, .inl di))]) (va_runS (As := [.int al, .int ah]) (rest := []) ⟨hx, hb, hml, hown, hts⟩ (c_X8_isRange l D g H.size al ah) (va_cwS 2 hts gX8_link_X8_isRange rfl rfl rfl (by decide +kernel) (k_lvl (by omega) (by decide))) (kPS hP hD hK hS hA hE [] rfl (by decide)) rfl rfl hl.1 rfl (lv_room (Nat.le_of_ble_eq_true rfl)) dX8_link_23 ⟨Nat.le_of_ble_eq_true rfl, Nat.le_of_ble_eq_true rfl⟩) hP hD hS hA [] [0, 1, 2] [0, 1, 2] rfl rfl (by decide) (by decide) rfl (by decide) (fun H locs hP hD hS => ?_)
    refine lv_if_eq (tgt := 43) hx hb dX8_link_26 (by decide) (fun c_2 => ?_) (fun c_2 => ?_)
    · refine lv_iconst (v := 0) hx hb dX8_link_43 (by decide) ?_
      refine lv_istore (lv' := [(7, .int 0), (0, .ref m0), (1, .int caller), (2, .int pa), (3, .int al), (4, .int ah), (5, .int gl), (6, .int gh)]) hx hb dX8_link_44 hl (by decide) rfl (fun ls hl => ?_)
      refine lv_aload_n hx hb dX8_link_46 rfl (lv_at hl 1 rfl) ?_
      refine lv_aload_n hx hb dX8_link_47 rfl (lv_at hl 1 rfl) ?_
      refine lv_iload_n hx hb dX8_link_48 rfl (lv_at hl 3 rfl) ?_
      refine k_ai (wr := [(di0, .inl (g 0, 10472, .inl di))]) (w2 := [(m0, .inr (8, [.int rf, .ref sc0, .int (nI ss), .int (nI sp), .int ig, .int lo, .ref rd0, .ref nw0, .ref tr0, .ref di0, .int (nI ac), .ref ke0, .ref ik0, .ref cp0, .ref cn0, .ref be0])), (nw0, .inl (g 0, 748, .inl nw)), (di0, .inl (g 0, 10472, .inl di))]) (va_runV (As := [.int pa]) (rest := [.ref m0]) ⟨hx, hb, hml, hown, hts⟩ (c_X8_isPart l D g m0 sc0 rd0 nw0 tr0 di0 ke0 ik0 cp0 cn0 be0 H.size rf ss sp ig lo ac nw pa) (cwV 1 hts gX8_link_X8_isPart rfl rfl rfl (by decide +kernel) (k_lvl (by omega) (by decide))) (kPV hP hD hK hS hA hE [0, 1] rfl (by decide) 0 8 rfl rfl rfl) rfl rfl hl.1 rfl (lv_room (Nat.le_of_ble_eq_true rfl)) dX8_link_49 ⟨Nat.le_of_ble_eq_true rfl, Nat.le_of_ble_eq_true rfl⟩) hP hD hS hA [0, 1] [2] [1, 2, 0] rfl rfl (by decide) (by decide) rfl (by decide) (fun H locs hP hD hS => ?_)
      refine lv_if_ne (tgt := 59) hx hb dX8_link_52 (by decide) (fun c_3 => ?_) (fun c_3 => ?_)
      · refine lv_iload hx hb dX8_link_59 (lv_at hl 0 rfl) ?_
        refine lv_if_eq (tgt := 68) hx hb dX8_link_61 (by decide) (fun _ => ?_) (fun c_4 => absurd c_4 (by decide))
        refine lv_iconst (v := 2) hx hb dX8_link_68 (by decide) ?_
        have emn_0 : (nw 0).toNatClampNeg = mn_0 := Eq.symm kemn_0
        subst emn_0
        have h9 : (kc_X8_link nw caller pa al ah gl gh) = 2 := (if_pos c_1).trans ((if_pos c_2).trans ((if_neg c_3).trans (rfl)))
        rw [hk] at h9
        exact absurd h9 (by decide)
      · refine lv_iconst (v := 1) hx hb dX8_link_55 (by decide) ?_
        refine lv_goto (tgt := 69) hx hb dX8_link_56 (by decide) ?_
        have emn_0 : (nw 0).toNatClampNeg = mn_0 := Eq.symm kemn_0
        subst emn_0
        have h9 : (kc_X8_link nw caller pa al ah gl gh) = 1 := (if_pos c_1).trans ((if_pos c_2).trans ((if_pos c_3).trans (rfl)))
        rw [hk] at h9
        exact absurd h9 (by decide)
    · refine lv_iload hx hb dX8_link_29 (lv_at hl 5 rfl) ?_
      refine lv_iload hx hb dX8_link_31 (lv_at hl 6 rfl) ?_
      refine k_ai (wr := [(m0, .inr (8, [.int rf, .ref sc0, .int (nI ss), .int (nI sp), .int ig, .int lo, .ref rd0, .ref nw0, .ref tr0, .ref di0, .int (nI ac), .ref ke0, .ref ik0, .ref cp0, .ref cn0, .ref be0])), (nw0, .inl (g 0, 748, .inl nw)), (di0, .inl (g 0, 10472, .inl di))]) (w2 := [(m0, .inr (8, [.int rf, .ref sc0, .int (nI ss), .int (nI sp), .int ig, .int lo, .ref rd0, .ref nw0, .ref tr0, .ref di0, .int (nI ac), .ref ke0, .ref ik0, .ref cp0, .ref cn0, .ref be0])), (nw0, .inl (g 0, 748, .inl nw)), (di0, .inl (g 0, 10472, .inl di))]) (va_runS (As := [.int gl, .int gh]) (rest := []) ⟨hx, hb, hml, hown, hts⟩ (c_X8_isRange l D g H.size gl gh) (va_cwS 2 hts gX8_link_X8_isRange rfl rfl rfl (by decide +kernel) (k_lvl (by omega) (by decide))) (kPS hP hD hK hS hA hE [] rfl (by decide)) rfl rfl hl.1 rfl (lv_room (Nat.le_of_ble_eq_true rfl)) dX8_link_33 ⟨Nat.le_of_ble_eq_true rfl, Nat.le_of_ble_eq_true rfl⟩) hP hD hS hA [] [0, 1, 2] [0, 1, 2] rfl rfl (by decide) (by decide) rfl (by decide) (fun H locs hP hD hS => ?_)
      refine lv_if_eq (tgt := 43) hx hb dX8_link_36 (by decide) (fun c_5 => ?_) (fun c_5 => ?_)
      · refine lv_iconst (v := 0) hx hb dX8_link_43 (by decide) ?_
        refine lv_istore (lv' := [(7, .int 0), (0, .ref m0), (1, .int caller), (2, .int pa), (3, .int al), (4, .int ah), (5, .int gl), (6, .int gh)]) hx hb dX8_link_44 hl (by decide) rfl (fun ls hl => ?_)
        refine lv_aload_n hx hb dX8_link_46 rfl (lv_at hl 1 rfl) ?_
        refine lv_aload_n hx hb dX8_link_47 rfl (lv_at hl 1 rfl) ?_
        refine lv_iload_n hx hb dX8_link_48 rfl (lv_at hl 3 rfl) ?_
        refine k_ai (wr := [(di0, .inl (g 0, 10472, .inl di))]) (w2 := [(m0, .inr (8, [.int rf, .ref sc0, .int (nI ss), .int (nI sp), .int ig, .int lo, .ref rd0, .ref nw0, .ref tr0, .ref di0, .int (nI ac), .ref ke0, .ref ik0, .ref cp0, .ref cn0, .ref be0])), (nw0, .inl (g 0, 748, .inl nw)), (di0, .inl (g 0, 10472, .inl di))]) (va_runV (As := [.int pa]) (rest := [.ref m0]) ⟨hx, hb, hml, hown, hts⟩ (c_X8_isPart l D g m0 sc0 rd0 nw0 tr0 di0 ke0 ik0 cp0 cn0 be0 H.size rf ss sp ig lo ac nw pa) (cwV 1 hts gX8_link_X8_isPart rfl rfl rfl (by decide +kernel) (k_lvl (by omega) (by decide))) (kPV hP hD hK hS hA hE [0, 1] rfl (by decide) 0 8 rfl rfl rfl) rfl rfl hl.1 rfl (lv_room (Nat.le_of_ble_eq_true rfl)) dX8_link_49 ⟨Nat.le_of_ble_eq_true rfl, Nat.le_of_ble_eq_true rfl⟩) hP hD hS hA [0, 1] [2] [1, 2, 0] rfl rfl (by decide) (by decide) rfl (by decide) (fun H locs hP hD hS => ?_)
        refine lv_if_ne (tgt := 59) hx hb dX8_link_52 (by decide) (fun c_6 => ?_) (fun c_6 => ?_)
        · refine lv_iload hx hb dX8_link_59 (lv_at hl 0 rfl) ?_
          refine lv_if_eq (tgt := 68) hx hb dX8_link_61 (by decide) (fun _ => ?_) (fun c_7 => absurd c_7 (by decide))
          refine lv_iconst (v := 2) hx hb dX8_link_68 (by decide) ?_
          have emn_0 : (nw 0).toNatClampNeg = mn_0 := Eq.symm kemn_0
          subst emn_0
          have h9 : (kc_X8_link nw caller pa al ah gl gh) = 2 := (if_pos c_1).trans ((if_neg c_2).trans ((if_pos c_5).trans ((if_neg c_6).trans (rfl))))
          rw [hk] at h9
          exact absurd h9 (by decide)
        · refine lv_iconst (v := 1) hx hb dX8_link_55 (by decide) ?_
          refine lv_goto (tgt := 69) hx hb dX8_link_56 (by decide) ?_
          have emn_0 : (nw 0).toNatClampNeg = mn_0 := Eq.symm kemn_0
          subst emn_0
          have h9 : (kc_X8_link nw caller pa al ah gl gh) = 1 := (if_pos c_1).trans ((if_neg c_2).trans ((if_pos c_5).trans ((if_pos c_6).trans (rfl))))
          rw [hk] at h9
          exact absurd h9 (by decide)
      · refine lv_iconst (v := 1) hx hb dX8_link_39 (by decide) ?_
        refine lv_goto (tgt := 44) hx hb dX8_link_40 (by decide) ?_
        refine lv_istore (lv' := [(7, .int 1), (0, .ref m0), (1, .int caller), (2, .int pa), (3, .int al), (4, .int ah), (5, .int gl), (6, .int gh)]) hx hb dX8_link_44 hl (by decide) rfl (fun ls hl => ?_)
        refine lv_aload_n hx hb dX8_link_46 rfl (lv_at hl 1 rfl) ?_
        refine lv_aload_n hx hb dX8_link_47 rfl (lv_at hl 1 rfl) ?_
        refine lv_iload_n hx hb dX8_link_48 rfl (lv_at hl 3 rfl) ?_
        refine k_ai (wr := [(di0, .inl (g 0, 10472, .inl di))]) (w2 := [(m0, .inr (8, [.int rf, .ref sc0, .int (nI ss), .int (nI sp), .int ig, .int lo, .ref rd0, .ref nw0, .ref tr0, .ref di0, .int (nI ac), .ref ke0, .ref ik0, .ref cp0, .ref cn0, .ref be0])), (nw0, .inl (g 0, 748, .inl nw)), (di0, .inl (g 0, 10472, .inl di))]) (va_runV (As := [.int pa]) (rest := [.ref m0]) ⟨hx, hb, hml, hown, hts⟩ (c_X8_isPart l D g m0 sc0 rd0 nw0 tr0 di0 ke0 ik0 cp0 cn0 be0 H.size rf ss sp ig lo ac nw pa) (cwV 1 hts gX8_link_X8_isPart rfl rfl rfl (by decide +kernel) (k_lvl (by omega) (by decide))) (kPV hP hD hK hS hA hE [0, 1] rfl (by decide) 0 8 rfl rfl rfl) rfl rfl hl.1 rfl (lv_room (Nat.le_of_ble_eq_true rfl)) dX8_link_49 ⟨Nat.le_of_ble_eq_true rfl, Nat.le_of_ble_eq_true rfl⟩) hP hD hS hA [0, 1] [2] [1, 2, 0] rfl rfl (by decide) (by decide) rfl (by decide) (fun H locs hP hD hS => ?_)
        refine lv_if_ne (tgt := 59) hx hb dX8_link_52 (by decide) (fun c_8 => ?_) (fun c_8 => ?_)
        · refine lv_iload hx hb dX8_link_59 (lv_at hl 0 rfl) ?_
          refine lv_if_eq (tgt := 68) hx hb dX8_link_61 (by decide) (fun c_9 => absurd c_9 (by decide)) (fun _ => ?_)
          refine lv_iconst (v := 0) hx hb dX8_link_64 (by decide) ?_
          refine lv_goto (tgt := 69) hx hb dX8_link_65 (by decide) ?_
          refine k_ai (wr := [(nw0, .inl (g 0, 748, .inl nw)), (di0, .inl (g 0, 10472, .inl di))]) (w2 := [(m0, .inr (8, [.int 0, .ref sc0, .int (nI ss), .int (nI sp), .int ig, .int lo, .ref rd0, .ref nw0, .ref tr0, .ref di0, .int (nI ac), .ref ke0, .ref ik0, .ref cp0, .ref cn0, .ref be0])), (nw0, .inl (g 0, 748, .inl nw)), (di0, .inl (g 0, 10472, .inl di))]) (va_runV (As := [.int 0]) (rest := []) ⟨hx, hb, hml, hown, hts⟩ (c_X8_refused0 l D g m0 sc0 rd0 nw0 tr0 di0 ke0 ik0 cp0 cn0 be0 H.size rf ss sp ig lo ac) (cwV 1 hts gX8_link_X8_refused rfl rfl rfl (by decide +kernel) (k_lvl (by omega) (by decide))) (kPV hP hD hK hS hA hE [0] rfl (by decide) 0 8 rfl rfl rfl) rfl rfl hl.1 rfl (lv_room (Nat.le_of_ble_eq_true rfl)) dX8_link_69 ⟨Nat.le_of_ble_eq_true rfl, Nat.le_of_ble_eq_true rfl⟩) hP hD hS hA [0] [1, 2] [2, 0, 1] rfl rfl (by decide) (by decide) rfl (by decide) (fun H locs hP hD hS => ?_)
          refine lv_if_eq (tgt := 77) hx hb dX8_link_72 (by decide) (fun _ => ?_) (fun c_10 => absurd c_10 (by decide))
          obtain ⟨pa_0, epa_0⟩ : ∃ z, z = pa.toNatClampNeg := ⟨_, rfl⟩
          have qpa_0 : pa = nI pa_0 := by rw [epa_0]; exact (isPart_N c_8 hmn hm9).1
          have bpa_0 : pa_0 < mn_0 := by rw [epa_0]; exact (isPart_N c_8 hmn hm9).2
          have kepa_0 : kEq pa_0 pa.toNatClampNeg := epa_0
          clear epa_0
          have hl : lv_has ls 8 [(7, .int 1), (0, .ref m0), (1, .int caller), (2, .int (nI pa_0)), (3, .int al), (4, .int ah), (5, .int gl), (6, .int gh)] := by
            have h9 := hl
            rw [qpa_0] at h9
            exact h9
          have hcl9 : caller = -10001 ∨ caller = -10000 ∨ ¬ caller < 0 := Or.inr (Or.inl c_1)
          have hsd8 : kSide caller < 12 := by rw [c_1]; decide
          refine lv_aload_n hx hb dX8_link_77 rfl (lv_at hl 1 rfl) ?_
          have hC := c_X8_remember l D g m0 sc0 rd0 nw0 tr0 di0 ke0 ik0 cp0 cn0 be0 H.size 0 ss sp ig lo ac nw di (by omega)
          obtain ⟨v_11, ev_11⟩ : ∃ z, z = (f_X8_remember ac nw di) := ⟨_, rfl⟩
          rw [← ev_11] at hC
          have kev_11 : kEq v_11 (f_X8_remember ac nw di) := ev_11
          clear ev_11
          refine k_av (wr := []) (w2 := [(m0, .inr (8, [.int 0, .ref sc0, .int (nI ss), .int (nI sp), .int ig, .int lo, .ref rd0, .ref nw0, .ref tr0, .ref di0, .int (nI v_11.1), .ref ke0, .ref ik0, .ref cp0, .ref cn0, .ref be0])), (nw0, .inl (g 0, 748, .inl nw)), (di0, .inl (g 0, 10472, .inl v_11.2))]) (va_runV (As := []) (rest := []) ⟨hx, hb, hml, hown, hts⟩ hC (cwV 0 hts gX8_link_X8_remember rfl rfl rfl (by decide +kernel) (k_lvl (by omega) (by decide))) (kPV hP hD hK hS hA hE [0, 1, 2] rfl (by decide) 0 8 rfl rfl rfl) rfl rfl hl.1 rfl (lv_room (Nat.le_of_ble_eq_true rfl)) dX8_link_78 ⟨Nat.le_of_ble_eq_true rfl, Nat.le_of_ble_eq_true rfl⟩) hP hD hS hA [0, 1, 2] [] [0, 1, 2] rfl rfl (by decide) (by decide) rfl (by decide) (fun H locs hP hD hS => ?_)
          refine lv_aload_n hx hb dX8_link_81 rfl (lv_at hl 1 rfl) ?_
          refine va_get (D := D) (ci := 8) (v := .ref nw0) (C := RX8) (T := TX8) (N := 16) hx hb hts (fun w h => (List.mem_cons_of_mem _ (List.mem_append_right _ h))) hown hK hP 0 rfl rfl 7 (by decide) (hts _ qX8_link_0) (fun _ h9 => h9) rfl dX8_link_82 ?_
          refine lv_iload_n hx hb dX8_link_85 rfl (lv_at hl 2 rfl) ?_
          refine k_ai (wr := [(m0, .inr (8, [.int 0, .ref sc0, .int (nI ss), .int (nI sp), .int ig, .int lo, .ref rd0, .ref nw0, .ref tr0, .ref di0, .int (nI v_11.1), .ref ke0, .ref ik0, .ref cp0, .ref cn0, .ref be0])), (nw0, .inl (g 0, 748, .inl nw)), (di0, .inl (g 0, 10472, .inl v_11.2))]) (w2 := [(m0, .inr (8, [.int 0, .ref sc0, .int (nI ss), .int (nI sp), .int ig, .int lo, .ref rd0, .ref nw0, .ref tr0, .ref di0, .int (nI v_11.1), .ref ke0, .ref ik0, .ref cp0, .ref cn0, .ref be0])), (nw0, .inl (g 0, 748, .inl nw)), (di0, .inl (g 0, 10472, .inl v_11.2))]) (va_runS (As := [.int caller]) (rest := [.ref nw0]) ⟨hx, hb, hml, hown, hts⟩ (c_X8_sideOf l D g H.size caller hcl9) (va_cwS 1 hts gX8_link_X8_sideOf rfl rfl rfl (by decide +kernel) (k_lvl (by omega) (by decide))) (kPS hP hD hK hS hA hE [] rfl (by decide)) rfl rfl hl.1 rfl (lv_room (Nat.le_of_ble_eq_true rfl)) dX8_link_86 ⟨Nat.le_of_ble_eq_true rfl, Nat.le_of_ble_eq_true rfl⟩) hP hD hS hA [] [0, 1, 2] [0, 1, 2] rfl rfl (by decide) (by decide) rfl (by decide) (fun H locs hP hD hS => ?_)
          refine lv_iload_n hx hb dX8_link_89 rfl (lv_at hl 3 rfl) ?_
          refine lv_iload_n hx hb dX8_link_90 rfl (lv_at hl 4 rfl) ?_
          refine lv_iload hx hb dX8_link_91 (lv_at hl 5 rfl) ?_
          refine lv_iload hx hb dX8_link_93 (lv_at hl 6 rfl) ?_
          refine lv_iload hx hb dX8_link_95 (lv_at hl 7 rfl) ?_
          refine k_av (wr := [(m0, .inr (8, [.int 0, .ref sc0, .int (nI ss), .int (nI sp), .int ig, .int lo, .ref rd0, .ref nw0, .ref tr0, .ref di0, .int (nI v_11.1), .ref ke0, .ref ik0, .ref cp0, .ref cn0, .ref be0])), (di0, .inl (g 0, 10472, .inl v_11.2))]) (w2 := [(m0, .inr (8, [.int 0, .ref sc0, .int (nI ss), .int (nI sp), .int ig, .int lo, .ref rd0, .ref nw0, .ref tr0, .ref di0, .int (nI v_11.1), .ref ke0, .ref ik0, .ref cp0, .ref cn0, .ref be0])), (nw0, .inl (g 0, 748, .inl (f_X8_promise nw (kSide caller) pa_0 al ah gl gh))), (di0, .inl (g 0, 10472, .inl v_11.2))]) (va_runS (As := [.ref nw0, .int (nI (kSide caller)), .int (nI pa_0), .int al, .int ah, .int gl, .int gh]) (rest := []) ⟨hx, hb, hml, hown, hts⟩ (c_X8_promise l D g nw0 H.size nw (kSide caller) pa_0 al ah gl gh hsd8 (by omega)) (va_cwS 7 hts gX8_link_X8_promise rfl rfl rfl (by decide +kernel) (k_lvl (by omega) (by decide))) (kPS hP hD hK hS hA hE [1] rfl (by decide)) rfl rfl hl.1 rfl (lv_room (Nat.le_of_ble_eq_true rfl)) dX8_link_97 ⟨Nat.le_of_ble_eq_true rfl, Nat.le_of_ble_eq_true rfl⟩) hP hD hS hA [1] [0, 2] [0, 2, 1] rfl rfl (by decide) (by decide) rfl (by decide) (fun H locs hP hD hS => ?_)
          refine lv_aload_n hx hb dX8_link_100 rfl (lv_at hl 1 rfl) ?_
          refine va_get (D := D) (ci := 8) (v := .ref nw0) (C := RX8) (T := TX8) (N := 16) hx hb hts (fun w h => (List.mem_cons_of_mem _ (List.mem_append_right _ h))) hown hK hP 0 rfl rfl 7 (by decide) (hts _ qX8_link_0) (fun _ h9 => h9) rfl dX8_link_101 ?_
          refine lv_iconst (v := 1) hx hb dX8_link_104 (by decide) ?_
          refine lv_bipush (v := 11) hx hb dX8_link_105 (by decide) ?_
          refine k_ai (wr := [(m0, .inr (8, [.int 0, .ref sc0, .int (nI ss), .int (nI sp), .int ig, .int lo, .ref rd0, .ref nw0, .ref tr0, .ref di0, .int (nI v_11.1), .ref ke0, .ref ik0, .ref cp0, .ref cn0, .ref be0])), (di0, .inl (g 0, 10472, .inl v_11.2))]) (w2 := [(m0, .inr (8, [.int 0, .ref sc0, .int (nI ss), .int (nI sp), .int ig, .int lo, .ref rd0, .ref nw0, .ref tr0, .ref di0, .int (nI v_11.1), .ref ke0, .ref ik0, .ref cp0, .ref cn0, .ref be0])), (nw0, .inl (g 0, 748, .inl (f_X8_promise nw (kSide caller) pa_0 al ah gl gh))), (di0, .inl (g 0, 10472, .inl v_11.2))]) (va_runS (As := [.ref nw0, .int 1, .int 11]) (rest := []) ⟨hx, hb, hml, hown, hts⟩ (c_X8_contracts l D g nw0 H.size (f_X8_promise nw (kSide caller) pa_0 al ah gl gh) 1 11 mn_0 ((promise_low (by omega)).trans hmn) (by omega) (by omega) (by omega)) (va_cwS 3 hts gX8_link_X8_contracts rfl rfl rfl (by decide +kernel) (k_lvl (by omega) (by decide))) (kPS hP hD hK hS hA hE [1] rfl (by decide)) rfl rfl hl.1 rfl (lv_room (Nat.le_of_ble_eq_true rfl)) dX8_link_107 ⟨Nat.le_of_ble_eq_true rfl, Nat.le_of_ble_eq_true rfl⟩) hP hD hS hA [1] [0, 2] [0, 2, 1] rfl rfl (by decide) (by decide) rfl (by decide) (fun H locs hP hD hS => ?_)
          have ev_11 : (f_X8_remember ac nw di) = v_11 := Eq.symm kev_11
          have epa_0 : pa.toNatClampNeg = pa_0 := Eq.symm kepa_0
          have emn_0 : (nw 0).toNatClampNeg = mn_0 := Eq.symm kemn_0
          have hE2 : (f_X8_link ac nw di caller pa al ah gl gh) = ((rCnt (f_X8_promise nw (kSide caller) pa_0 al ah gl gh) mn_0 1 (11 + 1 - 1)), v_11.1, v_11.2, (f_X8_promise nw (kSide caller) pa_0 al ah gl gh)) := by
            subst ev_11
            subst epa_0
            subst emn_0
            exact (if_pos c_1).trans (rfl)
          subst hQ
          exact k_ri hx hb hr hlocks hP hD hS dX8_link_110 (by rw [hE2]) (by rw [hE2])
        · refine lv_iconst (v := 1) hx hb dX8_link_55 (by decide) ?_
          refine lv_goto (tgt := 69) hx hb dX8_link_56 (by decide) ?_
          have emn_0 : (nw 0).toNatClampNeg = mn_0 := Eq.symm kemn_0
          subst emn_0
          have h9 : (kc_X8_link nw caller pa al ah gl gh) = 1 := (if_pos c_1).trans ((if_neg c_2).trans ((if_neg c_5).trans ((if_pos c_8).trans (rfl))))
          rw [hk] at h9
          exact absurd h9 (by decide)
  · refine lv_aload_n hx hb dX8_link_7 rfl (lv_at hl 0 rfl) ?_
    refine lv_iload_n hx hb dX8_link_8 rfl (lv_at hl 1 rfl) ?_
    refine k_ai (wr := [(di0, .inl (g 0, 10472, .inl di))]) (w2 := [(m0, .inr (8, [.int rf, .ref sc0, .int (nI ss), .int (nI sp), .int ig, .int lo, .ref rd0, .ref nw0, .ref tr0, .ref di0, .int (nI ac), .ref ke0, .ref ik0, .ref cp0, .ref cn0, .ref be0])), (nw0, .inl (g 0, 748, .inl nw)), (di0, .inl (g 0, 10472, .inl di))]) (va_runV (As := [.int caller]) (rest := []) ⟨hx, hb, hml, hown, hts⟩ (c_X8_isPart l D g m0 sc0 rd0 nw0 tr0 di0 ke0 ik0 cp0 cn0 be0 H.size rf ss sp ig lo ac nw caller) (cwV 1 hts gX8_link_X8_isPart rfl rfl rfl (by decide +kernel) (k_lvl (by omega) (by decide))) (kPV hP hD hK hS hA hE [0, 1] rfl (by decide) 0 8 rfl rfl rfl) rfl rfl hl.1 rfl (lv_room (Nat.le_of_ble_eq_true rfl)) dX8_link_9 ⟨Nat.le_of_ble_eq_true rfl, Nat.le_of_ble_eq_true rfl⟩) hP hD hS hA [0, 1] [2] [1, 2, 0] rfl rfl (by decide) (by decide) rfl (by decide) (fun H locs hP hD hS => ?_)
    refine lv_if_eq (tgt := 43) hx hb dX8_link_12 (by decide) (fun c_12 => ?_) (fun c_12 => ?_)
    · refine lv_iconst (v := 0) hx hb dX8_link_43 (by decide) ?_
      refine lv_istore (lv' := [(7, .int 0), (0, .ref m0), (1, .int caller), (2, .int pa), (3, .int al), (4, .int ah), (5, .int gl), (6, .int gh)]) hx hb dX8_link_44 hl (by decide) rfl (fun ls hl => ?_)
      refine lv_aload_n hx hb dX8_link_46 rfl (lv_at hl 1 rfl) ?_
      refine lv_aload_n hx hb dX8_link_47 rfl (lv_at hl 1 rfl) ?_
      refine lv_iload_n hx hb dX8_link_48 rfl (lv_at hl 3 rfl) ?_
      refine k_ai (wr := [(di0, .inl (g 0, 10472, .inl di))]) (w2 := [(m0, .inr (8, [.int rf, .ref sc0, .int (nI ss), .int (nI sp), .int ig, .int lo, .ref rd0, .ref nw0, .ref tr0, .ref di0, .int (nI ac), .ref ke0, .ref ik0, .ref cp0, .ref cn0, .ref be0])), (nw0, .inl (g 0, 748, .inl nw)), (di0, .inl (g 0, 10472, .inl di))]) (va_runV (As := [.int pa]) (rest := [.ref m0]) ⟨hx, hb, hml, hown, hts⟩ (c_X8_isPart l D g m0 sc0 rd0 nw0 tr0 di0 ke0 ik0 cp0 cn0 be0 H.size rf ss sp ig lo ac nw pa) (cwV 1 hts gX8_link_X8_isPart rfl rfl rfl (by decide +kernel) (k_lvl (by omega) (by decide))) (kPV hP hD hK hS hA hE [0, 1] rfl (by decide) 0 8 rfl rfl rfl) rfl rfl hl.1 rfl (lv_room (Nat.le_of_ble_eq_true rfl)) dX8_link_49 ⟨Nat.le_of_ble_eq_true rfl, Nat.le_of_ble_eq_true rfl⟩) hP hD hS hA [0, 1] [2] [1, 2, 0] rfl rfl (by decide) (by decide) rfl (by decide) (fun H locs hP hD hS => ?_)
      refine lv_if_ne (tgt := 59) hx hb dX8_link_52 (by decide) (fun c_13 => ?_) (fun c_13 => ?_)
      · refine lv_iload hx hb dX8_link_59 (lv_at hl 0 rfl) ?_
        refine lv_if_eq (tgt := 68) hx hb dX8_link_61 (by decide) (fun _ => ?_) (fun c_14 => absurd c_14 (by decide))
        refine lv_iconst (v := 2) hx hb dX8_link_68 (by decide) ?_
        have emn_0 : (nw 0).toNatClampNeg = mn_0 := Eq.symm kemn_0
        subst emn_0
        have h9 : (kc_X8_link nw caller pa al ah gl gh) = 2 := (if_neg c_1).trans ((if_pos c_12).trans ((if_neg c_13).trans (rfl)))
        rw [hk] at h9
        exact absurd h9 (by decide)
      · refine lv_iconst (v := 1) hx hb dX8_link_55 (by decide) ?_
        refine lv_goto (tgt := 69) hx hb dX8_link_56 (by decide) ?_
        have emn_0 : (nw 0).toNatClampNeg = mn_0 := Eq.symm kemn_0
        subst emn_0
        have h9 : (kc_X8_link nw caller pa al ah gl gh) = 1 := (if_neg c_1).trans ((if_pos c_12).trans ((if_pos c_13).trans (rfl)))
        rw [hk] at h9
        exact absurd h9 (by decide)
    · refine lv_iload_n hx hb dX8_link_15 rfl (lv_at hl 1 rfl) ?_
      refine lv_iload_n hx hb dX8_link_16 rfl (lv_at hl 2 rfl) ?_
      refine lv_icmp_le (tgt := 43) hx hb dX8_link_17 (by decide) (fun c_15 => ?_) (fun c_15 => ?_)
      · refine lv_iconst (v := 0) hx hb dX8_link_43 (by decide) ?_
        refine lv_istore (lv' := [(7, .int 0), (0, .ref m0), (1, .int caller), (2, .int pa), (3, .int al), (4, .int ah), (5, .int gl), (6, .int gh)]) hx hb dX8_link_44 hl (by decide) rfl (fun ls hl => ?_)
        refine lv_aload_n hx hb dX8_link_46 rfl (lv_at hl 1 rfl) ?_
        refine lv_aload_n hx hb dX8_link_47 rfl (lv_at hl 1 rfl) ?_
        refine lv_iload_n hx hb dX8_link_48 rfl (lv_at hl 3 rfl) ?_
        refine k_ai (wr := [(di0, .inl (g 0, 10472, .inl di))]) (w2 := [(m0, .inr (8, [.int rf, .ref sc0, .int (nI ss), .int (nI sp), .int ig, .int lo, .ref rd0, .ref nw0, .ref tr0, .ref di0, .int (nI ac), .ref ke0, .ref ik0, .ref cp0, .ref cn0, .ref be0])), (nw0, .inl (g 0, 748, .inl nw)), (di0, .inl (g 0, 10472, .inl di))]) (va_runV (As := [.int pa]) (rest := [.ref m0]) ⟨hx, hb, hml, hown, hts⟩ (c_X8_isPart l D g m0 sc0 rd0 nw0 tr0 di0 ke0 ik0 cp0 cn0 be0 H.size rf ss sp ig lo ac nw pa) (cwV 1 hts gX8_link_X8_isPart rfl rfl rfl (by decide +kernel) (k_lvl (by omega) (by decide))) (kPV hP hD hK hS hA hE [0, 1] rfl (by decide) 0 8 rfl rfl rfl) rfl rfl hl.1 rfl (lv_room (Nat.le_of_ble_eq_true rfl)) dX8_link_49 ⟨Nat.le_of_ble_eq_true rfl, Nat.le_of_ble_eq_true rfl⟩) hP hD hS hA [0, 1] [2] [1, 2, 0] rfl rfl (by decide) (by decide) rfl (by decide) (fun H locs hP hD hS => ?_)
        refine lv_if_ne (tgt := 59) hx hb dX8_link_52 (by decide) (fun c_16 => ?_) (fun c_16 => ?_)
        · refine lv_iload hx hb dX8_link_59 (lv_at hl 0 rfl) ?_
          refine lv_if_eq (tgt := 68) hx hb dX8_link_61 (by decide) (fun _ => ?_) (fun c_17 => absurd c_17 (by decide))
          refine lv_iconst (v := 2) hx hb dX8_link_68 (by decide) ?_
          have emn_0 : (nw 0).toNatClampNeg = mn_0 := Eq.symm kemn_0
          subst emn_0
          have h9 : (kc_X8_link nw caller pa al ah gl gh) = 2 := (if_neg c_1).trans ((if_neg c_12).trans ((if_pos c_15).trans ((if_neg c_16).trans (rfl))))
          rw [hk] at h9
          exact absurd h9 (by decide)
        · refine lv_iconst (v := 1) hx hb dX8_link_55 (by decide) ?_
          refine lv_goto (tgt := 69) hx hb dX8_link_56 (by decide) ?_
          have emn_0 : (nw 0).toNatClampNeg = mn_0 := Eq.symm kemn_0
          subst emn_0
          have h9 : (kc_X8_link nw caller pa al ah gl gh) = 1 := (if_neg c_1).trans ((if_neg c_12).trans ((if_pos c_15).trans ((if_pos c_16).trans (rfl))))
          rw [hk] at h9
          exact absurd h9 (by decide)
      · refine lv_iload_n hx hb dX8_link_20 rfl (lv_at hl 3 rfl) ?_
        refine lv_iload hx hb dX8_link_21 (lv_at hl 4 rfl) ?_
        refine k_ai (wr := [(m0, .inr (8, [.int rf, .ref sc0, .int (nI ss), .int (nI sp), .int ig, .int lo, .ref rd0, .ref nw0, .ref tr0, .ref di0, .int (nI ac), .ref ke0, .ref ik0, .ref cp0, .ref cn0, .ref be0])), (nw0, .inl (g 0, 748, .inl nw)), (di0, .inl (g 0, 10472, .inl di))]) (w2 := [(m0, .inr (8, [.int rf, .ref sc0, .int (nI ss), .int (nI sp), .int ig, .int lo, .ref rd0, .ref nw0, .ref tr0, .ref di0, .int (nI ac), .ref ke0, .ref ik0, .ref cp0, .ref cn0, .ref be0])), (nw0, .inl (g 0, 748, .inl nw)), (di0, .inl (g 0, 10472, .inl di))]) (va_runS (As := [.int al, .int ah]) (rest := []) ⟨hx, hb, hml, hown, hts⟩ (c_X8_isRange l D g H.size al ah) (va_cwS 2 hts gX8_link_X8_isRange rfl rfl rfl (by decide +kernel) (k_lvl (by omega) (by decide))) (kPS hP hD hK hS hA hE [] rfl (by decide)) rfl rfl hl.1 rfl (lv_room (Nat.le_of_ble_eq_true rfl)) dX8_link_23 ⟨Nat.le_of_ble_eq_true rfl, Nat.le_of_ble_eq_true rfl⟩) hP hD hS hA [] [0, 1, 2] [0, 1, 2] rfl rfl (by decide) (by decide) rfl (by decide) (fun H locs hP hD hS => ?_)
        refine lv_if_eq (tgt := 43) hx hb dX8_link_26 (by decide) (fun c_18 => ?_) (fun c_18 => ?_)
        · refine lv_iconst (v := 0) hx hb dX8_link_43 (by decide) ?_
          refine lv_istore (lv' := [(7, .int 0), (0, .ref m0), (1, .int caller), (2, .int pa), (3, .int al), (4, .int ah), (5, .int gl), (6, .int gh)]) hx hb dX8_link_44 hl (by decide) rfl (fun ls hl => ?_)
          refine lv_aload_n hx hb dX8_link_46 rfl (lv_at hl 1 rfl) ?_
          refine lv_aload_n hx hb dX8_link_47 rfl (lv_at hl 1 rfl) ?_
          refine lv_iload_n hx hb dX8_link_48 rfl (lv_at hl 3 rfl) ?_
          refine k_ai (wr := [(di0, .inl (g 0, 10472, .inl di))]) (w2 := [(m0, .inr (8, [.int rf, .ref sc0, .int (nI ss), .int (nI sp), .int ig, .int lo, .ref rd0, .ref nw0, .ref tr0, .ref di0, .int (nI ac), .ref ke0, .ref ik0, .ref cp0, .ref cn0, .ref be0])), (nw0, .inl (g 0, 748, .inl nw)), (di0, .inl (g 0, 10472, .inl di))]) (va_runV (As := [.int pa]) (rest := [.ref m0]) ⟨hx, hb, hml, hown, hts⟩ (c_X8_isPart l D g m0 sc0 rd0 nw0 tr0 di0 ke0 ik0 cp0 cn0 be0 H.size rf ss sp ig lo ac nw pa) (cwV 1 hts gX8_link_X8_isPart rfl rfl rfl (by decide +kernel) (k_lvl (by omega) (by decide))) (kPV hP hD hK hS hA hE [0, 1] rfl (by decide) 0 8 rfl rfl rfl) rfl rfl hl.1 rfl (lv_room (Nat.le_of_ble_eq_true rfl)) dX8_link_49 ⟨Nat.le_of_ble_eq_true rfl, Nat.le_of_ble_eq_true rfl⟩) hP hD hS hA [0, 1] [2] [1, 2, 0] rfl rfl (by decide) (by decide) rfl (by decide) (fun H locs hP hD hS => ?_)
          refine lv_if_ne (tgt := 59) hx hb dX8_link_52 (by decide) (fun c_19 => ?_) (fun c_19 => ?_)
          · refine lv_iload hx hb dX8_link_59 (lv_at hl 0 rfl) ?_
            refine lv_if_eq (tgt := 68) hx hb dX8_link_61 (by decide) (fun _ => ?_) (fun c_20 => absurd c_20 (by decide))
            refine lv_iconst (v := 2) hx hb dX8_link_68 (by decide) ?_
            have emn_0 : (nw 0).toNatClampNeg = mn_0 := Eq.symm kemn_0
            subst emn_0
            have h9 : (kc_X8_link nw caller pa al ah gl gh) = 2 := (if_neg c_1).trans ((if_neg c_12).trans ((if_neg c_15).trans ((if_pos c_18).trans ((if_neg c_19).trans (rfl)))))
            rw [hk] at h9
            exact absurd h9 (by decide)
          · refine lv_iconst (v := 1) hx hb dX8_link_55 (by decide) ?_
            refine lv_goto (tgt := 69) hx hb dX8_link_56 (by decide) ?_
            have emn_0 : (nw 0).toNatClampNeg = mn_0 := Eq.symm kemn_0
            subst emn_0
            have h9 : (kc_X8_link nw caller pa al ah gl gh) = 1 := (if_neg c_1).trans ((if_neg c_12).trans ((if_neg c_15).trans ((if_pos c_18).trans ((if_pos c_19).trans (rfl)))))
            rw [hk] at h9
            exact absurd h9 (by decide)
        · refine lv_iload hx hb dX8_link_29 (lv_at hl 5 rfl) ?_
          refine lv_iload hx hb dX8_link_31 (lv_at hl 6 rfl) ?_
          refine k_ai (wr := [(m0, .inr (8, [.int rf, .ref sc0, .int (nI ss), .int (nI sp), .int ig, .int lo, .ref rd0, .ref nw0, .ref tr0, .ref di0, .int (nI ac), .ref ke0, .ref ik0, .ref cp0, .ref cn0, .ref be0])), (nw0, .inl (g 0, 748, .inl nw)), (di0, .inl (g 0, 10472, .inl di))]) (w2 := [(m0, .inr (8, [.int rf, .ref sc0, .int (nI ss), .int (nI sp), .int ig, .int lo, .ref rd0, .ref nw0, .ref tr0, .ref di0, .int (nI ac), .ref ke0, .ref ik0, .ref cp0, .ref cn0, .ref be0])), (nw0, .inl (g 0, 748, .inl nw)), (di0, .inl (g 0, 10472, .inl di))]) (va_runS (As := [.int gl, .int gh]) (rest := []) ⟨hx, hb, hml, hown, hts⟩ (c_X8_isRange l D g H.size gl gh) (va_cwS 2 hts gX8_link_X8_isRange rfl rfl rfl (by decide +kernel) (k_lvl (by omega) (by decide))) (kPS hP hD hK hS hA hE [] rfl (by decide)) rfl rfl hl.1 rfl (lv_room (Nat.le_of_ble_eq_true rfl)) dX8_link_33 ⟨Nat.le_of_ble_eq_true rfl, Nat.le_of_ble_eq_true rfl⟩) hP hD hS hA [] [0, 1, 2] [0, 1, 2] rfl rfl (by decide) (by decide) rfl (by decide) (fun H locs hP hD hS => ?_)
          refine lv_if_eq (tgt := 43) hx hb dX8_link_36 (by decide) (fun c_21 => ?_) (fun c_21 => ?_)
          · refine lv_iconst (v := 0) hx hb dX8_link_43 (by decide) ?_
            refine lv_istore (lv' := [(7, .int 0), (0, .ref m0), (1, .int caller), (2, .int pa), (3, .int al), (4, .int ah), (5, .int gl), (6, .int gh)]) hx hb dX8_link_44 hl (by decide) rfl (fun ls hl => ?_)
            refine lv_aload_n hx hb dX8_link_46 rfl (lv_at hl 1 rfl) ?_
            refine lv_aload_n hx hb dX8_link_47 rfl (lv_at hl 1 rfl) ?_
            refine lv_iload_n hx hb dX8_link_48 rfl (lv_at hl 3 rfl) ?_
            refine k_ai (wr := [(di0, .inl (g 0, 10472, .inl di))]) (w2 := [(m0, .inr (8, [.int rf, .ref sc0, .int (nI ss), .int (nI sp), .int ig, .int lo, .ref rd0, .ref nw0, .ref tr0, .ref di0, .int (nI ac), .ref ke0, .ref ik0, .ref cp0, .ref cn0, .ref be0])), (nw0, .inl (g 0, 748, .inl nw)), (di0, .inl (g 0, 10472, .inl di))]) (va_runV (As := [.int pa]) (rest := [.ref m0]) ⟨hx, hb, hml, hown, hts⟩ (c_X8_isPart l D g m0 sc0 rd0 nw0 tr0 di0 ke0 ik0 cp0 cn0 be0 H.size rf ss sp ig lo ac nw pa) (cwV 1 hts gX8_link_X8_isPart rfl rfl rfl (by decide +kernel) (k_lvl (by omega) (by decide))) (kPV hP hD hK hS hA hE [0, 1] rfl (by decide) 0 8 rfl rfl rfl) rfl rfl hl.1 rfl (lv_room (Nat.le_of_ble_eq_true rfl)) dX8_link_49 ⟨Nat.le_of_ble_eq_true rfl, Nat.le_of_ble_eq_true rfl⟩) hP hD hS hA [0, 1] [2] [1, 2, 0] rfl rfl (by decide) (by decide) rfl (by decide) (fun H locs hP hD hS => ?_)
            refine lv_if_ne (tgt := 59) hx hb dX8_link_52 (by decide) (fun c_22 => ?_) (fun c_22 => ?_)
            · refine lv_iload hx hb dX8_link_59 (lv_at hl 0 rfl) ?_
              refine lv_if_eq (tgt := 68) hx hb dX8_link_61 (by decide) (fun _ => ?_) (fun c_23 => absurd c_23 (by decide))
              refine lv_iconst (v := 2) hx hb dX8_link_68 (by decide) ?_
              have emn_0 : (nw 0).toNatClampNeg = mn_0 := Eq.symm kemn_0
              subst emn_0
              have h9 : (kc_X8_link nw caller pa al ah gl gh) = 2 := (if_neg c_1).trans ((if_neg c_12).trans ((if_neg c_15).trans ((if_neg c_18).trans ((if_pos c_21).trans ((if_neg c_22).trans (rfl))))))
              rw [hk] at h9
              exact absurd h9 (by decide)
            · refine lv_iconst (v := 1) hx hb dX8_link_55 (by decide) ?_
              refine lv_goto (tgt := 69) hx hb dX8_link_56 (by decide) ?_
              have emn_0 : (nw 0).toNatClampNeg = mn_0 := Eq.symm kemn_0
              subst emn_0
              have h9 : (kc_X8_link nw caller pa al ah gl gh) = 1 := (if_neg c_1).trans ((if_neg c_12).trans ((if_neg c_15).trans ((if_neg c_18).trans ((if_pos c_21).trans ((if_pos c_22).trans (rfl))))))
              rw [hk] at h9
              exact absurd h9 (by decide)
          · refine lv_iconst (v := 1) hx hb dX8_link_39 (by decide) ?_
            refine lv_goto (tgt := 44) hx hb dX8_link_40 (by decide) ?_
            refine lv_istore (lv' := [(7, .int 1), (0, .ref m0), (1, .int caller), (2, .int pa), (3, .int al), (4, .int ah), (5, .int gl), (6, .int gh)]) hx hb dX8_link_44 hl (by decide) rfl (fun ls hl => ?_)
            refine lv_aload_n hx hb dX8_link_46 rfl (lv_at hl 1 rfl) ?_
            refine lv_aload_n hx hb dX8_link_47 rfl (lv_at hl 1 rfl) ?_
            refine lv_iload_n hx hb dX8_link_48 rfl (lv_at hl 3 rfl) ?_
            refine k_ai (wr := [(di0, .inl (g 0, 10472, .inl di))]) (w2 := [(m0, .inr (8, [.int rf, .ref sc0, .int (nI ss), .int (nI sp), .int ig, .int lo, .ref rd0, .ref nw0, .ref tr0, .ref di0, .int (nI ac), .ref ke0, .ref ik0, .ref cp0, .ref cn0, .ref be0])), (nw0, .inl (g 0, 748, .inl nw)), (di0, .inl (g 0, 10472, .inl di))]) (va_runV (As := [.int pa]) (rest := [.ref m0]) ⟨hx, hb, hml, hown, hts⟩ (c_X8_isPart l D g m0 sc0 rd0 nw0 tr0 di0 ke0 ik0 cp0 cn0 be0 H.size rf ss sp ig lo ac nw pa) (cwV 1 hts gX8_link_X8_isPart rfl rfl rfl (by decide +kernel) (k_lvl (by omega) (by decide))) (kPV hP hD hK hS hA hE [0, 1] rfl (by decide) 0 8 rfl rfl rfl) rfl rfl hl.1 rfl (lv_room (Nat.le_of_ble_eq_true rfl)) dX8_link_49 ⟨Nat.le_of_ble_eq_true rfl, Nat.le_of_ble_eq_true rfl⟩) hP hD hS hA [0, 1] [2] [1, 2, 0] rfl rfl (by decide) (by decide) rfl (by decide) (fun H locs hP hD hS => ?_)
            refine lv_if_ne (tgt := 59) hx hb dX8_link_52 (by decide) (fun c_24 => ?_) (fun c_24 => ?_)
            · refine lv_iload hx hb dX8_link_59 (lv_at hl 0 rfl) ?_
              refine lv_if_eq (tgt := 68) hx hb dX8_link_61 (by decide) (fun c_25 => absurd c_25 (by decide)) (fun _ => ?_)
              refine lv_iconst (v := 0) hx hb dX8_link_64 (by decide) ?_
              refine lv_goto (tgt := 69) hx hb dX8_link_65 (by decide) ?_
              refine k_ai (wr := [(nw0, .inl (g 0, 748, .inl nw)), (di0, .inl (g 0, 10472, .inl di))]) (w2 := [(m0, .inr (8, [.int 0, .ref sc0, .int (nI ss), .int (nI sp), .int ig, .int lo, .ref rd0, .ref nw0, .ref tr0, .ref di0, .int (nI ac), .ref ke0, .ref ik0, .ref cp0, .ref cn0, .ref be0])), (nw0, .inl (g 0, 748, .inl nw)), (di0, .inl (g 0, 10472, .inl di))]) (va_runV (As := [.int 0]) (rest := []) ⟨hx, hb, hml, hown, hts⟩ (c_X8_refused0 l D g m0 sc0 rd0 nw0 tr0 di0 ke0 ik0 cp0 cn0 be0 H.size rf ss sp ig lo ac) (cwV 1 hts gX8_link_X8_refused rfl rfl rfl (by decide +kernel) (k_lvl (by omega) (by decide))) (kPV hP hD hK hS hA hE [0] rfl (by decide) 0 8 rfl rfl rfl) rfl rfl hl.1 rfl (lv_room (Nat.le_of_ble_eq_true rfl)) dX8_link_69 ⟨Nat.le_of_ble_eq_true rfl, Nat.le_of_ble_eq_true rfl⟩) hP hD hS hA [0] [1, 2] [2, 0, 1] rfl rfl (by decide) (by decide) rfl (by decide) (fun H locs hP hD hS => ?_)
              refine lv_if_eq (tgt := 77) hx hb dX8_link_72 (by decide) (fun _ => ?_) (fun c_26 => absurd c_26 (by decide))
              obtain ⟨pa_0, epa_0⟩ : ∃ z, z = pa.toNatClampNeg := ⟨_, rfl⟩
              have qpa_0 : pa = nI pa_0 := by rw [epa_0]; exact (isPart_N c_24 hmn hm9).1
              have bpa_0 : pa_0 < mn_0 := by rw [epa_0]; exact (isPart_N c_24 hmn hm9).2
              have kepa_0 : kEq pa_0 pa.toNatClampNeg := epa_0
              clear epa_0
              have hl : lv_has ls 8 [(7, .int 1), (0, .ref m0), (1, .int caller), (2, .int (nI pa_0)), (3, .int al), (4, .int ah), (5, .int gl), (6, .int gh)] := by
                have h9 := hl
                rw [qpa_0] at h9
                exact h9
              obtain ⟨hcl9, hsd9, hsd8⟩ := side_part (isPart_N c_12 hmn hm9) hm9
              refine lv_aload_n hx hb dX8_link_77 rfl (lv_at hl 1 rfl) ?_
              have hC := c_X8_remember l D g m0 sc0 rd0 nw0 tr0 di0 ke0 ik0 cp0 cn0 be0 H.size 0 ss sp ig lo ac nw di (by omega)
              obtain ⟨v_27, ev_27⟩ : ∃ z, z = (f_X8_remember ac nw di) := ⟨_, rfl⟩
              rw [← ev_27] at hC
              have kev_27 : kEq v_27 (f_X8_remember ac nw di) := ev_27
              clear ev_27
              refine k_av (wr := []) (w2 := [(m0, .inr (8, [.int 0, .ref sc0, .int (nI ss), .int (nI sp), .int ig, .int lo, .ref rd0, .ref nw0, .ref tr0, .ref di0, .int (nI v_27.1), .ref ke0, .ref ik0, .ref cp0, .ref cn0, .ref be0])), (nw0, .inl (g 0, 748, .inl nw)), (di0, .inl (g 0, 10472, .inl v_27.2))]) (va_runV (As := []) (rest := []) ⟨hx, hb, hml, hown, hts⟩ hC (cwV 0 hts gX8_link_X8_remember rfl rfl rfl (by decide +kernel) (k_lvl (by omega) (by decide))) (kPV hP hD hK hS hA hE [0, 1, 2] rfl (by decide) 0 8 rfl rfl rfl) rfl rfl hl.1 rfl (lv_room (Nat.le_of_ble_eq_true rfl)) dX8_link_78 ⟨Nat.le_of_ble_eq_true rfl, Nat.le_of_ble_eq_true rfl⟩) hP hD hS hA [0, 1, 2] [] [0, 1, 2] rfl rfl (by decide) (by decide) rfl (by decide) (fun H locs hP hD hS => ?_)
              refine lv_aload_n hx hb dX8_link_81 rfl (lv_at hl 1 rfl) ?_
              refine va_get (D := D) (ci := 8) (v := .ref nw0) (C := RX8) (T := TX8) (N := 16) hx hb hts (fun w h => (List.mem_cons_of_mem _ (List.mem_append_right _ h))) hown hK hP 0 rfl rfl 7 (by decide) (hts _ qX8_link_0) (fun _ h9 => h9) rfl dX8_link_82 ?_
              refine lv_iload_n hx hb dX8_link_85 rfl (lv_at hl 2 rfl) ?_
              refine k_ai (wr := [(m0, .inr (8, [.int 0, .ref sc0, .int (nI ss), .int (nI sp), .int ig, .int lo, .ref rd0, .ref nw0, .ref tr0, .ref di0, .int (nI v_27.1), .ref ke0, .ref ik0, .ref cp0, .ref cn0, .ref be0])), (nw0, .inl (g 0, 748, .inl nw)), (di0, .inl (g 0, 10472, .inl v_27.2))]) (w2 := [(m0, .inr (8, [.int 0, .ref sc0, .int (nI ss), .int (nI sp), .int ig, .int lo, .ref rd0, .ref nw0, .ref tr0, .ref di0, .int (nI v_27.1), .ref ke0, .ref ik0, .ref cp0, .ref cn0, .ref be0])), (nw0, .inl (g 0, 748, .inl nw)), (di0, .inl (g 0, 10472, .inl v_27.2))]) (va_runS (As := [.int caller]) (rest := [.ref nw0]) ⟨hx, hb, hml, hown, hts⟩ (c_X8_sideOf l D g H.size caller hcl9) (va_cwS 1 hts gX8_link_X8_sideOf rfl rfl rfl (by decide +kernel) (k_lvl (by omega) (by decide))) (kPS hP hD hK hS hA hE [] rfl (by decide)) rfl rfl hl.1 rfl (lv_room (Nat.le_of_ble_eq_true rfl)) dX8_link_86 ⟨Nat.le_of_ble_eq_true rfl, Nat.le_of_ble_eq_true rfl⟩) hP hD hS hA [] [0, 1, 2] [0, 1, 2] rfl rfl (by decide) (by decide) rfl (by decide) (fun H locs hP hD hS => ?_)
              refine lv_iload_n hx hb dX8_link_89 rfl (lv_at hl 3 rfl) ?_
              refine lv_iload_n hx hb dX8_link_90 rfl (lv_at hl 4 rfl) ?_
              refine lv_iload hx hb dX8_link_91 (lv_at hl 5 rfl) ?_
              refine lv_iload hx hb dX8_link_93 (lv_at hl 6 rfl) ?_
              refine lv_iload hx hb dX8_link_95 (lv_at hl 7 rfl) ?_
              refine k_av (wr := [(m0, .inr (8, [.int 0, .ref sc0, .int (nI ss), .int (nI sp), .int ig, .int lo, .ref rd0, .ref nw0, .ref tr0, .ref di0, .int (nI v_27.1), .ref ke0, .ref ik0, .ref cp0, .ref cn0, .ref be0])), (di0, .inl (g 0, 10472, .inl v_27.2))]) (w2 := [(m0, .inr (8, [.int 0, .ref sc0, .int (nI ss), .int (nI sp), .int ig, .int lo, .ref rd0, .ref nw0, .ref tr0, .ref di0, .int (nI v_27.1), .ref ke0, .ref ik0, .ref cp0, .ref cn0, .ref be0])), (nw0, .inl (g 0, 748, .inl (f_X8_promise nw (kSide caller) pa_0 al ah gl gh))), (di0, .inl (g 0, 10472, .inl v_27.2))]) (va_runS (As := [.ref nw0, .int (nI (kSide caller)), .int (nI pa_0), .int al, .int ah, .int gl, .int gh]) (rest := []) ⟨hx, hb, hml, hown, hts⟩ (c_X8_promise l D g nw0 H.size nw (kSide caller) pa_0 al ah gl gh hsd8 (by omega)) (va_cwS 7 hts gX8_link_X8_promise rfl rfl rfl (by decide +kernel) (k_lvl (by omega) (by decide))) (kPS hP hD hK hS hA hE [1] rfl (by decide)) rfl rfl hl.1 rfl (lv_room (Nat.le_of_ble_eq_true rfl)) dX8_link_97 ⟨Nat.le_of_ble_eq_true rfl, Nat.le_of_ble_eq_true rfl⟩) hP hD hS hA [1] [0, 2] [0, 2, 1] rfl rfl (by decide) (by decide) rfl (by decide) (fun H locs hP hD hS => ?_)
              refine lv_aload_n hx hb dX8_link_100 rfl (lv_at hl 1 rfl) ?_
              refine va_get (D := D) (ci := 8) (v := .ref nw0) (C := RX8) (T := TX8) (N := 16) hx hb hts (fun w h => (List.mem_cons_of_mem _ (List.mem_append_right _ h))) hown hK hP 0 rfl rfl 7 (by decide) (hts _ qX8_link_0) (fun _ h9 => h9) rfl dX8_link_101 ?_
              refine lv_iconst (v := 1) hx hb dX8_link_104 (by decide) ?_
              refine lv_bipush (v := 11) hx hb dX8_link_105 (by decide) ?_
              refine k_ai (wr := [(m0, .inr (8, [.int 0, .ref sc0, .int (nI ss), .int (nI sp), .int ig, .int lo, .ref rd0, .ref nw0, .ref tr0, .ref di0, .int (nI v_27.1), .ref ke0, .ref ik0, .ref cp0, .ref cn0, .ref be0])), (di0, .inl (g 0, 10472, .inl v_27.2))]) (w2 := [(m0, .inr (8, [.int 0, .ref sc0, .int (nI ss), .int (nI sp), .int ig, .int lo, .ref rd0, .ref nw0, .ref tr0, .ref di0, .int (nI v_27.1), .ref ke0, .ref ik0, .ref cp0, .ref cn0, .ref be0])), (nw0, .inl (g 0, 748, .inl (f_X8_promise nw (kSide caller) pa_0 al ah gl gh))), (di0, .inl (g 0, 10472, .inl v_27.2))]) (va_runS (As := [.ref nw0, .int 1, .int 11]) (rest := []) ⟨hx, hb, hml, hown, hts⟩ (c_X8_contracts l D g nw0 H.size (f_X8_promise nw (kSide caller) pa_0 al ah gl gh) 1 11 mn_0 ((promise_low (by omega)).trans hmn) (by omega) (by omega) (by omega)) (va_cwS 3 hts gX8_link_X8_contracts rfl rfl rfl (by decide +kernel) (k_lvl (by omega) (by decide))) (kPS hP hD hK hS hA hE [1] rfl (by decide)) rfl rfl hl.1 rfl (lv_room (Nat.le_of_ble_eq_true rfl)) dX8_link_107 ⟨Nat.le_of_ble_eq_true rfl, Nat.le_of_ble_eq_true rfl⟩) hP hD hS hA [1] [0, 2] [0, 2, 1] rfl rfl (by decide) (by decide) rfl (by decide) (fun H locs hP hD hS => ?_)
              have ev_27 : (f_X8_remember ac nw di) = v_27 := Eq.symm kev_27
              have epa_0 : pa.toNatClampNeg = pa_0 := Eq.symm kepa_0
              have emn_0 : (nw 0).toNatClampNeg = mn_0 := Eq.symm kemn_0
              have hE2 : (f_X8_link ac nw di caller pa al ah gl gh) = ((rCnt (f_X8_promise nw (kSide caller) pa_0 al ah gl gh) mn_0 1 (11 + 1 - 1)), v_27.1, v_27.2, (f_X8_promise nw (kSide caller) pa_0 al ah gl gh)) := by
                subst ev_27
                subst epa_0
                subst emn_0
                exact (if_neg c_1).trans (rfl)
              subst hQ
              exact k_ri hx hb hr hlocks hP hD hS dX8_link_110 (by rw [hE2]) (by rw [hE2])
            · refine lv_iconst (v := 1) hx hb dX8_link_55 (by decide) ?_
              refine lv_goto (tgt := 69) hx hb dX8_link_56 (by decide) ?_
              have emn_0 : (nw 0).toNatClampNeg = mn_0 := Eq.symm kemn_0
              subst emn_0
              have h9 : (kc_X8_link nw caller pa al ah gl gh) = 1 := (if_neg c_1).trans ((if_neg c_12).trans ((if_neg c_15).trans ((if_neg c_18).trans ((if_neg c_21).trans ((if_pos c_24).trans (rfl))))))
              rw [hk] at h9
              exact absurd h9 (by decide)
set_option maxHeartbeats 4000000 in
set_option maxRecDepth 100000 in
theorem c_X8_link_bad (l : Launch) (D : va_G) (g : Nat → Nat) (m0 sc0 rd0 nw0 tr0 di0 ke0 ik0 cp0 cn0 be0 : Nat) (sz : Nat) (rf : Int32) (ss : Nat) (sp : Nat) (ig : Int32) (lo : Int32) (ac : Nat) (nw : Nat → Int32) (di : Nat → Int32) (caller : Int32) (pa : Int32) (al : Int32) (ah : Int32) (gl : Int32) (gh : Int32) (hO : rdOk nw) (hac : ac ≤ 14) (hk : ¬ (kc_X8_link nw caller pa al ah gl gh) = 0) : kMi l D g yX8_link wsX8_link 3 0 0 [.ref m0, .int caller, .int pa, .int al, .int ah, .int gl, .int gh] [(m0, .inr (8, [.int rf, .ref sc0, .int (nI ss), .int (nI sp), .int ig, .int lo, .ref rd0, .ref nw0, .ref tr0, .ref di0, .int (nI ac), .ref ke0, .ref ik0, .ref cp0, .ref cn0, .ref be0])), (nw0, .inl (g 0, 748, .inl nw)), (di0, .inl (g 0, 10472, .inl di))] sz 0 [(m0, .inr (8, [.int (kc_X8_link nw caller pa al ah gl gh), .ref sc0, .int (nI ss), .int (nI sp), .int ig, .int lo, .ref rd0, .ref nw0, .ref tr0, .ref di0, .int (nI ac), .ref ke0, .ref ik0, .ref cp0, .ref cn0, .ref be0])), (nw0, .inl (g 0, 748, .inl nw)), (di0, .inl (g 0, 10472, .inl di))] := by
  refine k_enter (nm := "link") (own := RX8) (bytes := cX8_link) (maxL := 8) (ret := (some .int)) (Qf := fun A => kQi D [(m0, .inr (8, [.int (kc_X8_link nw caller pa al ah gl gh), .ref sc0, .int (nI ss), .int (nI sp), .int ig, .int lo, .ref rd0, .ref nw0, .ref tr0, .ref di0, .int (nI ac), .ref ke0, .ref ik0, .ref cp0, .ref cn0, .ref be0])), (nw0, .inl (g 0, 748, .inl nw)), (di0, .inl (g 0, 10472, .inl di))] A 0) (by decide) rfl rfl rfl (Nat.le_of_ble_eq_true rfl) ?_
  rintro pp ee s mm below meth cc A ls args Q H locs hQ ⟨hx, hb, hr, hml, hown, hts, hlocks, hin⟩ hP hK hD hA hS hE hl
  have hl : lv_has ls 8 [(0, .ref m0), (1, .int caller), (2, .int pa), (3, .int al), (4, .int ah), (5, .int gl), (6, .int gh)] := hl
  refine lv_iload_n hx hb dX8_link_0 rfl (lv_at hl 1 rfl) ?_
  refine lv_sipush (v := (-10000)) hx hb dX8_link_1 (by decide) ?_
  refine lv_icmp_eq (tgt := 20) hx hb dX8_link_4 (by decide) (fun c_1 => ?_) (fun c_1 => ?_)
  · refine lv_iload_n hx hb dX8_link_20 rfl (lv_at hl 3 rfl) ?_
    refine lv_iload hx hb dX8_link_21 (lv_at hl 4 rfl) ?_
    refine k_ai (wr := [(m0, .inr (8, [.int rf, .ref sc0, .int (nI ss), .int (nI sp), .int ig, .int lo, .ref rd0, .ref nw0, .ref tr0, .ref di0, .int (nI ac), .ref ke0, .ref ik0, .ref cp0, .ref cn0, .ref be0])), (nw0, .inl (g 0, 748, .inl nw)), (di0, .inl (g 0, 10472, .inl di))]) (w2 := [(m0, .inr (8, [.int rf, .ref sc0, .int (nI ss), .int (nI sp), .int ig, .int lo, .ref rd0, .ref nw0, .ref tr0, .ref di0, .int (nI ac), .ref ke0, .ref ik0, .ref cp0, .ref cn0, .ref be0])), (nw0, .inl (g 0, 748, .inl nw)), (di0, .inl (g 0, 10472, .inl di))]) (va_runS (As := [.int al, .int ah]) (rest := []) ⟨hx, hb, hml, hown, hts⟩ (c_X8_isRange l D g H.size al ah) (va_cwS 2 hts gX8_link_X8_isRange rfl rfl rfl (by decide +kernel) (k_lvl (by omega) (by decide))) (kPS hP hD hK hS hA hE [] rfl (by decide)) rfl rfl hl.1 rfl (lv_room (Nat.le_of_ble_eq_true rfl)) dX8_link_23 ⟨Nat.le_of_ble_eq_true rfl, Nat.le_of_ble_eq_true rfl⟩) hP hD hS hA [] [0, 1, 2] [0, 1, 2] rfl rfl (by decide) (by decide) rfl (by decide) (fun H locs hP hD hS => ?_)
    refine lv_if_eq (tgt := 43) hx hb dX8_link_26 (by decide) (fun c_2 => ?_) (fun c_2 => ?_)
    · refine lv_iconst (v := 0) hx hb dX8_link_43 (by decide) ?_
      refine lv_istore (lv' := [(7, .int 0), (0, .ref m0), (1, .int caller), (2, .int pa), (3, .int al), (4, .int ah), (5, .int gl), (6, .int gh)]) hx hb dX8_link_44 hl (by decide) rfl (fun ls hl => ?_)
      refine lv_aload_n hx hb dX8_link_46 rfl (lv_at hl 1 rfl) ?_
      refine lv_aload_n hx hb dX8_link_47 rfl (lv_at hl 1 rfl) ?_
      refine lv_iload_n hx hb dX8_link_48 rfl (lv_at hl 3 rfl) ?_
      refine k_ai (wr := [(di0, .inl (g 0, 10472, .inl di))]) (w2 := [(m0, .inr (8, [.int rf, .ref sc0, .int (nI ss), .int (nI sp), .int ig, .int lo, .ref rd0, .ref nw0, .ref tr0, .ref di0, .int (nI ac), .ref ke0, .ref ik0, .ref cp0, .ref cn0, .ref be0])), (nw0, .inl (g 0, 748, .inl nw)), (di0, .inl (g 0, 10472, .inl di))]) (va_runV (As := [.int pa]) (rest := [.ref m0]) ⟨hx, hb, hml, hown, hts⟩ (c_X8_isPart l D g m0 sc0 rd0 nw0 tr0 di0 ke0 ik0 cp0 cn0 be0 H.size rf ss sp ig lo ac nw pa) (cwV 1 hts gX8_link_X8_isPart rfl rfl rfl (by decide +kernel) (k_lvl (by omega) (by decide))) (kPV hP hD hK hS hA hE [0, 1] rfl (by decide) 0 8 rfl rfl rfl) rfl rfl hl.1 rfl (lv_room (Nat.le_of_ble_eq_true rfl)) dX8_link_49 ⟨Nat.le_of_ble_eq_true rfl, Nat.le_of_ble_eq_true rfl⟩) hP hD hS hA [0, 1] [2] [1, 2, 0] rfl rfl (by decide) (by decide) rfl (by decide) (fun H locs hP hD hS => ?_)
      refine lv_if_ne (tgt := 59) hx hb dX8_link_52 (by decide) (fun c_3 => ?_) (fun c_3 => ?_)
      · refine lv_iload hx hb dX8_link_59 (lv_at hl 0 rfl) ?_
        refine lv_if_eq (tgt := 68) hx hb dX8_link_61 (by decide) (fun _ => ?_) (fun c_4 => absurd c_4 (by decide))
        refine lv_iconst (v := 2) hx hb dX8_link_68 (by decide) ?_
        refine k_ai (wr := [(nw0, .inl (g 0, 748, .inl nw)), (di0, .inl (g 0, 10472, .inl di))]) (w2 := [(m0, .inr (8, [.int 2, .ref sc0, .int (nI ss), .int (nI sp), .int ig, .int lo, .ref rd0, .ref nw0, .ref tr0, .ref di0, .int (nI ac), .ref ke0, .ref ik0, .ref cp0, .ref cn0, .ref be0])), (nw0, .inl (g 0, 748, .inl nw)), (di0, .inl (g 0, 10472, .inl di))]) (va_runV (As := [.int 2]) (rest := []) ⟨hx, hb, hml, hown, hts⟩ (c_X8_refused2 l D g m0 sc0 rd0 nw0 tr0 di0 ke0 ik0 cp0 cn0 be0 H.size rf ss sp ig lo ac) (cwV 1 hts gX8_link_X8_refused rfl rfl rfl (by decide +kernel) (k_lvl (by omega) (by decide))) (kPV hP hD hK hS hA hE [0] rfl (by decide) 0 8 rfl rfl rfl) rfl rfl hl.1 rfl (lv_room (Nat.le_of_ble_eq_true rfl)) dX8_link_69 ⟨Nat.le_of_ble_eq_true rfl, Nat.le_of_ble_eq_true rfl⟩) hP hD hS hA [0] [1, 2] [2, 0, 1] rfl rfl (by decide) (by decide) rfl (by decide) (fun H locs hP hD hS => ?_)
        refine lv_if_eq (tgt := 77) hx hb dX8_link_72 (by decide) (fun c_5 => absurd c_5 (by decide)) (fun _ => ?_)
        refine lv_iconst (v := 0) hx hb dX8_link_75 (by decide) ?_
        subst hQ
        exact k_ri hx hb hr hlocks hP hD hS dX8_link_76 (rfl) (by rw [show (kc_X8_link nw caller pa al ah gl gh) = 2 from (if_pos c_1).trans ((if_pos c_2).trans ((if_neg c_3).trans (rfl)))])
      · refine lv_iconst (v := 1) hx hb dX8_link_55 (by decide) ?_
        refine lv_goto (tgt := 69) hx hb dX8_link_56 (by decide) ?_
        refine k_ai (wr := [(nw0, .inl (g 0, 748, .inl nw)), (di0, .inl (g 0, 10472, .inl di))]) (w2 := [(m0, .inr (8, [.int 1, .ref sc0, .int (nI ss), .int (nI sp), .int ig, .int lo, .ref rd0, .ref nw0, .ref tr0, .ref di0, .int (nI ac), .ref ke0, .ref ik0, .ref cp0, .ref cn0, .ref be0])), (nw0, .inl (g 0, 748, .inl nw)), (di0, .inl (g 0, 10472, .inl di))]) (va_runV (As := [.int 1]) (rest := []) ⟨hx, hb, hml, hown, hts⟩ (c_X8_refused1 l D g m0 sc0 rd0 nw0 tr0 di0 ke0 ik0 cp0 cn0 be0 H.size rf ss sp ig lo ac) (cwV 1 hts gX8_link_X8_refused rfl rfl rfl (by decide +kernel) (k_lvl (by omega) (by decide))) (kPV hP hD hK hS hA hE [0] rfl (by decide) 0 8 rfl rfl rfl) rfl rfl hl.1 rfl (lv_room (Nat.le_of_ble_eq_true rfl)) dX8_link_69 ⟨Nat.le_of_ble_eq_true rfl, Nat.le_of_ble_eq_true rfl⟩) hP hD hS hA [0] [1, 2] [2, 0, 1] rfl rfl (by decide) (by decide) rfl (by decide) (fun H locs hP hD hS => ?_)
        refine lv_if_eq (tgt := 77) hx hb dX8_link_72 (by decide) (fun c_6 => absurd c_6 (by decide)) (fun _ => ?_)
        refine lv_iconst (v := 0) hx hb dX8_link_75 (by decide) ?_
        subst hQ
        exact k_ri hx hb hr hlocks hP hD hS dX8_link_76 (rfl) (by rw [show (kc_X8_link nw caller pa al ah gl gh) = 1 from (if_pos c_1).trans ((if_pos c_2).trans ((if_pos c_3).trans (rfl)))])
    · refine lv_iload hx hb dX8_link_29 (lv_at hl 5 rfl) ?_
      refine lv_iload hx hb dX8_link_31 (lv_at hl 6 rfl) ?_
      refine k_ai (wr := [(m0, .inr (8, [.int rf, .ref sc0, .int (nI ss), .int (nI sp), .int ig, .int lo, .ref rd0, .ref nw0, .ref tr0, .ref di0, .int (nI ac), .ref ke0, .ref ik0, .ref cp0, .ref cn0, .ref be0])), (nw0, .inl (g 0, 748, .inl nw)), (di0, .inl (g 0, 10472, .inl di))]) (w2 := [(m0, .inr (8, [.int rf, .ref sc0, .int (nI ss), .int (nI sp), .int ig, .int lo, .ref rd0, .ref nw0, .ref tr0, .ref di0, .int (nI ac), .ref ke0, .ref ik0, .ref cp0, .ref cn0, .ref be0])), (nw0, .inl (g 0, 748, .inl nw)), (di0, .inl (g 0, 10472, .inl di))]) (va_runS (As := [.int gl, .int gh]) (rest := []) ⟨hx, hb, hml, hown, hts⟩ (c_X8_isRange l D g H.size gl gh) (va_cwS 2 hts gX8_link_X8_isRange rfl rfl rfl (by decide +kernel) (k_lvl (by omega) (by decide))) (kPS hP hD hK hS hA hE [] rfl (by decide)) rfl rfl hl.1 rfl (lv_room (Nat.le_of_ble_eq_true rfl)) dX8_link_33 ⟨Nat.le_of_ble_eq_true rfl, Nat.le_of_ble_eq_true rfl⟩) hP hD hS hA [] [0, 1, 2] [0, 1, 2] rfl rfl (by decide) (by decide) rfl (by decide) (fun H locs hP hD hS => ?_)
      refine lv_if_eq (tgt := 43) hx hb dX8_link_36 (by decide) (fun c_7 => ?_) (fun c_7 => ?_)
      · refine lv_iconst (v := 0) hx hb dX8_link_43 (by decide) ?_
        refine lv_istore (lv' := [(7, .int 0), (0, .ref m0), (1, .int caller), (2, .int pa), (3, .int al), (4, .int ah), (5, .int gl), (6, .int gh)]) hx hb dX8_link_44 hl (by decide) rfl (fun ls hl => ?_)
        refine lv_aload_n hx hb dX8_link_46 rfl (lv_at hl 1 rfl) ?_
        refine lv_aload_n hx hb dX8_link_47 rfl (lv_at hl 1 rfl) ?_
        refine lv_iload_n hx hb dX8_link_48 rfl (lv_at hl 3 rfl) ?_
        refine k_ai (wr := [(di0, .inl (g 0, 10472, .inl di))]) (w2 := [(m0, .inr (8, [.int rf, .ref sc0, .int (nI ss), .int (nI sp), .int ig, .int lo, .ref rd0, .ref nw0, .ref tr0, .ref di0, .int (nI ac), .ref ke0, .ref ik0, .ref cp0, .ref cn0, .ref be0])), (nw0, .inl (g 0, 748, .inl nw)), (di0, .inl (g 0, 10472, .inl di))]) (va_runV (As := [.int pa]) (rest := [.ref m0]) ⟨hx, hb, hml, hown, hts⟩ (c_X8_isPart l D g m0 sc0 rd0 nw0 tr0 di0 ke0 ik0 cp0 cn0 be0 H.size rf ss sp ig lo ac nw pa) (cwV 1 hts gX8_link_X8_isPart rfl rfl rfl (by decide +kernel) (k_lvl (by omega) (by decide))) (kPV hP hD hK hS hA hE [0, 1] rfl (by decide) 0 8 rfl rfl rfl) rfl rfl hl.1 rfl (lv_room (Nat.le_of_ble_eq_true rfl)) dX8_link_49 ⟨Nat.le_of_ble_eq_true rfl, Nat.le_of_ble_eq_true rfl⟩) hP hD hS hA [0, 1] [2] [1, 2, 0] rfl rfl (by decide) (by decide) rfl (by decide) (fun H locs hP hD hS => ?_)
        refine lv_if_ne (tgt := 59) hx hb dX8_link_52 (by decide) (fun c_8 => ?_) (fun c_8 => ?_)
        · refine lv_iload hx hb dX8_link_59 (lv_at hl 0 rfl) ?_
          refine lv_if_eq (tgt := 68) hx hb dX8_link_61 (by decide) (fun _ => ?_) (fun c_9 => absurd c_9 (by decide))
          refine lv_iconst (v := 2) hx hb dX8_link_68 (by decide) ?_
          refine k_ai (wr := [(nw0, .inl (g 0, 748, .inl nw)), (di0, .inl (g 0, 10472, .inl di))]) (w2 := [(m0, .inr (8, [.int 2, .ref sc0, .int (nI ss), .int (nI sp), .int ig, .int lo, .ref rd0, .ref nw0, .ref tr0, .ref di0, .int (nI ac), .ref ke0, .ref ik0, .ref cp0, .ref cn0, .ref be0])), (nw0, .inl (g 0, 748, .inl nw)), (di0, .inl (g 0, 10472, .inl di))]) (va_runV (As := [.int 2]) (rest := []) ⟨hx, hb, hml, hown, hts⟩ (c_X8_refused2 l D g m0 sc0 rd0 nw0 tr0 di0 ke0 ik0 cp0 cn0 be0 H.size rf ss sp ig lo ac) (cwV 1 hts gX8_link_X8_refused rfl rfl rfl (by decide +kernel) (k_lvl (by omega) (by decide))) (kPV hP hD hK hS hA hE [0] rfl (by decide) 0 8 rfl rfl rfl) rfl rfl hl.1 rfl (lv_room (Nat.le_of_ble_eq_true rfl)) dX8_link_69 ⟨Nat.le_of_ble_eq_true rfl, Nat.le_of_ble_eq_true rfl⟩) hP hD hS hA [0] [1, 2] [2, 0, 1] rfl rfl (by decide) (by decide) rfl (by decide) (fun H locs hP hD hS => ?_)
          refine lv_if_eq (tgt := 77) hx hb dX8_link_72 (by decide) (fun c_10 => absurd c_10 (by decide)) (fun _ => ?_)
          refine lv_iconst (v := 0) hx hb dX8_link_75 (by decide) ?_
          subst hQ
          exact k_ri hx hb hr hlocks hP hD hS dX8_link_76 (rfl) (by rw [show (kc_X8_link nw caller pa al ah gl gh) = 2 from (if_pos c_1).trans ((if_neg c_2).trans ((if_pos c_7).trans ((if_neg c_8).trans (rfl))))])
        · refine lv_iconst (v := 1) hx hb dX8_link_55 (by decide) ?_
          refine lv_goto (tgt := 69) hx hb dX8_link_56 (by decide) ?_
          refine k_ai (wr := [(nw0, .inl (g 0, 748, .inl nw)), (di0, .inl (g 0, 10472, .inl di))]) (w2 := [(m0, .inr (8, [.int 1, .ref sc0, .int (nI ss), .int (nI sp), .int ig, .int lo, .ref rd0, .ref nw0, .ref tr0, .ref di0, .int (nI ac), .ref ke0, .ref ik0, .ref cp0, .ref cn0, .ref be0])), (nw0, .inl (g 0, 748, .inl nw)), (di0, .inl (g 0, 10472, .inl di))]) (va_runV (As := [.int 1]) (rest := []) ⟨hx, hb, hml, hown, hts⟩ (c_X8_refused1 l D g m0 sc0 rd0 nw0 tr0 di0 ke0 ik0 cp0 cn0 be0 H.size rf ss sp ig lo ac) (cwV 1 hts gX8_link_X8_refused rfl rfl rfl (by decide +kernel) (k_lvl (by omega) (by decide))) (kPV hP hD hK hS hA hE [0] rfl (by decide) 0 8 rfl rfl rfl) rfl rfl hl.1 rfl (lv_room (Nat.le_of_ble_eq_true rfl)) dX8_link_69 ⟨Nat.le_of_ble_eq_true rfl, Nat.le_of_ble_eq_true rfl⟩) hP hD hS hA [0] [1, 2] [2, 0, 1] rfl rfl (by decide) (by decide) rfl (by decide) (fun H locs hP hD hS => ?_)
          refine lv_if_eq (tgt := 77) hx hb dX8_link_72 (by decide) (fun c_11 => absurd c_11 (by decide)) (fun _ => ?_)
          refine lv_iconst (v := 0) hx hb dX8_link_75 (by decide) ?_
          subst hQ
          exact k_ri hx hb hr hlocks hP hD hS dX8_link_76 (rfl) (by rw [show (kc_X8_link nw caller pa al ah gl gh) = 1 from (if_pos c_1).trans ((if_neg c_2).trans ((if_pos c_7).trans ((if_pos c_8).trans (rfl))))])
      · refine lv_iconst (v := 1) hx hb dX8_link_39 (by decide) ?_
        refine lv_goto (tgt := 44) hx hb dX8_link_40 (by decide) ?_
        refine lv_istore (lv' := [(7, .int 1), (0, .ref m0), (1, .int caller), (2, .int pa), (3, .int al), (4, .int ah), (5, .int gl), (6, .int gh)]) hx hb dX8_link_44 hl (by decide) rfl (fun ls hl => ?_)
        refine lv_aload_n hx hb dX8_link_46 rfl (lv_at hl 1 rfl) ?_
        refine lv_aload_n hx hb dX8_link_47 rfl (lv_at hl 1 rfl) ?_
        refine lv_iload_n hx hb dX8_link_48 rfl (lv_at hl 3 rfl) ?_
        refine k_ai (wr := [(di0, .inl (g 0, 10472, .inl di))]) (w2 := [(m0, .inr (8, [.int rf, .ref sc0, .int (nI ss), .int (nI sp), .int ig, .int lo, .ref rd0, .ref nw0, .ref tr0, .ref di0, .int (nI ac), .ref ke0, .ref ik0, .ref cp0, .ref cn0, .ref be0])), (nw0, .inl (g 0, 748, .inl nw)), (di0, .inl (g 0, 10472, .inl di))]) (va_runV (As := [.int pa]) (rest := [.ref m0]) ⟨hx, hb, hml, hown, hts⟩ (c_X8_isPart l D g m0 sc0 rd0 nw0 tr0 di0 ke0 ik0 cp0 cn0 be0 H.size rf ss sp ig lo ac nw pa) (cwV 1 hts gX8_link_X8_isPart rfl rfl rfl (by decide +kernel) (k_lvl (by omega) (by decide))) (kPV hP hD hK hS hA hE [0, 1] rfl (by decide) 0 8 rfl rfl rfl) rfl rfl hl.1 rfl (lv_room (Nat.le_of_ble_eq_true rfl)) dX8_link_49 ⟨Nat.le_of_ble_eq_true rfl, Nat.le_of_ble_eq_true rfl⟩) hP hD hS hA [0, 1] [2] [1, 2, 0] rfl rfl (by decide) (by decide) rfl (by decide) (fun H locs hP hD hS => ?_)
        refine lv_if_ne (tgt := 59) hx hb dX8_link_52 (by decide) (fun c_12 => ?_) (fun c_12 => ?_)
        · refine lv_iload hx hb dX8_link_59 (lv_at hl 0 rfl) ?_
          refine lv_if_eq (tgt := 68) hx hb dX8_link_61 (by decide) (fun c_13 => absurd c_13 (by decide)) (fun _ => ?_)
          refine lv_iconst (v := 0) hx hb dX8_link_64 (by decide) ?_
          refine lv_goto (tgt := 69) hx hb dX8_link_65 (by decide) ?_
          have h9 : (kc_X8_link nw caller pa al ah gl gh) = 0 := (if_pos c_1).trans ((if_neg c_2).trans ((if_neg c_7).trans ((if_neg c_12).trans (rfl))))
          exact absurd h9 hk
        · refine lv_iconst (v := 1) hx hb dX8_link_55 (by decide) ?_
          refine lv_goto (tgt := 69) hx hb dX8_link_56 (by decide) ?_
          refine k_ai (wr := [(nw0, .inl (g 0, 748, .inl nw)), (di0, .inl (g 0, 10472, .inl di))]) (w2 := [(m0, .inr (8, [.int 1, .ref sc0, .int (nI ss), .int (nI sp), .int ig, .int lo, .ref rd0, .ref nw0, .ref tr0, .ref di0, .int (nI ac), .ref ke0, .ref ik0, .ref cp0, .ref cn0, .ref be0])), (nw0, .inl (g 0, 748, .inl nw)), (di0, .inl (g 0, 10472, .inl di))]) (va_runV (As := [.int 1]) (rest := []) ⟨hx, hb, hml, hown, hts⟩ (c_X8_refused1 l D g m0 sc0 rd0 nw0 tr0 di0 ke0 ik0 cp0 cn0 be0 H.size rf ss sp ig lo ac) (cwV 1 hts gX8_link_X8_refused rfl rfl rfl (by decide +kernel) (k_lvl (by omega) (by decide))) (kPV hP hD hK hS hA hE [0] rfl (by decide) 0 8 rfl rfl rfl) rfl rfl hl.1 rfl (lv_room (Nat.le_of_ble_eq_true rfl)) dX8_link_69 ⟨Nat.le_of_ble_eq_true rfl, Nat.le_of_ble_eq_true rfl⟩) hP hD hS hA [0] [1, 2] [2, 0, 1] rfl rfl (by decide) (by decide) rfl (by decide) (fun H locs hP hD hS => ?_)
          refine lv_if_eq (tgt := 77) hx hb dX8_link_72 (by decide) (fun c_14 => absurd c_14 (by decide)) (fun _ => ?_)
          refine lv_iconst (v := 0) hx hb dX8_link_75 (by decide) ?_
          subst hQ
          exact k_ri hx hb hr hlocks hP hD hS dX8_link_76 (rfl) (by rw [show (kc_X8_link nw caller pa al ah gl gh) = 1 from (if_pos c_1).trans ((if_neg c_2).trans ((if_neg c_7).trans ((if_pos c_12).trans (rfl))))])
  · refine lv_aload_n hx hb dX8_link_7 rfl (lv_at hl 0 rfl) ?_
    refine lv_iload_n hx hb dX8_link_8 rfl (lv_at hl 1 rfl) ?_
    refine k_ai (wr := [(di0, .inl (g 0, 10472, .inl di))]) (w2 := [(m0, .inr (8, [.int rf, .ref sc0, .int (nI ss), .int (nI sp), .int ig, .int lo, .ref rd0, .ref nw0, .ref tr0, .ref di0, .int (nI ac), .ref ke0, .ref ik0, .ref cp0, .ref cn0, .ref be0])), (nw0, .inl (g 0, 748, .inl nw)), (di0, .inl (g 0, 10472, .inl di))]) (va_runV (As := [.int caller]) (rest := []) ⟨hx, hb, hml, hown, hts⟩ (c_X8_isPart l D g m0 sc0 rd0 nw0 tr0 di0 ke0 ik0 cp0 cn0 be0 H.size rf ss sp ig lo ac nw caller) (cwV 1 hts gX8_link_X8_isPart rfl rfl rfl (by decide +kernel) (k_lvl (by omega) (by decide))) (kPV hP hD hK hS hA hE [0, 1] rfl (by decide) 0 8 rfl rfl rfl) rfl rfl hl.1 rfl (lv_room (Nat.le_of_ble_eq_true rfl)) dX8_link_9 ⟨Nat.le_of_ble_eq_true rfl, Nat.le_of_ble_eq_true rfl⟩) hP hD hS hA [0, 1] [2] [1, 2, 0] rfl rfl (by decide) (by decide) rfl (by decide) (fun H locs hP hD hS => ?_)
    refine lv_if_eq (tgt := 43) hx hb dX8_link_12 (by decide) (fun c_15 => ?_) (fun c_15 => ?_)
    · refine lv_iconst (v := 0) hx hb dX8_link_43 (by decide) ?_
      refine lv_istore (lv' := [(7, .int 0), (0, .ref m0), (1, .int caller), (2, .int pa), (3, .int al), (4, .int ah), (5, .int gl), (6, .int gh)]) hx hb dX8_link_44 hl (by decide) rfl (fun ls hl => ?_)
      refine lv_aload_n hx hb dX8_link_46 rfl (lv_at hl 1 rfl) ?_
      refine lv_aload_n hx hb dX8_link_47 rfl (lv_at hl 1 rfl) ?_
      refine lv_iload_n hx hb dX8_link_48 rfl (lv_at hl 3 rfl) ?_
      refine k_ai (wr := [(di0, .inl (g 0, 10472, .inl di))]) (w2 := [(m0, .inr (8, [.int rf, .ref sc0, .int (nI ss), .int (nI sp), .int ig, .int lo, .ref rd0, .ref nw0, .ref tr0, .ref di0, .int (nI ac), .ref ke0, .ref ik0, .ref cp0, .ref cn0, .ref be0])), (nw0, .inl (g 0, 748, .inl nw)), (di0, .inl (g 0, 10472, .inl di))]) (va_runV (As := [.int pa]) (rest := [.ref m0]) ⟨hx, hb, hml, hown, hts⟩ (c_X8_isPart l D g m0 sc0 rd0 nw0 tr0 di0 ke0 ik0 cp0 cn0 be0 H.size rf ss sp ig lo ac nw pa) (cwV 1 hts gX8_link_X8_isPart rfl rfl rfl (by decide +kernel) (k_lvl (by omega) (by decide))) (kPV hP hD hK hS hA hE [0, 1] rfl (by decide) 0 8 rfl rfl rfl) rfl rfl hl.1 rfl (lv_room (Nat.le_of_ble_eq_true rfl)) dX8_link_49 ⟨Nat.le_of_ble_eq_true rfl, Nat.le_of_ble_eq_true rfl⟩) hP hD hS hA [0, 1] [2] [1, 2, 0] rfl rfl (by decide) (by decide) rfl (by decide) (fun H locs hP hD hS => ?_)
      refine lv_if_ne (tgt := 59) hx hb dX8_link_52 (by decide) (fun c_16 => ?_) (fun c_16 => ?_)
      · refine lv_iload hx hb dX8_link_59 (lv_at hl 0 rfl) ?_
        refine lv_if_eq (tgt := 68) hx hb dX8_link_61 (by decide) (fun _ => ?_) (fun c_17 => absurd c_17 (by decide))
        refine lv_iconst (v := 2) hx hb dX8_link_68 (by decide) ?_
        refine k_ai (wr := [(nw0, .inl (g 0, 748, .inl nw)), (di0, .inl (g 0, 10472, .inl di))]) (w2 := [(m0, .inr (8, [.int 2, .ref sc0, .int (nI ss), .int (nI sp), .int ig, .int lo, .ref rd0, .ref nw0, .ref tr0, .ref di0, .int (nI ac), .ref ke0, .ref ik0, .ref cp0, .ref cn0, .ref be0])), (nw0, .inl (g 0, 748, .inl nw)), (di0, .inl (g 0, 10472, .inl di))]) (va_runV (As := [.int 2]) (rest := []) ⟨hx, hb, hml, hown, hts⟩ (c_X8_refused2 l D g m0 sc0 rd0 nw0 tr0 di0 ke0 ik0 cp0 cn0 be0 H.size rf ss sp ig lo ac) (cwV 1 hts gX8_link_X8_refused rfl rfl rfl (by decide +kernel) (k_lvl (by omega) (by decide))) (kPV hP hD hK hS hA hE [0] rfl (by decide) 0 8 rfl rfl rfl) rfl rfl hl.1 rfl (lv_room (Nat.le_of_ble_eq_true rfl)) dX8_link_69 ⟨Nat.le_of_ble_eq_true rfl, Nat.le_of_ble_eq_true rfl⟩) hP hD hS hA [0] [1, 2] [2, 0, 1] rfl rfl (by decide) (by decide) rfl (by decide) (fun H locs hP hD hS => ?_)
        refine lv_if_eq (tgt := 77) hx hb dX8_link_72 (by decide) (fun c_18 => absurd c_18 (by decide)) (fun _ => ?_)
        refine lv_iconst (v := 0) hx hb dX8_link_75 (by decide) ?_
        subst hQ
        exact k_ri hx hb hr hlocks hP hD hS dX8_link_76 (rfl) (by rw [show (kc_X8_link nw caller pa al ah gl gh) = 2 from (if_neg c_1).trans ((if_pos c_15).trans ((if_neg c_16).trans (rfl)))])
      · refine lv_iconst (v := 1) hx hb dX8_link_55 (by decide) ?_
        refine lv_goto (tgt := 69) hx hb dX8_link_56 (by decide) ?_
        refine k_ai (wr := [(nw0, .inl (g 0, 748, .inl nw)), (di0, .inl (g 0, 10472, .inl di))]) (w2 := [(m0, .inr (8, [.int 1, .ref sc0, .int (nI ss), .int (nI sp), .int ig, .int lo, .ref rd0, .ref nw0, .ref tr0, .ref di0, .int (nI ac), .ref ke0, .ref ik0, .ref cp0, .ref cn0, .ref be0])), (nw0, .inl (g 0, 748, .inl nw)), (di0, .inl (g 0, 10472, .inl di))]) (va_runV (As := [.int 1]) (rest := []) ⟨hx, hb, hml, hown, hts⟩ (c_X8_refused1 l D g m0 sc0 rd0 nw0 tr0 di0 ke0 ik0 cp0 cn0 be0 H.size rf ss sp ig lo ac) (cwV 1 hts gX8_link_X8_refused rfl rfl rfl (by decide +kernel) (k_lvl (by omega) (by decide))) (kPV hP hD hK hS hA hE [0] rfl (by decide) 0 8 rfl rfl rfl) rfl rfl hl.1 rfl (lv_room (Nat.le_of_ble_eq_true rfl)) dX8_link_69 ⟨Nat.le_of_ble_eq_true rfl, Nat.le_of_ble_eq_true rfl⟩) hP hD hS hA [0] [1, 2] [2, 0, 1] rfl rfl (by decide) (by decide) rfl (by decide) (fun H locs hP hD hS => ?_)
        refine lv_if_eq (tgt := 77) hx hb dX8_link_72 (by decide) (fun c_19 => absurd c_19 (by decide)) (fun _ => ?_)
        refine lv_iconst (v := 0) hx hb dX8_link_75 (by decide) ?_
        subst hQ
        exact k_ri hx hb hr hlocks hP hD hS dX8_link_76 (rfl) (by rw [show (kc_X8_link nw caller pa al ah gl gh) = 1 from (if_neg c_1).trans ((if_pos c_15).trans ((if_pos c_16).trans (rfl)))])
    · refine lv_iload_n hx hb dX8_link_15 rfl (lv_at hl 1 rfl) ?_
      refine lv_iload_n hx hb dX8_link_16 rfl (lv_at hl 2 rfl) ?_
      refine lv_icmp_le (tgt := 43) hx hb dX8_link_17 (by decide) (fun c_20 => ?_) (fun c_20 => ?_)
      · refine lv_iconst (v := 0) hx hb dX8_link_43 (by decide) ?_
        refine lv_istore (lv' := [(7, .int 0), (0, .ref m0), (1, .int caller), (2, .int pa), (3, .int al), (4, .int ah), (5, .int gl), (6, .int gh)]) hx hb dX8_link_44 hl (by decide) rfl (fun ls hl => ?_)
        refine lv_aload_n hx hb dX8_link_46 rfl (lv_at hl 1 rfl) ?_
        refine lv_aload_n hx hb dX8_link_47 rfl (lv_at hl 1 rfl) ?_
        refine lv_iload_n hx hb dX8_link_48 rfl (lv_at hl 3 rfl) ?_
        refine k_ai (wr := [(di0, .inl (g 0, 10472, .inl di))]) (w2 := [(m0, .inr (8, [.int rf, .ref sc0, .int (nI ss), .int (nI sp), .int ig, .int lo, .ref rd0, .ref nw0, .ref tr0, .ref di0, .int (nI ac), .ref ke0, .ref ik0, .ref cp0, .ref cn0, .ref be0])), (nw0, .inl (g 0, 748, .inl nw)), (di0, .inl (g 0, 10472, .inl di))]) (va_runV (As := [.int pa]) (rest := [.ref m0]) ⟨hx, hb, hml, hown, hts⟩ (c_X8_isPart l D g m0 sc0 rd0 nw0 tr0 di0 ke0 ik0 cp0 cn0 be0 H.size rf ss sp ig lo ac nw pa) (cwV 1 hts gX8_link_X8_isPart rfl rfl rfl (by decide +kernel) (k_lvl (by omega) (by decide))) (kPV hP hD hK hS hA hE [0, 1] rfl (by decide) 0 8 rfl rfl rfl) rfl rfl hl.1 rfl (lv_room (Nat.le_of_ble_eq_true rfl)) dX8_link_49 ⟨Nat.le_of_ble_eq_true rfl, Nat.le_of_ble_eq_true rfl⟩) hP hD hS hA [0, 1] [2] [1, 2, 0] rfl rfl (by decide) (by decide) rfl (by decide) (fun H locs hP hD hS => ?_)
        refine lv_if_ne (tgt := 59) hx hb dX8_link_52 (by decide) (fun c_21 => ?_) (fun c_21 => ?_)
        · refine lv_iload hx hb dX8_link_59 (lv_at hl 0 rfl) ?_
          refine lv_if_eq (tgt := 68) hx hb dX8_link_61 (by decide) (fun _ => ?_) (fun c_22 => absurd c_22 (by decide))
          refine lv_iconst (v := 2) hx hb dX8_link_68 (by decide) ?_
          refine k_ai (wr := [(nw0, .inl (g 0, 748, .inl nw)), (di0, .inl (g 0, 10472, .inl di))]) (w2 := [(m0, .inr (8, [.int 2, .ref sc0, .int (nI ss), .int (nI sp), .int ig, .int lo, .ref rd0, .ref nw0, .ref tr0, .ref di0, .int (nI ac), .ref ke0, .ref ik0, .ref cp0, .ref cn0, .ref be0])), (nw0, .inl (g 0, 748, .inl nw)), (di0, .inl (g 0, 10472, .inl di))]) (va_runV (As := [.int 2]) (rest := []) ⟨hx, hb, hml, hown, hts⟩ (c_X8_refused2 l D g m0 sc0 rd0 nw0 tr0 di0 ke0 ik0 cp0 cn0 be0 H.size rf ss sp ig lo ac) (cwV 1 hts gX8_link_X8_refused rfl rfl rfl (by decide +kernel) (k_lvl (by omega) (by decide))) (kPV hP hD hK hS hA hE [0] rfl (by decide) 0 8 rfl rfl rfl) rfl rfl hl.1 rfl (lv_room (Nat.le_of_ble_eq_true rfl)) dX8_link_69 ⟨Nat.le_of_ble_eq_true rfl, Nat.le_of_ble_eq_true rfl⟩) hP hD hS hA [0] [1, 2] [2, 0, 1] rfl rfl (by decide) (by decide) rfl (by decide) (fun H locs hP hD hS => ?_)
          refine lv_if_eq (tgt := 77) hx hb dX8_link_72 (by decide) (fun c_23 => absurd c_23 (by decide)) (fun _ => ?_)
          refine lv_iconst (v := 0) hx hb dX8_link_75 (by decide) ?_
          subst hQ
          exact k_ri hx hb hr hlocks hP hD hS dX8_link_76 (rfl) (by rw [show (kc_X8_link nw caller pa al ah gl gh) = 2 from (if_neg c_1).trans ((if_neg c_15).trans ((if_pos c_20).trans ((if_neg c_21).trans (rfl))))])
        · refine lv_iconst (v := 1) hx hb dX8_link_55 (by decide) ?_
          refine lv_goto (tgt := 69) hx hb dX8_link_56 (by decide) ?_
          refine k_ai (wr := [(nw0, .inl (g 0, 748, .inl nw)), (di0, .inl (g 0, 10472, .inl di))]) (w2 := [(m0, .inr (8, [.int 1, .ref sc0, .int (nI ss), .int (nI sp), .int ig, .int lo, .ref rd0, .ref nw0, .ref tr0, .ref di0, .int (nI ac), .ref ke0, .ref ik0, .ref cp0, .ref cn0, .ref be0])), (nw0, .inl (g 0, 748, .inl nw)), (di0, .inl (g 0, 10472, .inl di))]) (va_runV (As := [.int 1]) (rest := []) ⟨hx, hb, hml, hown, hts⟩ (c_X8_refused1 l D g m0 sc0 rd0 nw0 tr0 di0 ke0 ik0 cp0 cn0 be0 H.size rf ss sp ig lo ac) (cwV 1 hts gX8_link_X8_refused rfl rfl rfl (by decide +kernel) (k_lvl (by omega) (by decide))) (kPV hP hD hK hS hA hE [0] rfl (by decide) 0 8 rfl rfl rfl) rfl rfl hl.1 rfl (lv_room (Nat.le_of_ble_eq_true rfl)) dX8_link_69 ⟨Nat.le_of_ble_eq_true rfl, Nat.le_of_ble_eq_true rfl⟩) hP hD hS hA [0] [1, 2] [2, 0, 1] rfl rfl (by decide) (by decide) rfl (by decide) (fun H locs hP hD hS => ?_)
          refine lv_if_eq (tgt := 77) hx hb dX8_link_72 (by decide) (fun c_24 => absurd c_24 (by decide)) (fun _ => ?_)
          refine lv_iconst (v := 0) hx hb dX8_link_75 (by decide) ?_
          subst hQ
          exact k_ri hx hb hr hlocks hP hD hS dX8_link_76 (rfl) (by rw [show (kc_X8_link nw caller pa al ah gl gh) = 1 from (if_neg c_1).trans ((if_neg c_15).trans ((if_pos c_20).trans ((if_pos c_21).trans (rfl))))])
      · refine lv_iload_n hx hb dX8_link_20 rfl (lv_at hl 3 rfl) ?_
        refine lv_iload hx hb dX8_link_21 (lv_at hl 4 rfl) ?_
        refine k_ai (wr := [(m0, .inr (8, [.int rf, .ref sc0, .int (nI ss), .int (nI sp), .int ig, .int lo, .ref rd0, .ref nw0, .ref tr0, .ref di0, .int (nI ac), .ref ke0, .ref ik0, .ref cp0, .ref cn0, .ref be0])), (nw0, .inl (g 0, 748, .inl nw)), (di0, .inl (g 0, 10472, .inl di))]) (w2 := [(m0, .inr (8, [.int rf, .ref sc0, .int (nI ss), .int (nI sp), .int ig, .int lo, .ref rd0, .ref nw0, .ref tr0, .ref di0, .int (nI ac), .ref ke0, .ref ik0, .ref cp0, .ref cn0, .ref be0])), (nw0, .inl (g 0, 748, .inl nw)), (di0, .inl (g 0, 10472, .inl di))]) (va_runS (As := [.int al, .int ah]) (rest := []) ⟨hx, hb, hml, hown, hts⟩ (c_X8_isRange l D g H.size al ah) (va_cwS 2 hts gX8_link_X8_isRange rfl rfl rfl (by decide +kernel) (k_lvl (by omega) (by decide))) (kPS hP hD hK hS hA hE [] rfl (by decide)) rfl rfl hl.1 rfl (lv_room (Nat.le_of_ble_eq_true rfl)) dX8_link_23 ⟨Nat.le_of_ble_eq_true rfl, Nat.le_of_ble_eq_true rfl⟩) hP hD hS hA [] [0, 1, 2] [0, 1, 2] rfl rfl (by decide) (by decide) rfl (by decide) (fun H locs hP hD hS => ?_)
        refine lv_if_eq (tgt := 43) hx hb dX8_link_26 (by decide) (fun c_25 => ?_) (fun c_25 => ?_)
        · refine lv_iconst (v := 0) hx hb dX8_link_43 (by decide) ?_
          refine lv_istore (lv' := [(7, .int 0), (0, .ref m0), (1, .int caller), (2, .int pa), (3, .int al), (4, .int ah), (5, .int gl), (6, .int gh)]) hx hb dX8_link_44 hl (by decide) rfl (fun ls hl => ?_)
          refine lv_aload_n hx hb dX8_link_46 rfl (lv_at hl 1 rfl) ?_
          refine lv_aload_n hx hb dX8_link_47 rfl (lv_at hl 1 rfl) ?_
          refine lv_iload_n hx hb dX8_link_48 rfl (lv_at hl 3 rfl) ?_
          refine k_ai (wr := [(di0, .inl (g 0, 10472, .inl di))]) (w2 := [(m0, .inr (8, [.int rf, .ref sc0, .int (nI ss), .int (nI sp), .int ig, .int lo, .ref rd0, .ref nw0, .ref tr0, .ref di0, .int (nI ac), .ref ke0, .ref ik0, .ref cp0, .ref cn0, .ref be0])), (nw0, .inl (g 0, 748, .inl nw)), (di0, .inl (g 0, 10472, .inl di))]) (va_runV (As := [.int pa]) (rest := [.ref m0]) ⟨hx, hb, hml, hown, hts⟩ (c_X8_isPart l D g m0 sc0 rd0 nw0 tr0 di0 ke0 ik0 cp0 cn0 be0 H.size rf ss sp ig lo ac nw pa) (cwV 1 hts gX8_link_X8_isPart rfl rfl rfl (by decide +kernel) (k_lvl (by omega) (by decide))) (kPV hP hD hK hS hA hE [0, 1] rfl (by decide) 0 8 rfl rfl rfl) rfl rfl hl.1 rfl (lv_room (Nat.le_of_ble_eq_true rfl)) dX8_link_49 ⟨Nat.le_of_ble_eq_true rfl, Nat.le_of_ble_eq_true rfl⟩) hP hD hS hA [0, 1] [2] [1, 2, 0] rfl rfl (by decide) (by decide) rfl (by decide) (fun H locs hP hD hS => ?_)
          refine lv_if_ne (tgt := 59) hx hb dX8_link_52 (by decide) (fun c_26 => ?_) (fun c_26 => ?_)
          · refine lv_iload hx hb dX8_link_59 (lv_at hl 0 rfl) ?_
            refine lv_if_eq (tgt := 68) hx hb dX8_link_61 (by decide) (fun _ => ?_) (fun c_27 => absurd c_27 (by decide))
            refine lv_iconst (v := 2) hx hb dX8_link_68 (by decide) ?_
            refine k_ai (wr := [(nw0, .inl (g 0, 748, .inl nw)), (di0, .inl (g 0, 10472, .inl di))]) (w2 := [(m0, .inr (8, [.int 2, .ref sc0, .int (nI ss), .int (nI sp), .int ig, .int lo, .ref rd0, .ref nw0, .ref tr0, .ref di0, .int (nI ac), .ref ke0, .ref ik0, .ref cp0, .ref cn0, .ref be0])), (nw0, .inl (g 0, 748, .inl nw)), (di0, .inl (g 0, 10472, .inl di))]) (va_runV (As := [.int 2]) (rest := []) ⟨hx, hb, hml, hown, hts⟩ (c_X8_refused2 l D g m0 sc0 rd0 nw0 tr0 di0 ke0 ik0 cp0 cn0 be0 H.size rf ss sp ig lo ac) (cwV 1 hts gX8_link_X8_refused rfl rfl rfl (by decide +kernel) (k_lvl (by omega) (by decide))) (kPV hP hD hK hS hA hE [0] rfl (by decide) 0 8 rfl rfl rfl) rfl rfl hl.1 rfl (lv_room (Nat.le_of_ble_eq_true rfl)) dX8_link_69 ⟨Nat.le_of_ble_eq_true rfl, Nat.le_of_ble_eq_true rfl⟩) hP hD hS hA [0] [1, 2] [2, 0, 1] rfl rfl (by decide) (by decide) rfl (by decide) (fun H locs hP hD hS => ?_)
            refine lv_if_eq (tgt := 77) hx hb dX8_link_72 (by decide) (fun c_28 => absurd c_28 (by decide)) (fun _ => ?_)
            refine lv_iconst (v := 0) hx hb dX8_link_75 (by decide) ?_
            subst hQ
            exact k_ri hx hb hr hlocks hP hD hS dX8_link_76 (rfl) (by rw [show (kc_X8_link nw caller pa al ah gl gh) = 2 from (if_neg c_1).trans ((if_neg c_15).trans ((if_neg c_20).trans ((if_pos c_25).trans ((if_neg c_26).trans (rfl)))))])
          · refine lv_iconst (v := 1) hx hb dX8_link_55 (by decide) ?_
            refine lv_goto (tgt := 69) hx hb dX8_link_56 (by decide) ?_
            refine k_ai (wr := [(nw0, .inl (g 0, 748, .inl nw)), (di0, .inl (g 0, 10472, .inl di))]) (w2 := [(m0, .inr (8, [.int 1, .ref sc0, .int (nI ss), .int (nI sp), .int ig, .int lo, .ref rd0, .ref nw0, .ref tr0, .ref di0, .int (nI ac), .ref ke0, .ref ik0, .ref cp0, .ref cn0, .ref be0])), (nw0, .inl (g 0, 748, .inl nw)), (di0, .inl (g 0, 10472, .inl di))]) (va_runV (As := [.int 1]) (rest := []) ⟨hx, hb, hml, hown, hts⟩ (c_X8_refused1 l D g m0 sc0 rd0 nw0 tr0 di0 ke0 ik0 cp0 cn0 be0 H.size rf ss sp ig lo ac) (cwV 1 hts gX8_link_X8_refused rfl rfl rfl (by decide +kernel) (k_lvl (by omega) (by decide))) (kPV hP hD hK hS hA hE [0] rfl (by decide) 0 8 rfl rfl rfl) rfl rfl hl.1 rfl (lv_room (Nat.le_of_ble_eq_true rfl)) dX8_link_69 ⟨Nat.le_of_ble_eq_true rfl, Nat.le_of_ble_eq_true rfl⟩) hP hD hS hA [0] [1, 2] [2, 0, 1] rfl rfl (by decide) (by decide) rfl (by decide) (fun H locs hP hD hS => ?_)
            refine lv_if_eq (tgt := 77) hx hb dX8_link_72 (by decide) (fun c_29 => absurd c_29 (by decide)) (fun _ => ?_)
            refine lv_iconst (v := 0) hx hb dX8_link_75 (by decide) ?_
            subst hQ
            exact k_ri hx hb hr hlocks hP hD hS dX8_link_76 (rfl) (by rw [show (kc_X8_link nw caller pa al ah gl gh) = 1 from (if_neg c_1).trans ((if_neg c_15).trans ((if_neg c_20).trans ((if_pos c_25).trans ((if_pos c_26).trans (rfl)))))])
        · refine lv_iload hx hb dX8_link_29 (lv_at hl 5 rfl) ?_
          refine lv_iload hx hb dX8_link_31 (lv_at hl 6 rfl) ?_
          refine k_ai (wr := [(m0, .inr (8, [.int rf, .ref sc0, .int (nI ss), .int (nI sp), .int ig, .int lo, .ref rd0, .ref nw0, .ref tr0, .ref di0, .int (nI ac), .ref ke0, .ref ik0, .ref cp0, .ref cn0, .ref be0])), (nw0, .inl (g 0, 748, .inl nw)), (di0, .inl (g 0, 10472, .inl di))]) (w2 := [(m0, .inr (8, [.int rf, .ref sc0, .int (nI ss), .int (nI sp), .int ig, .int lo, .ref rd0, .ref nw0, .ref tr0, .ref di0, .int (nI ac), .ref ke0, .ref ik0, .ref cp0, .ref cn0, .ref be0])), (nw0, .inl (g 0, 748, .inl nw)), (di0, .inl (g 0, 10472, .inl di))]) (va_runS (As := [.int gl, .int gh]) (rest := []) ⟨hx, hb, hml, hown, hts⟩ (c_X8_isRange l D g H.size gl gh) (va_cwS 2 hts gX8_link_X8_isRange rfl rfl rfl (by decide +kernel) (k_lvl (by omega) (by decide))) (kPS hP hD hK hS hA hE [] rfl (by decide)) rfl rfl hl.1 rfl (lv_room (Nat.le_of_ble_eq_true rfl)) dX8_link_33 ⟨Nat.le_of_ble_eq_true rfl, Nat.le_of_ble_eq_true rfl⟩) hP hD hS hA [] [0, 1, 2] [0, 1, 2] rfl rfl (by decide) (by decide) rfl (by decide) (fun H locs hP hD hS => ?_)
          refine lv_if_eq (tgt := 43) hx hb dX8_link_36 (by decide) (fun c_30 => ?_) (fun c_30 => ?_)
          · refine lv_iconst (v := 0) hx hb dX8_link_43 (by decide) ?_
            refine lv_istore (lv' := [(7, .int 0), (0, .ref m0), (1, .int caller), (2, .int pa), (3, .int al), (4, .int ah), (5, .int gl), (6, .int gh)]) hx hb dX8_link_44 hl (by decide) rfl (fun ls hl => ?_)
            refine lv_aload_n hx hb dX8_link_46 rfl (lv_at hl 1 rfl) ?_
            refine lv_aload_n hx hb dX8_link_47 rfl (lv_at hl 1 rfl) ?_
            refine lv_iload_n hx hb dX8_link_48 rfl (lv_at hl 3 rfl) ?_
            refine k_ai (wr := [(di0, .inl (g 0, 10472, .inl di))]) (w2 := [(m0, .inr (8, [.int rf, .ref sc0, .int (nI ss), .int (nI sp), .int ig, .int lo, .ref rd0, .ref nw0, .ref tr0, .ref di0, .int (nI ac), .ref ke0, .ref ik0, .ref cp0, .ref cn0, .ref be0])), (nw0, .inl (g 0, 748, .inl nw)), (di0, .inl (g 0, 10472, .inl di))]) (va_runV (As := [.int pa]) (rest := [.ref m0]) ⟨hx, hb, hml, hown, hts⟩ (c_X8_isPart l D g m0 sc0 rd0 nw0 tr0 di0 ke0 ik0 cp0 cn0 be0 H.size rf ss sp ig lo ac nw pa) (cwV 1 hts gX8_link_X8_isPart rfl rfl rfl (by decide +kernel) (k_lvl (by omega) (by decide))) (kPV hP hD hK hS hA hE [0, 1] rfl (by decide) 0 8 rfl rfl rfl) rfl rfl hl.1 rfl (lv_room (Nat.le_of_ble_eq_true rfl)) dX8_link_49 ⟨Nat.le_of_ble_eq_true rfl, Nat.le_of_ble_eq_true rfl⟩) hP hD hS hA [0, 1] [2] [1, 2, 0] rfl rfl (by decide) (by decide) rfl (by decide) (fun H locs hP hD hS => ?_)
            refine lv_if_ne (tgt := 59) hx hb dX8_link_52 (by decide) (fun c_31 => ?_) (fun c_31 => ?_)
            · refine lv_iload hx hb dX8_link_59 (lv_at hl 0 rfl) ?_
              refine lv_if_eq (tgt := 68) hx hb dX8_link_61 (by decide) (fun _ => ?_) (fun c_32 => absurd c_32 (by decide))
              refine lv_iconst (v := 2) hx hb dX8_link_68 (by decide) ?_
              refine k_ai (wr := [(nw0, .inl (g 0, 748, .inl nw)), (di0, .inl (g 0, 10472, .inl di))]) (w2 := [(m0, .inr (8, [.int 2, .ref sc0, .int (nI ss), .int (nI sp), .int ig, .int lo, .ref rd0, .ref nw0, .ref tr0, .ref di0, .int (nI ac), .ref ke0, .ref ik0, .ref cp0, .ref cn0, .ref be0])), (nw0, .inl (g 0, 748, .inl nw)), (di0, .inl (g 0, 10472, .inl di))]) (va_runV (As := [.int 2]) (rest := []) ⟨hx, hb, hml, hown, hts⟩ (c_X8_refused2 l D g m0 sc0 rd0 nw0 tr0 di0 ke0 ik0 cp0 cn0 be0 H.size rf ss sp ig lo ac) (cwV 1 hts gX8_link_X8_refused rfl rfl rfl (by decide +kernel) (k_lvl (by omega) (by decide))) (kPV hP hD hK hS hA hE [0] rfl (by decide) 0 8 rfl rfl rfl) rfl rfl hl.1 rfl (lv_room (Nat.le_of_ble_eq_true rfl)) dX8_link_69 ⟨Nat.le_of_ble_eq_true rfl, Nat.le_of_ble_eq_true rfl⟩) hP hD hS hA [0] [1, 2] [2, 0, 1] rfl rfl (by decide) (by decide) rfl (by decide) (fun H locs hP hD hS => ?_)
              refine lv_if_eq (tgt := 77) hx hb dX8_link_72 (by decide) (fun c_33 => absurd c_33 (by decide)) (fun _ => ?_)
              refine lv_iconst (v := 0) hx hb dX8_link_75 (by decide) ?_
              subst hQ
              exact k_ri hx hb hr hlocks hP hD hS dX8_link_76 (rfl) (by rw [show (kc_X8_link nw caller pa al ah gl gh) = 2 from (if_neg c_1).trans ((if_neg c_15).trans ((if_neg c_20).trans ((if_neg c_25).trans ((if_pos c_30).trans ((if_neg c_31).trans (rfl))))))])
            · refine lv_iconst (v := 1) hx hb dX8_link_55 (by decide) ?_
              refine lv_goto (tgt := 69) hx hb dX8_link_56 (by decide) ?_
              refine k_ai (wr := [(nw0, .inl (g 0, 748, .inl nw)), (di0, .inl (g 0, 10472, .inl di))]) (w2 := [(m0, .inr (8, [.int 1, .ref sc0, .int (nI ss), .int (nI sp), .int ig, .int lo, .ref rd0, .ref nw0, .ref tr0, .ref di0, .int (nI ac), .ref ke0, .ref ik0, .ref cp0, .ref cn0, .ref be0])), (nw0, .inl (g 0, 748, .inl nw)), (di0, .inl (g 0, 10472, .inl di))]) (va_runV (As := [.int 1]) (rest := []) ⟨hx, hb, hml, hown, hts⟩ (c_X8_refused1 l D g m0 sc0 rd0 nw0 tr0 di0 ke0 ik0 cp0 cn0 be0 H.size rf ss sp ig lo ac) (cwV 1 hts gX8_link_X8_refused rfl rfl rfl (by decide +kernel) (k_lvl (by omega) (by decide))) (kPV hP hD hK hS hA hE [0] rfl (by decide) 0 8 rfl rfl rfl) rfl rfl hl.1 rfl (lv_room (Nat.le_of_ble_eq_true rfl)) dX8_link_69 ⟨Nat.le_of_ble_eq_true rfl, Nat.le_of_ble_eq_true rfl⟩) hP hD hS hA [0] [1, 2] [2, 0, 1] rfl rfl (by decide) (by decide) rfl (by decide) (fun H locs hP hD hS => ?_)
              refine lv_if_eq (tgt := 77) hx hb dX8_link_72 (by decide) (fun c_34 => absurd c_34 (by decide)) (fun _ => ?_)
              refine lv_iconst (v := 0) hx hb dX8_link_75 (by decide) ?_
              subst hQ
              exact k_ri hx hb hr hlocks hP hD hS dX8_link_76 (rfl) (by rw [show (kc_X8_link nw caller pa al ah gl gh) = 1 from (if_neg c_1).trans ((if_neg c_15).trans ((if_neg c_20).trans ((if_neg c_25).trans ((if_pos c_30).trans ((if_pos c_31).trans (rfl))))))])
          · refine lv_iconst (v := 1) hx hb dX8_link_39 (by decide) ?_
            refine lv_goto (tgt := 44) hx hb dX8_link_40 (by decide) ?_
            refine lv_istore (lv' := [(7, .int 1), (0, .ref m0), (1, .int caller), (2, .int pa), (3, .int al), (4, .int ah), (5, .int gl), (6, .int gh)]) hx hb dX8_link_44 hl (by decide) rfl (fun ls hl => ?_)
            refine lv_aload_n hx hb dX8_link_46 rfl (lv_at hl 1 rfl) ?_
            refine lv_aload_n hx hb dX8_link_47 rfl (lv_at hl 1 rfl) ?_
            refine lv_iload_n hx hb dX8_link_48 rfl (lv_at hl 3 rfl) ?_
            refine k_ai (wr := [(di0, .inl (g 0, 10472, .inl di))]) (w2 := [(m0, .inr (8, [.int rf, .ref sc0, .int (nI ss), .int (nI sp), .int ig, .int lo, .ref rd0, .ref nw0, .ref tr0, .ref di0, .int (nI ac), .ref ke0, .ref ik0, .ref cp0, .ref cn0, .ref be0])), (nw0, .inl (g 0, 748, .inl nw)), (di0, .inl (g 0, 10472, .inl di))]) (va_runV (As := [.int pa]) (rest := [.ref m0]) ⟨hx, hb, hml, hown, hts⟩ (c_X8_isPart l D g m0 sc0 rd0 nw0 tr0 di0 ke0 ik0 cp0 cn0 be0 H.size rf ss sp ig lo ac nw pa) (cwV 1 hts gX8_link_X8_isPart rfl rfl rfl (by decide +kernel) (k_lvl (by omega) (by decide))) (kPV hP hD hK hS hA hE [0, 1] rfl (by decide) 0 8 rfl rfl rfl) rfl rfl hl.1 rfl (lv_room (Nat.le_of_ble_eq_true rfl)) dX8_link_49 ⟨Nat.le_of_ble_eq_true rfl, Nat.le_of_ble_eq_true rfl⟩) hP hD hS hA [0, 1] [2] [1, 2, 0] rfl rfl (by decide) (by decide) rfl (by decide) (fun H locs hP hD hS => ?_)
            refine lv_if_ne (tgt := 59) hx hb dX8_link_52 (by decide) (fun c_35 => ?_) (fun c_35 => ?_)
            · refine lv_iload hx hb dX8_link_59 (lv_at hl 0 rfl) ?_
              refine lv_if_eq (tgt := 68) hx hb dX8_link_61 (by decide) (fun c_36 => absurd c_36 (by decide)) (fun _ => ?_)
              refine lv_iconst (v := 0) hx hb dX8_link_64 (by decide) ?_
              refine lv_goto (tgt := 69) hx hb dX8_link_65 (by decide) ?_
              have h9 : (kc_X8_link nw caller pa al ah gl gh) = 0 := (if_neg c_1).trans ((if_neg c_15).trans ((if_neg c_20).trans ((if_neg c_25).trans ((if_neg c_30).trans ((if_neg c_35).trans (rfl))))))
              exact absurd h9 hk
            · refine lv_iconst (v := 1) hx hb dX8_link_55 (by decide) ?_
              refine lv_goto (tgt := 69) hx hb dX8_link_56 (by decide) ?_
              refine k_ai (wr := [(nw0, .inl (g 0, 748, .inl nw)), (di0, .inl (g 0, 10472, .inl di))]) (w2 := [(m0, .inr (8, [.int 1, .ref sc0, .int (nI ss), .int (nI sp), .int ig, .int lo, .ref rd0, .ref nw0, .ref tr0, .ref di0, .int (nI ac), .ref ke0, .ref ik0, .ref cp0, .ref cn0, .ref be0])), (nw0, .inl (g 0, 748, .inl nw)), (di0, .inl (g 0, 10472, .inl di))]) (va_runV (As := [.int 1]) (rest := []) ⟨hx, hb, hml, hown, hts⟩ (c_X8_refused1 l D g m0 sc0 rd0 nw0 tr0 di0 ke0 ik0 cp0 cn0 be0 H.size rf ss sp ig lo ac) (cwV 1 hts gX8_link_X8_refused rfl rfl rfl (by decide +kernel) (k_lvl (by omega) (by decide))) (kPV hP hD hK hS hA hE [0] rfl (by decide) 0 8 rfl rfl rfl) rfl rfl hl.1 rfl (lv_room (Nat.le_of_ble_eq_true rfl)) dX8_link_69 ⟨Nat.le_of_ble_eq_true rfl, Nat.le_of_ble_eq_true rfl⟩) hP hD hS hA [0] [1, 2] [2, 0, 1] rfl rfl (by decide) (by decide) rfl (by decide) (fun H locs hP hD hS => ?_)
              refine lv_if_eq (tgt := 77) hx hb dX8_link_72 (by decide) (fun c_37 => absurd c_37 (by decide)) (fun _ => ?_)
              refine lv_iconst (v := 0) hx hb dX8_link_75 (by decide) ?_
              subst hQ
              exact k_ri hx hb hr hlocks hP hD hS dX8_link_76 (rfl) (by rw [show (kc_X8_link nw caller pa al ah gl gh) = 1 from (if_neg c_1).trans ((if_neg c_15).trans ((if_neg c_20).trans ((if_neg c_25).trans ((if_neg c_30).trans ((if_pos c_35).trans (rfl))))))])
end
