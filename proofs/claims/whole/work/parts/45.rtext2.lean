-- MODULE: the reference, its text, 2
/-- the sign of a number: whether it is there -/
def kSb (ss sp : Nat) (sc : Nat → Int32) : Int32 := if f_X8_isNext ss sp sc 45 = 0 then (if f_X8_isNext ss sp sc 43 = 0 then 0 else 1) else 1
def kSi (ss sp : Nat) (sc : Nat → Int32) (ig : Int32) : Int32 := kAccG ig (kSb ss sp sc)
def kSs (ss sp : Nat) (sc : Nat → Int32) (ig : Int32) : Nat := kAccS sp ig (kSb ss sp sc)
def kTi (ss sp : Nat) (sc : Nat → Int32) (ig mt : Int32) : Int32 := kAccG (kSi ss sp sc ig) (kDb ss (kSs ss sp sc ig) sc 0 mt)
def kTs (ss sp : Nat) (sc : Nat → Int32) (ig mt : Int32) : Nat := kAccS (kSs ss sp sc ig) (kSi ss sp sc ig) (kDb ss (kSs ss sp sc ig) sc 0 mt)
def kUi (ss sp : Nat) (sc : Nat → Int32) (ig mt : Int32) : Int32 := kAccG (kTi ss sp sc ig mt) (kDb ss (kTs ss sp sc ig mt) sc 0 9)
def kUs (ss sp : Nat) (sc : Nat → Int32) (ig mt : Int32) : Nat := kAccS (kTs ss sp sc ig mt) (kTi ss sp sc ig mt) (kDb ss (kTs ss sp sc ig mt) sc 0 9)
theorem kUs_le (ss sp : Nat) (sc : Nat → Int32) (ig mt : Int32) : kUs ss sp sc ig mt ≤ sp + 3 := by
  have h1 : kSs ss sp sc ig ≤ sp + 1 := kAccS_le _ _ _
  have h2 : kTs ss sp sc ig mt ≤ kSs ss sp sc ig + 1 := kAccS_le _ _ _
  have h3 : kUs ss sp sc ig mt ≤ kTs ss sp sc ig mt + 1 := kAccS_le _ _ _
  omega
def kSv (ss sp : Nat) (sc : Nat → Int32) (ig mt : Int32) : Int32 := if f_X8_isNext ss sp sc 45 = 0 then 10 * kDr ss (kSs ss sp sc ig) sc (kSi ss sp sc ig) 0 mt + kDr ss (kTs ss sp sc ig mt) sc (kTi ss sp sc ig mt) 0 9 else -(10 * kDr ss (kSs ss sp sc ig) sc (kSi ss sp sc ig) 0 mt + kDr ss (kTs ss sp sc ig mt) sc (kTi ss sp sc ig mt) 0 9)
set_option maxHeartbeats 4000000 in
set_option maxRecDepth 100000 in
theorem c_X8_signed (l : Launch) (D : va_G) (g : Nat → Nat) (m0 sc0 rd0 nw0 tr0 di0 ke0 ik0 cp0 cn0 be0 : Nat) (sz : Nat) (rf : Int32) (ss : Nat) (sp : Nat) (ig : Int32) (lo : Int32) (ac : Nat) (sc : Nat → Int32) (mt : Int32) (hss : ss ≤ 120) (hsp : sp ≤ 900) : kMi l D g yX8_signed wsX8_signed 3 0 0 [.ref m0, .int mt] [(m0, .inr (8, [.int rf, .ref sc0, .int (nI ss), .int (nI sp), .int ig, .int lo, .ref rd0, .ref nw0, .ref tr0, .ref di0, .int (nI ac), .ref ke0, .ref ik0, .ref cp0, .ref cn0, .ref be0])), (sc0, .inl (g 0, 120, .inl sc))] sz (kSv ss sp sc ig mt) [(m0, .inr (8, [.int rf, .ref sc0, .int (nI ss), .int (nI (kUs ss sp sc ig mt)), .int (kUi ss sp sc ig mt), .int lo, .ref rd0, .ref nw0, .ref tr0, .ref di0, .int (nI ac), .ref ke0, .ref ik0, .ref cp0, .ref cn0, .ref be0])), (sc0, .inl (g 0, 120, .inl sc))] := by
  refine k_enter (nm := "signed") (own := RX8) (bytes := cX8_signed) (maxL := 5) (ret := (some .int)) (Qf := fun A => kQi D [(m0, .inr (8, [.int rf, .ref sc0, .int (nI ss), .int (nI (kUs ss sp sc ig mt)), .int (kUi ss sp sc ig mt), .int lo, .ref rd0, .ref nw0, .ref tr0, .ref di0, .int (nI ac), .ref ke0, .ref ik0, .ref cp0, .ref cn0, .ref be0])), (sc0, .inl (g 0, 120, .inl sc))] A (kSv ss sp sc ig mt)) (by decide) rfl rfl rfl (Nat.le_of_ble_eq_true rfl) ?_
  rintro pp ee s mm below meth cc A ls args Q H locs hQ ⟨hx, hb, hr, hml, hown, hts, hlocks, hin⟩ hP hK hD hA hS hE hl
  have hl : lv_has ls 5 [(0, .ref m0), (1, .int mt)] := hl
  refine lv_aload_n hx hb dX8_signed_0 rfl (lv_at hl 0 rfl) ?_
  refine lv_bipush (v := 45) hx hb dX8_signed_1 (by decide) ?_
  refine k_ai (wr := []) (w2 := [(m0, .inr (8, [.int rf, .ref sc0, .int (nI ss), .int (nI sp), .int ig, .int lo, .ref rd0, .ref nw0, .ref tr0, .ref di0, .int (nI ac), .ref ke0, .ref ik0, .ref cp0, .ref cn0, .ref be0])), (sc0, .inl (g 0, 120, .inl sc))]) (va_runV (As := [.int 45]) (rest := []) ⟨hx, hb, hml, hown, hts⟩ (c_X8_isNext l D g m0 sc0 rd0 nw0 tr0 di0 ke0 ik0 cp0 cn0 be0 H.size rf ss sp ig lo ac sc 45 (by omega) (by omega)) (cwV 1 hts gX8_signed_X8_isNext rfl rfl rfl (by decide +kernel) (k_lvl (by omega) (by decide))) (kPV hP hD hK hS hA hE [0, 1] rfl (by decide) 0 8 rfl rfl rfl) rfl rfl hl.1 rfl (lv_room (Nat.le_of_ble_eq_true rfl)) dX8_signed_3 ⟨Nat.le_of_ble_eq_true rfl, Nat.le_of_ble_eq_true rfl⟩) hP hD hS hA [0, 1] [] [0, 1] rfl rfl (by decide) (by decide) rfl (by decide) (fun H locs hP hD hS => ?_)
  refine lv_istore_n (lv' := [(2, .int (f_X8_isNext ss sp sc 45)), (0, .ref m0), (1, .int mt)]) hx hb dX8_signed_6 rfl hl (by decide) rfl (fun ls hl => ?_)
  refine lv_aload_n hx hb dX8_signed_7 rfl (lv_at hl 1 rfl) ?_
  refine lv_iload_n hx hb dX8_signed_8 rfl (lv_at hl 0 rfl) ?_
  refine lv_if_ne (tgt := 21) hx hb dX8_signed_9 (by decide) (fun c_1 => ?_) (fun c_1 => ?_)
  · refine lv_iconst (v := 1) hx hb dX8_signed_21 (by decide) ?_
    refine lv_goto (tgt := 26) hx hb dX8_signed_22 (by decide) ?_
    refine k_av (wr := [(sc0, .inl (g 0, 120, .inl sc))]) (w2 := [(m0, .inr (8, [.int rf, .ref sc0, .int (nI ss), .int (nI (kAccS sp ig 1)), .int (kAccG ig 1), .int lo, .ref rd0, .ref nw0, .ref tr0, .ref di0, .int (nI ac), .ref ke0, .ref ik0, .ref cp0, .ref cn0, .ref be0])), (sc0, .inl (g 0, 120, .inl sc))]) (va_runV (As := [.int 1]) (rest := []) ⟨hx, hb, hml, hown, hts⟩ (c_X8_accept l D g m0 sc0 rd0 nw0 tr0 di0 ke0 ik0 cp0 cn0 be0 H.size rf ss sp ig lo ac 1 (by omega)) (cwV 1 hts gX8_signed_X8_accept rfl rfl rfl (by decide +kernel) (k_lvl (by omega) (by decide))) (kPV hP hD hK hS hA hE [0] rfl (by decide) 0 8 rfl rfl rfl) rfl rfl hl.1 rfl (lv_room (Nat.le_of_ble_eq_true rfl)) dX8_signed_26 ⟨Nat.le_of_ble_eq_true rfl, Nat.le_of_ble_eq_true rfl⟩) hP hD hS hA [0] [1] [1, 0] rfl rfl (by decide) (by decide) rfl (by decide) (fun H locs hP hD hS => ?_)
    refine lv_aload_n hx hb dX8_signed_29 rfl (lv_at hl 1 rfl) ?_
    refine lv_iconst (v := 0) hx hb dX8_signed_30 (by decide) ?_
    refine lv_iload_n hx hb dX8_signed_31 rfl (lv_at hl 2 rfl) ?_
    refine k_ai (wr := []) (w2 := [(m0, .inr (8, [.int rf, .ref sc0, .int (nI ss), .int (nI (kAccS (kAccS sp ig 1) (kAccG ig 1) (kDb ss (kAccS sp ig 1) sc 0 mt))), .int (kAccG (kAccG ig 1) (kDb ss (kAccS sp ig 1) sc 0 mt)), .int lo, .ref rd0, .ref nw0, .ref tr0, .ref di0, .int (nI ac), .ref ke0, .ref ik0, .ref cp0, .ref cn0, .ref be0])), (sc0, .inl (g 0, 120, .inl sc))]) (va_runV (As := [.int 0, .int mt]) (rest := []) ⟨hx, hb, hml, hown, hts⟩ (c_X8_digit l D g m0 sc0 rd0 nw0 tr0 di0 ke0 ik0 cp0 cn0 be0 H.size rf ss (kAccS sp ig 1) (kAccG ig 1) lo ac sc 0 mt (by omega) (by have h50 := kAccS_le sp ig 1; omega)) (cwV 2 hts gX8_signed_X8_digit rfl rfl rfl (by decide +kernel) (k_lvl (by omega) (by decide))) (kPV hP hD hK hS hA hE [0, 1] rfl (by decide) 0 8 rfl rfl rfl) rfl rfl hl.1 rfl (lv_room (Nat.le_of_ble_eq_true rfl)) dX8_signed_32 ⟨Nat.le_of_ble_eq_true rfl, Nat.le_of_ble_eq_true rfl⟩) hP hD hS hA [0, 1] [] [0, 1] rfl rfl (by decide) (by decide) rfl (by decide) (fun H locs hP hD hS => ?_)
    refine lv_istore_n (lv' := [(3, .int (kDr ss (kAccS sp ig 1) sc (kAccG ig 1) 0 mt)), (2, .int (f_X8_isNext ss sp sc 45)), (0, .ref m0), (1, .int mt)]) hx hb dX8_signed_35 rfl hl (by decide) rfl (fun ls hl => ?_)
    refine lv_bipush (v := 10) hx hb dX8_signed_36 (by decide) ?_
    refine lv_iload_n hx hb dX8_signed_38 rfl (lv_at hl 0 rfl) ?_
    refine lv_imul hx hb dX8_signed_39 ?_
    refine lv_aload_n hx hb dX8_signed_40 rfl (lv_at hl 2 rfl) ?_
    refine lv_iconst (v := 0) hx hb dX8_signed_41 (by decide) ?_
    refine lv_bipush (v := 9) hx hb dX8_signed_42 (by decide) ?_
    refine k_ai (wr := []) (w2 := [(m0, .inr (8, [.int rf, .ref sc0, .int (nI ss), .int (nI (kAccS (kAccS (kAccS sp ig 1) (kAccG ig 1) (kDb ss (kAccS sp ig 1) sc 0 mt)) (kAccG (kAccG ig 1) (kDb ss (kAccS sp ig 1) sc 0 mt)) (kDb ss (kAccS (kAccS sp ig 1) (kAccG ig 1) (kDb ss (kAccS sp ig 1) sc 0 mt)) sc 0 9))), .int (kAccG (kAccG (kAccG ig 1) (kDb ss (kAccS sp ig 1) sc 0 mt)) (kDb ss (kAccS (kAccS sp ig 1) (kAccG ig 1) (kDb ss (kAccS sp ig 1) sc 0 mt)) sc 0 9)), .int lo, .ref rd0, .ref nw0, .ref tr0, .ref di0, .int (nI ac), .ref ke0, .ref ik0, .ref cp0, .ref cn0, .ref be0])), (sc0, .inl (g 0, 120, .inl sc))]) (va_runV (As := [.int 0, .int 9]) (rest := [.int (10 * (kDr ss (kAccS sp ig 1) sc (kAccG ig 1) 0 mt))]) ⟨hx, hb, hml, hown, hts⟩ (c_X8_digit l D g m0 sc0 rd0 nw0 tr0 di0 ke0 ik0 cp0 cn0 be0 H.size rf ss (kAccS (kAccS sp ig 1) (kAccG ig 1) (kDb ss (kAccS sp ig 1) sc 0 mt)) (kAccG (kAccG ig 1) (kDb ss (kAccS sp ig 1) sc 0 mt)) lo ac sc 0 9 (by omega) (by have h50 := kAccS_le (kAccS sp ig 1) (kAccG ig 1) (kDb ss (kAccS sp ig 1) sc 0 mt); have h51 := kAccS_le sp ig 1; omega)) (cwV 2 hts gX8_signed_X8_digit rfl rfl rfl (by decide +kernel) (k_lvl (by omega) (by decide))) (kPV hP hD hK hS hA hE [0, 1] rfl (by decide) 0 8 rfl rfl rfl) rfl rfl hl.1 rfl (lv_room (Nat.le_of_ble_eq_true rfl)) dX8_signed_44 ⟨Nat.le_of_ble_eq_true rfl, Nat.le_of_ble_eq_true rfl⟩) hP hD hS hA [0, 1] [] [0, 1] rfl rfl (by decide) (by decide) rfl (by decide) (fun H locs hP hD hS => ?_)
    refine lv_iadd hx hb dX8_signed_47 ?_
    refine lv_istore (lv' := [(4, .int ((10 * (kDr ss (kAccS sp ig 1) sc (kAccG ig 1) 0 mt)) + (kDr ss (kAccS (kAccS sp ig 1) (kAccG ig 1) (kDb ss (kAccS sp ig 1) sc 0 mt)) sc (kAccG (kAccG ig 1) (kDb ss (kAccS sp ig 1) sc 0 mt)) 0 9))), (3, .int (kDr ss (kAccS sp ig 1) sc (kAccG ig 1) 0 mt)), (2, .int (f_X8_isNext ss sp sc 45)), (0, .ref m0), (1, .int mt)]) hx hb dX8_signed_48 hl (by decide) rfl (fun ls hl => ?_)
    refine lv_iload_n hx hb dX8_signed_50 rfl (lv_at hl 2 rfl) ?_
    refine lv_if_eq (tgt := 60) hx hb dX8_signed_51 (by decide) (fun c_2 => absurd c_2 c_1) (fun _ => ?_)
    refine lv_iload hx hb dX8_signed_54 (lv_at hl 0 rfl) ?_
    refine lv_ineg hx hb dX8_signed_56 ?_
    refine lv_goto (tgt := 62) hx hb dX8_signed_57 (by decide) ?_
    have hsb : kSb ss sp sc = 1 := by unfold kSb; rw [if_neg c_1]
    subst hQ
    exact k_ri hx hb hr hlocks hP hD hS dX8_signed_62 (by unfold kSv; rw [if_neg c_1]; unfold kTi kTs kSi kSs; rw [hsb]) (by unfold kUi kUs kTi kTs kSi kSs; rw [hsb])
  · refine lv_aload_n hx hb dX8_signed_12 rfl (lv_at hl 1 rfl) ?_
    refine lv_bipush (v := 43) hx hb dX8_signed_13 (by decide) ?_
    refine k_ai (wr := []) (w2 := [(m0, .inr (8, [.int rf, .ref sc0, .int (nI ss), .int (nI sp), .int ig, .int lo, .ref rd0, .ref nw0, .ref tr0, .ref di0, .int (nI ac), .ref ke0, .ref ik0, .ref cp0, .ref cn0, .ref be0])), (sc0, .inl (g 0, 120, .inl sc))]) (va_runV (As := [.int 43]) (rest := [.ref m0]) ⟨hx, hb, hml, hown, hts⟩ (c_X8_isNext l D g m0 sc0 rd0 nw0 tr0 di0 ke0 ik0 cp0 cn0 be0 H.size rf ss sp ig lo ac sc 43 (by omega) (by omega)) (cwV 1 hts gX8_signed_X8_isNext rfl rfl rfl (by decide +kernel) (k_lvl (by omega) (by decide))) (kPV hP hD hK hS hA hE [0, 1] rfl (by decide) 0 8 rfl rfl rfl) rfl rfl hl.1 rfl (lv_room (Nat.le_of_ble_eq_true rfl)) dX8_signed_15 ⟨Nat.le_of_ble_eq_true rfl, Nat.le_of_ble_eq_true rfl⟩) hP hD hS hA [0, 1] [] [0, 1] rfl rfl (by decide) (by decide) rfl (by decide) (fun H locs hP hD hS => ?_)
    refine lv_if_eq (tgt := 25) hx hb dX8_signed_18 (by decide) (fun c_3 => ?_) (fun c_3 => ?_)
    · refine lv_iconst (v := 0) hx hb dX8_signed_25 (by decide) ?_
      refine k_av (wr := [(sc0, .inl (g 0, 120, .inl sc))]) (w2 := [(m0, .inr (8, [.int rf, .ref sc0, .int (nI ss), .int (nI (kAccS sp ig 0)), .int (kAccG ig 0), .int lo, .ref rd0, .ref nw0, .ref tr0, .ref di0, .int (nI ac), .ref ke0, .ref ik0, .ref cp0, .ref cn0, .ref be0])), (sc0, .inl (g 0, 120, .inl sc))]) (va_runV (As := [.int 0]) (rest := []) ⟨hx, hb, hml, hown, hts⟩ (c_X8_accept l D g m0 sc0 rd0 nw0 tr0 di0 ke0 ik0 cp0 cn0 be0 H.size rf ss sp ig lo ac 0 (by omega)) (cwV 1 hts gX8_signed_X8_accept rfl rfl rfl (by decide +kernel) (k_lvl (by omega) (by decide))) (kPV hP hD hK hS hA hE [0] rfl (by decide) 0 8 rfl rfl rfl) rfl rfl hl.1 rfl (lv_room (Nat.le_of_ble_eq_true rfl)) dX8_signed_26 ⟨Nat.le_of_ble_eq_true rfl, Nat.le_of_ble_eq_true rfl⟩) hP hD hS hA [0] [1] [1, 0] rfl rfl (by decide) (by decide) rfl (by decide) (fun H locs hP hD hS => ?_)
      refine lv_aload_n hx hb dX8_signed_29 rfl (lv_at hl 1 rfl) ?_
      refine lv_iconst (v := 0) hx hb dX8_signed_30 (by decide) ?_
      refine lv_iload_n hx hb dX8_signed_31 rfl (lv_at hl 2 rfl) ?_
      refine k_ai (wr := []) (w2 := [(m0, .inr (8, [.int rf, .ref sc0, .int (nI ss), .int (nI (kAccS (kAccS sp ig 0) (kAccG ig 0) (kDb ss (kAccS sp ig 0) sc 0 mt))), .int (kAccG (kAccG ig 0) (kDb ss (kAccS sp ig 0) sc 0 mt)), .int lo, .ref rd0, .ref nw0, .ref tr0, .ref di0, .int (nI ac), .ref ke0, .ref ik0, .ref cp0, .ref cn0, .ref be0])), (sc0, .inl (g 0, 120, .inl sc))]) (va_runV (As := [.int 0, .int mt]) (rest := []) ⟨hx, hb, hml, hown, hts⟩ (c_X8_digit l D g m0 sc0 rd0 nw0 tr0 di0 ke0 ik0 cp0 cn0 be0 H.size rf ss (kAccS sp ig 0) (kAccG ig 0) lo ac sc 0 mt (by omega) (by have h50 := kAccS_le sp ig 0; omega)) (cwV 2 hts gX8_signed_X8_digit rfl rfl rfl (by decide +kernel) (k_lvl (by omega) (by decide))) (kPV hP hD hK hS hA hE [0, 1] rfl (by decide) 0 8 rfl rfl rfl) rfl rfl hl.1 rfl (lv_room (Nat.le_of_ble_eq_true rfl)) dX8_signed_32 ⟨Nat.le_of_ble_eq_true rfl, Nat.le_of_ble_eq_true rfl⟩) hP hD hS hA [0, 1] [] [0, 1] rfl rfl (by decide) (by decide) rfl (by decide) (fun H locs hP hD hS => ?_)
      refine lv_istore_n (lv' := [(3, .int (kDr ss (kAccS sp ig 0) sc (kAccG ig 0) 0 mt)), (2, .int (f_X8_isNext ss sp sc 45)), (0, .ref m0), (1, .int mt)]) hx hb dX8_signed_35 rfl hl (by decide) rfl (fun ls hl => ?_)
      refine lv_bipush (v := 10) hx hb dX8_signed_36 (by decide) ?_
      refine lv_iload_n hx hb dX8_signed_38 rfl (lv_at hl 0 rfl) ?_
      refine lv_imul hx hb dX8_signed_39 ?_
      refine lv_aload_n hx hb dX8_signed_40 rfl (lv_at hl 2 rfl) ?_
      refine lv_iconst (v := 0) hx hb dX8_signed_41 (by decide) ?_
      refine lv_bipush (v := 9) hx hb dX8_signed_42 (by decide) ?_
      refine k_ai (wr := []) (w2 := [(m0, .inr (8, [.int rf, .ref sc0, .int (nI ss), .int (nI (kAccS (kAccS (kAccS sp ig 0) (kAccG ig 0) (kDb ss (kAccS sp ig 0) sc 0 mt)) (kAccG (kAccG ig 0) (kDb ss (kAccS sp ig 0) sc 0 mt)) (kDb ss (kAccS (kAccS sp ig 0) (kAccG ig 0) (kDb ss (kAccS sp ig 0) sc 0 mt)) sc 0 9))), .int (kAccG (kAccG (kAccG ig 0) (kDb ss (kAccS sp ig 0) sc 0 mt)) (kDb ss (kAccS (kAccS sp ig 0) (kAccG ig 0) (kDb ss (kAccS sp ig 0) sc 0 mt)) sc 0 9)), .int lo, .ref rd0, .ref nw0, .ref tr0, .ref di0, .int (nI ac), .ref ke0, .ref ik0, .ref cp0, .ref cn0, .ref be0])), (sc0, .inl (g 0, 120, .inl sc))]) (va_runV (As := [.int 0, .int 9]) (rest := [.int (10 * (kDr ss (kAccS sp ig 0) sc (kAccG ig 0) 0 mt))]) ⟨hx, hb, hml, hown, hts⟩ (c_X8_digit l D g m0 sc0 rd0 nw0 tr0 di0 ke0 ik0 cp0 cn0 be0 H.size rf ss (kAccS (kAccS sp ig 0) (kAccG ig 0) (kDb ss (kAccS sp ig 0) sc 0 mt)) (kAccG (kAccG ig 0) (kDb ss (kAccS sp ig 0) sc 0 mt)) lo ac sc 0 9 (by omega) (by have h50 := kAccS_le (kAccS sp ig 0) (kAccG ig 0) (kDb ss (kAccS sp ig 0) sc 0 mt); have h51 := kAccS_le sp ig 0; omega)) (cwV 2 hts gX8_signed_X8_digit rfl rfl rfl (by decide +kernel) (k_lvl (by omega) (by decide))) (kPV hP hD hK hS hA hE [0, 1] rfl (by decide) 0 8 rfl rfl rfl) rfl rfl hl.1 rfl (lv_room (Nat.le_of_ble_eq_true rfl)) dX8_signed_44 ⟨Nat.le_of_ble_eq_true rfl, Nat.le_of_ble_eq_true rfl⟩) hP hD hS hA [0, 1] [] [0, 1] rfl rfl (by decide) (by decide) rfl (by decide) (fun H locs hP hD hS => ?_)
      refine lv_iadd hx hb dX8_signed_47 ?_
      refine lv_istore (lv' := [(4, .int ((10 * (kDr ss (kAccS sp ig 0) sc (kAccG ig 0) 0 mt)) + (kDr ss (kAccS (kAccS sp ig 0) (kAccG ig 0) (kDb ss (kAccS sp ig 0) sc 0 mt)) sc (kAccG (kAccG ig 0) (kDb ss (kAccS sp ig 0) sc 0 mt)) 0 9))), (3, .int (kDr ss (kAccS sp ig 0) sc (kAccG ig 0) 0 mt)), (2, .int (f_X8_isNext ss sp sc 45)), (0, .ref m0), (1, .int mt)]) hx hb dX8_signed_48 hl (by decide) rfl (fun ls hl => ?_)
      refine lv_iload_n hx hb dX8_signed_50 rfl (lv_at hl 2 rfl) ?_
      refine lv_if_eq (tgt := 60) hx hb dX8_signed_51 (by decide) (fun _ => ?_) (fun c_4 => absurd c_1 c_4)
      refine lv_iload hx hb dX8_signed_60 (lv_at hl 0 rfl) ?_
      have hsb : kSb ss sp sc = 0 := by unfold kSb; rw [if_pos c_1, if_pos c_3]
      subst hQ
      exact k_ri hx hb hr hlocks hP hD hS dX8_signed_62 (by unfold kSv; rw [if_pos c_1]; unfold kTi kTs kSi kSs; rw [hsb]) (by unfold kUi kUs kTi kTs kSi kSs; rw [hsb])
    · refine lv_iconst (v := 1) hx hb dX8_signed_21 (by decide) ?_
      refine lv_goto (tgt := 26) hx hb dX8_signed_22 (by decide) ?_
      refine k_av (wr := [(sc0, .inl (g 0, 120, .inl sc))]) (w2 := [(m0, .inr (8, [.int rf, .ref sc0, .int (nI ss), .int (nI (kAccS sp ig 1)), .int (kAccG ig 1), .int lo, .ref rd0, .ref nw0, .ref tr0, .ref di0, .int (nI ac), .ref ke0, .ref ik0, .ref cp0, .ref cn0, .ref be0])), (sc0, .inl (g 0, 120, .inl sc))]) (va_runV (As := [.int 1]) (rest := []) ⟨hx, hb, hml, hown, hts⟩ (c_X8_accept l D g m0 sc0 rd0 nw0 tr0 di0 ke0 ik0 cp0 cn0 be0 H.size rf ss sp ig lo ac 1 (by omega)) (cwV 1 hts gX8_signed_X8_accept rfl rfl rfl (by decide +kernel) (k_lvl (by omega) (by decide))) (kPV hP hD hK hS hA hE [0] rfl (by decide) 0 8 rfl rfl rfl) rfl rfl hl.1 rfl (lv_room (Nat.le_of_ble_eq_true rfl)) dX8_signed_26 ⟨Nat.le_of_ble_eq_true rfl, Nat.le_of_ble_eq_true rfl⟩) hP hD hS hA [0] [1] [1, 0] rfl rfl (by decide) (by decide) rfl (by decide) (fun H locs hP hD hS => ?_)
      refine lv_aload_n hx hb dX8_signed_29 rfl (lv_at hl 1 rfl) ?_
      refine lv_iconst (v := 0) hx hb dX8_signed_30 (by decide) ?_
      refine lv_iload_n hx hb dX8_signed_31 rfl (lv_at hl 2 rfl) ?_
      refine k_ai (wr := []) (w2 := [(m0, .inr (8, [.int rf, .ref sc0, .int (nI ss), .int (nI (kAccS (kAccS sp ig 1) (kAccG ig 1) (kDb ss (kAccS sp ig 1) sc 0 mt))), .int (kAccG (kAccG ig 1) (kDb ss (kAccS sp ig 1) sc 0 mt)), .int lo, .ref rd0, .ref nw0, .ref tr0, .ref di0, .int (nI ac), .ref ke0, .ref ik0, .ref cp0, .ref cn0, .ref be0])), (sc0, .inl (g 0, 120, .inl sc))]) (va_runV (As := [.int 0, .int mt]) (rest := []) ⟨hx, hb, hml, hown, hts⟩ (c_X8_digit l D g m0 sc0 rd0 nw0 tr0 di0 ke0 ik0 cp0 cn0 be0 H.size rf ss (kAccS sp ig 1) (kAccG ig 1) lo ac sc 0 mt (by omega) (by have h50 := kAccS_le sp ig 1; omega)) (cwV 2 hts gX8_signed_X8_digit rfl rfl rfl (by decide +kernel) (k_lvl (by omega) (by decide))) (kPV hP hD hK hS hA hE [0, 1] rfl (by decide) 0 8 rfl rfl rfl) rfl rfl hl.1 rfl (lv_room (Nat.le_of_ble_eq_true rfl)) dX8_signed_32 ⟨Nat.le_of_ble_eq_true rfl, Nat.le_of_ble_eq_true rfl⟩) hP hD hS hA [0, 1] [] [0, 1] rfl rfl (by decide) (by decide) rfl (by decide) (fun H locs hP hD hS => ?_)
      refine lv_istore_n (lv' := [(3, .int (kDr ss (kAccS sp ig 1) sc (kAccG ig 1) 0 mt)), (2, .int (f_X8_isNext ss sp sc 45)), (0, .ref m0), (1, .int mt)]) hx hb dX8_signed_35 rfl hl (by decide) rfl (fun ls hl => ?_)
      refine lv_bipush (v := 10) hx hb dX8_signed_36 (by decide) ?_
      refine lv_iload_n hx hb dX8_signed_38 rfl (lv_at hl 0 rfl) ?_
      refine lv_imul hx hb dX8_signed_39 ?_
      refine lv_aload_n hx hb dX8_signed_40 rfl (lv_at hl 2 rfl) ?_
      refine lv_iconst (v := 0) hx hb dX8_signed_41 (by decide) ?_
      refine lv_bipush (v := 9) hx hb dX8_signed_42 (by decide) ?_
      refine k_ai (wr := []) (w2 := [(m0, .inr (8, [.int rf, .ref sc0, .int (nI ss), .int (nI (kAccS (kAccS (kAccS sp ig 1) (kAccG ig 1) (kDb ss (kAccS sp ig 1) sc 0 mt)) (kAccG (kAccG ig 1) (kDb ss (kAccS sp ig 1) sc 0 mt)) (kDb ss (kAccS (kAccS sp ig 1) (kAccG ig 1) (kDb ss (kAccS sp ig 1) sc 0 mt)) sc 0 9))), .int (kAccG (kAccG (kAccG ig 1) (kDb ss (kAccS sp ig 1) sc 0 mt)) (kDb ss (kAccS (kAccS sp ig 1) (kAccG ig 1) (kDb ss (kAccS sp ig 1) sc 0 mt)) sc 0 9)), .int lo, .ref rd0, .ref nw0, .ref tr0, .ref di0, .int (nI ac), .ref ke0, .ref ik0, .ref cp0, .ref cn0, .ref be0])), (sc0, .inl (g 0, 120, .inl sc))]) (va_runV (As := [.int 0, .int 9]) (rest := [.int (10 * (kDr ss (kAccS sp ig 1) sc (kAccG ig 1) 0 mt))]) ⟨hx, hb, hml, hown, hts⟩ (c_X8_digit l D g m0 sc0 rd0 nw0 tr0 di0 ke0 ik0 cp0 cn0 be0 H.size rf ss (kAccS (kAccS sp ig 1) (kAccG ig 1) (kDb ss (kAccS sp ig 1) sc 0 mt)) (kAccG (kAccG ig 1) (kDb ss (kAccS sp ig 1) sc 0 mt)) lo ac sc 0 9 (by omega) (by have h50 := kAccS_le (kAccS sp ig 1) (kAccG ig 1) (kDb ss (kAccS sp ig 1) sc 0 mt); have h51 := kAccS_le sp ig 1; omega)) (cwV 2 hts gX8_signed_X8_digit rfl rfl rfl (by decide +kernel) (k_lvl (by omega) (by decide))) (kPV hP hD hK hS hA hE [0, 1] rfl (by decide) 0 8 rfl rfl rfl) rfl rfl hl.1 rfl (lv_room (Nat.le_of_ble_eq_true rfl)) dX8_signed_44 ⟨Nat.le_of_ble_eq_true rfl, Nat.le_of_ble_eq_true rfl⟩) hP hD hS hA [0, 1] [] [0, 1] rfl rfl (by decide) (by decide) rfl (by decide) (fun H locs hP hD hS => ?_)
      refine lv_iadd hx hb dX8_signed_47 ?_
      refine lv_istore (lv' := [(4, .int ((10 * (kDr ss (kAccS sp ig 1) sc (kAccG ig 1) 0 mt)) + (kDr ss (kAccS (kAccS sp ig 1) (kAccG ig 1) (kDb ss (kAccS sp ig 1) sc 0 mt)) sc (kAccG (kAccG ig 1) (kDb ss (kAccS sp ig 1) sc 0 mt)) 0 9))), (3, .int (kDr ss (kAccS sp ig 1) sc (kAccG ig 1) 0 mt)), (2, .int (f_X8_isNext ss sp sc 45)), (0, .ref m0), (1, .int mt)]) hx hb dX8_signed_48 hl (by decide) rfl (fun ls hl => ?_)
      refine lv_iload_n hx hb dX8_signed_50 rfl (lv_at hl 2 rfl) ?_
      refine lv_if_eq (tgt := 60) hx hb dX8_signed_51 (by decide) (fun _ => ?_) (fun c_5 => absurd c_1 c_5)
      refine lv_iload hx hb dX8_signed_60 (lv_at hl 0 rfl) ?_
      have hsb : kSb ss sp sc = 1 := by unfold kSb; rw [if_pos c_1, if_neg c_3]
      subst hQ
      exact k_ri hx hb hr hlocks hP hD hS dX8_signed_62 (by unfold kSv; rw [if_pos c_1]; unfold kTi kTs kSi kSs; rw [hsb]) (by unfold kUi kUs kTi kTs kSi kSs; rw [hsb])
def f_X8_goes (ig : Int32) (lo : Int32) (b9 : Int32) : Int32 × Int32 :=
  if ig = 0 then
    (0, (lo + 0))
  else
    if b9 = 0 then
      (0, (lo + 1))
    else
      (1, (lo + 0))
theorem qX8_goes_0 : Cond.fieldLink RX8 131 "BlameChainsModel" "leftOut" "I" ∈ wsX8_goes := (List.mem_cons_of_mem _ (List.mem_append_left _ (List.mem_of_getElem? (i := 0) rfl)))
theorem qX8_goes_1 : Cond.fieldLink RX8 115 "BlameChainsModel" "isGood" "Z" ∈ wsX8_goes := (List.mem_cons_of_mem _ (List.mem_append_left _ (List.mem_of_getElem? (i := 1) rfl)))
set_option maxHeartbeats 4000000 in
set_option maxRecDepth 100000 in
theorem c_X8_goes (l : Launch) (D : va_G) (g : Nat → Nat) (m0 sc0 rd0 nw0 tr0 di0 ke0 ik0 cp0 cn0 be0 : Nat) (sz : Nat) (rf : Int32) (ss : Nat) (sp : Nat) (ig : Int32) (lo : Int32) (ac : Nat) (b9 : Int32) : kMi l D g yX8_goes wsX8_goes 1 0 0 [.ref m0, .int b9] [(m0, .inr (8, [.int rf, .ref sc0, .int (nI ss), .int (nI sp), .int ig, .int lo, .ref rd0, .ref nw0, .ref tr0, .ref di0, .int (nI ac), .ref ke0, .ref ik0, .ref cp0, .ref cn0, .ref be0]))] sz ((f_X8_goes ig lo b9).1) [(m0, .inr (8, [.int rf, .ref sc0, .int (nI ss), .int (nI sp), .int ig, .int ((f_X8_goes ig lo b9).2), .ref rd0, .ref nw0, .ref tr0, .ref di0, .int (nI ac), .ref ke0, .ref ik0, .ref cp0, .ref cn0, .ref be0]))] := by
  refine k_enter (nm := "goes") (own := RX8) (bytes := cX8_goes) (maxL := 2) (ret := (some .boolean)) (Qf := fun A => kQi D [(m0, .inr (8, [.int rf, .ref sc0, .int (nI ss), .int (nI sp), .int ig, .int ((f_X8_goes ig lo b9).2), .ref rd0, .ref nw0, .ref tr0, .ref di0, .int (nI ac), .ref ke0, .ref ik0, .ref cp0, .ref cn0, .ref be0]))] A ((f_X8_goes ig lo b9).1)) (by decide) rfl rfl rfl (Nat.le_of_ble_eq_true rfl) ?_
  rintro pp ee s mm below meth cc A ls args Q H locs hQ ⟨hx, hb, hr, hml, hown, hts, hlocks, hin⟩ hP hK hD hA hS hE hl
  have hl : lv_has ls 2 [(0, .ref m0), (1, .int b9)] := hl
  refine lv_aload_n hx hb dX8_goes_0 rfl (lv_at hl 0 rfl) ?_
  refine lv_dup hx hb dX8_goes_1 rfl ?_
  refine va_get (D := D) (ci := 8) (v := .int lo) (C := RX8) (T := TX8) (N := 16) hx hb hts (fun w h => (List.mem_cons_of_mem _ (List.mem_append_right _ h))) hown hK hP 0 rfl rfl 5 (by decide) (hts _ qX8_goes_0) (fun _ h9 => h9) rfl dX8_goes_2 ?_
  refine lv_aload_n hx hb dX8_goes_5 rfl (lv_at hl 0 rfl) ?_
  refine va_get (D := D) (ci := 8) (v := .int ig) (C := RX8) (T := TX8) (N := 16) hx hb hts (fun w h => (List.mem_cons_of_mem _ (List.mem_append_right _ h))) hown hK hP 0 rfl rfl 4 (by decide) (hts _ qX8_goes_1) (fun _ h9 => h9) rfl dX8_goes_6 ?_
  refine lv_if_eq (tgt := 20) hx hb dX8_goes_9 (by decide) (fun c_1 => ?_) (fun c_1 => ?_)
  · refine lv_iconst (v := 0) hx hb dX8_goes_20 (by decide) ?_
    refine lv_iadd hx hb dX8_goes_21 ?_
    refine va_put (D := D) (ci := 8) (v := .int (lo + 0)) (ty := .int) (C := RX8) (T := TX8) (N := 16) hx hb hts (fun w h => (List.mem_cons_of_mem _ (List.mem_append_right _ h))) tyX8 tyX8_ok nmX8 hown hK hP hD hS 0 rfl rfl 5 (by decide) (hts _ qX8_goes_0) (fun _ h9 => h9) rfl (by decide +kernel) rfl rfl (Nat.le_of_ble_eq_true rfl) dX8_goes_22 (fun H locs hP hD hS => ?_)
    have hP : va_P D vwCl [(m0, .inr (8, [.int rf, .ref sc0, .int (nI ss), .int (nI sp), .int ig, .int (lo + 0), .ref rd0, .ref nw0, .ref tr0, .ref di0, .int (nI ac), .ref ke0, .ref ik0, .ref cp0, .ref cn0, .ref be0]))] H := hP
    have hD : va_D A [(m0, .inr (8, [.int rf, .ref sc0, .int (nI ss), .int (nI sp), .int ig, .int (lo + 0), .ref rd0, .ref nw0, .ref tr0, .ref di0, .int (nI ac), .ref ke0, .ref ik0, .ref cp0, .ref cn0, .ref be0]))] := hD
    refine lv_aload_n hx hb dX8_goes_25 rfl (lv_at hl 0 rfl) ?_
    refine va_get (D := D) (ci := 8) (v := .int ig) (C := RX8) (T := TX8) (N := 16) hx hb hts (fun w h => (List.mem_cons_of_mem _ (List.mem_append_right _ h))) hown hK hP 0 rfl rfl 4 (by decide) (hts _ qX8_goes_1) (fun _ h9 => h9) rfl dX8_goes_26 ?_
    refine lv_if_eq (tgt := 40) hx hb dX8_goes_29 (by decide) (fun _ => ?_) (fun c_2 => absurd c_1 c_2)
    refine lv_iconst (v := 0) hx hb dX8_goes_40 (by decide) ?_
    have hE2 : (f_X8_goes ig lo b9) = (0, (lo + 0)) := by
      exact (if_pos c_1).trans (rfl)
    subst hQ
    exact k_rz hx hb hr hlocks hP hD hS dX8_goes_41 (by rfl) (by rw [hE2]) (by rw [hE2])
  · refine lv_iload_n hx hb dX8_goes_12 rfl (lv_at hl 1 rfl) ?_
    refine lv_if_ne (tgt := 20) hx hb dX8_goes_13 (by decide) (fun c_3 => ?_) (fun c_3 => ?_)
    · refine lv_iconst (v := 0) hx hb dX8_goes_20 (by decide) ?_
      refine lv_iadd hx hb dX8_goes_21 ?_
      refine va_put (D := D) (ci := 8) (v := .int (lo + 0)) (ty := .int) (C := RX8) (T := TX8) (N := 16) hx hb hts (fun w h => (List.mem_cons_of_mem _ (List.mem_append_right _ h))) tyX8 tyX8_ok nmX8 hown hK hP hD hS 0 rfl rfl 5 (by decide) (hts _ qX8_goes_0) (fun _ h9 => h9) rfl (by decide +kernel) rfl rfl (Nat.le_of_ble_eq_true rfl) dX8_goes_22 (fun H locs hP hD hS => ?_)
      have hP : va_P D vwCl [(m0, .inr (8, [.int rf, .ref sc0, .int (nI ss), .int (nI sp), .int ig, .int (lo + 0), .ref rd0, .ref nw0, .ref tr0, .ref di0, .int (nI ac), .ref ke0, .ref ik0, .ref cp0, .ref cn0, .ref be0]))] H := hP
      have hD : va_D A [(m0, .inr (8, [.int rf, .ref sc0, .int (nI ss), .int (nI sp), .int ig, .int (lo + 0), .ref rd0, .ref nw0, .ref tr0, .ref di0, .int (nI ac), .ref ke0, .ref ik0, .ref cp0, .ref cn0, .ref be0]))] := hD
      refine lv_aload_n hx hb dX8_goes_25 rfl (lv_at hl 0 rfl) ?_
      refine va_get (D := D) (ci := 8) (v := .int ig) (C := RX8) (T := TX8) (N := 16) hx hb hts (fun w h => (List.mem_cons_of_mem _ (List.mem_append_right _ h))) hown hK hP 0 rfl rfl 4 (by decide) (hts _ qX8_goes_1) (fun _ h9 => h9) rfl dX8_goes_26 ?_
      refine lv_if_eq (tgt := 40) hx hb dX8_goes_29 (by decide) (fun c_4 => absurd c_4 c_1) (fun _ => ?_)
      refine lv_iload_n hx hb dX8_goes_32 rfl (lv_at hl 1 rfl) ?_
      refine lv_if_eq (tgt := 40) hx hb dX8_goes_33 (by decide) (fun c_5 => absurd c_5 c_3) (fun _ => ?_)
      refine lv_iconst (v := 1) hx hb dX8_goes_36 (by decide) ?_
      refine lv_goto (tgt := 41) hx hb dX8_goes_37 (by decide) ?_
      have hE2 : (f_X8_goes ig lo b9) = (1, (lo + 0)) := by
        exact (if_neg c_1).trans ((if_neg c_3).trans (rfl))
      subst hQ
      exact k_rz hx hb hr hlocks hP hD hS dX8_goes_41 (by rfl) (by rw [hE2]) (by rw [hE2])
    · refine lv_iconst (v := 1) hx hb dX8_goes_16 (by decide) ?_
      refine lv_goto (tgt := 21) hx hb dX8_goes_17 (by decide) ?_
      refine lv_iadd hx hb dX8_goes_21 ?_
      refine va_put (D := D) (ci := 8) (v := .int (lo + 1)) (ty := .int) (C := RX8) (T := TX8) (N := 16) hx hb hts (fun w h => (List.mem_cons_of_mem _ (List.mem_append_right _ h))) tyX8 tyX8_ok nmX8 hown hK hP hD hS 0 rfl rfl 5 (by decide) (hts _ qX8_goes_0) (fun _ h9 => h9) rfl (by decide +kernel) rfl rfl (Nat.le_of_ble_eq_true rfl) dX8_goes_22 (fun H locs hP hD hS => ?_)
      have hP : va_P D vwCl [(m0, .inr (8, [.int rf, .ref sc0, .int (nI ss), .int (nI sp), .int ig, .int (lo + 1), .ref rd0, .ref nw0, .ref tr0, .ref di0, .int (nI ac), .ref ke0, .ref ik0, .ref cp0, .ref cn0, .ref be0]))] H := hP
      have hD : va_D A [(m0, .inr (8, [.int rf, .ref sc0, .int (nI ss), .int (nI sp), .int ig, .int (lo + 1), .ref rd0, .ref nw0, .ref tr0, .ref di0, .int (nI ac), .ref ke0, .ref ik0, .ref cp0, .ref cn0, .ref be0]))] := hD
      refine lv_aload_n hx hb dX8_goes_25 rfl (lv_at hl 0 rfl) ?_
      refine va_get (D := D) (ci := 8) (v := .int ig) (C := RX8) (T := TX8) (N := 16) hx hb hts (fun w h => (List.mem_cons_of_mem _ (List.mem_append_right _ h))) hown hK hP 0 rfl rfl 4 (by decide) (hts _ qX8_goes_1) (fun _ h9 => h9) rfl dX8_goes_26 ?_
      refine lv_if_eq (tgt := 40) hx hb dX8_goes_29 (by decide) (fun c_6 => absurd c_6 c_1) (fun _ => ?_)
      refine lv_iload_n hx hb dX8_goes_32 rfl (lv_at hl 1 rfl) ?_
      refine lv_if_eq (tgt := 40) hx hb dX8_goes_33 (by decide) (fun _ => ?_) (fun c_7 => absurd c_3 c_7)
      refine lv_iconst (v := 0) hx hb dX8_goes_40 (by decide) ?_
      have hE2 : (f_X8_goes ig lo b9) = (0, (lo + 1)) := by
        exact (if_neg c_1).trans ((if_pos c_3).trans (rfl))
      subst hQ
      exact k_rz hx hb hr hlocks hP hD hS dX8_goes_41 (by rfl) (by rw [hE2]) (by rw [hE2])
def f_X8_isRead (rw : Nat → Int32) (pa : Int32) : Int32 :=
  if (rw 0) ≤ pa then
    0
  else
    1
theorem qX8_isRead_0 : Cond.fieldLink RX8 13 "BlameChainsModel" "read" "[I" ∈ wsX8_isRead := (List.mem_cons_of_mem _ (List.mem_append_left _ (List.mem_of_getElem? (i := 0) rfl)))
set_option maxHeartbeats 4000000 in
set_option maxRecDepth 100000 in
theorem c_X8_isRead (l : Launch) (D : va_G) (g : Nat → Nat) (m0 sc0 rd0 nw0 tr0 di0 ke0 ik0 cp0 cn0 be0 : Nat) (sz : Nat) (rf : Int32) (ss : Nat) (sp : Nat) (ig : Int32) (lo : Int32) (ac : Nat) (rw : Nat → Int32) (pa : Int32) : kMi l D g yX8_isRead wsX8_isRead 1 0 0 [.ref m0, .int pa] [(m0, .inr (8, [.int rf, .ref sc0, .int (nI ss), .int (nI sp), .int ig, .int lo, .ref rd0, .ref nw0, .ref tr0, .ref di0, .int (nI ac), .ref ke0, .ref ik0, .ref cp0, .ref cn0, .ref be0])), (rd0, .inl (g 0, 748, .inl rw))] sz (f_X8_isRead rw pa) [(m0, .inr (8, [.int rf, .ref sc0, .int (nI ss), .int (nI sp), .int ig, .int lo, .ref rd0, .ref nw0, .ref tr0, .ref di0, .int (nI ac), .ref ke0, .ref ik0, .ref cp0, .ref cn0, .ref be0])), (rd0, .inl (g 0, 748, .inl rw))] := by
  refine k_enter (nm := "isRead") (own := RX8) (bytes := cX8_isRead) (maxL := 2) (ret := (some .boolean)) (Qf := fun A => kQi D [(m0, .inr (8, [.int rf, .ref sc0, .int (nI ss), .int (nI sp), .int ig, .int lo, .ref rd0, .ref nw0, .ref tr0, .ref di0, .int (nI ac), .ref ke0, .ref ik0, .ref cp0, .ref cn0, .ref be0])), (rd0, .inl (g 0, 748, .inl rw))] A (f_X8_isRead rw pa)) (by decide) rfl rfl rfl (Nat.le_of_ble_eq_true rfl) ?_
  rintro pp ee s mm below meth cc A ls args Q H locs hQ ⟨hx, hb, hr, hml, hown, hts, hlocks, hin⟩ hP hK hD hA hS hE hl
  have hl : lv_has ls 2 [(0, .ref m0), (1, .int pa)] := hl
  refine lv_iload_n hx hb dX8_isRead_0 rfl (lv_at hl 1 rfl) ?_
  refine lv_aload_n hx hb dX8_isRead_1 rfl (lv_at hl 0 rfl) ?_
  refine va_get (D := D) (ci := 8) (v := .ref rd0) (C := RX8) (T := TX8) (N := 16) hx hb hts (fun w h => (List.mem_cons_of_mem _ (List.mem_append_right _ h))) hown hK hP 0 rfl rfl 6 (by decide) (hts _ qX8_isRead_0) (fun _ h9 => h9) rfl dX8_isRead_2 ?_
  refine lv_iconst (v := 0) hx hb dX8_isRead_5 (by decide) ?_
  refine va_iald (i := 0) hx hb hK hP 1 0 rfl rfl (vp_in_nI (n := 0) (by decide) (by decide)) dX8_isRead_6 ?_
  refine k_top (y := (rw 0)) rfl ?_
  refine lv_icmp_ge (tgt := 14) hx hb dX8_isRead_7 (by decide) (fun c_1 => ?_) (fun c_1 => ?_)
  · refine lv_iconst (v := 0) hx hb dX8_isRead_14 (by decide) ?_
    have hE2 : (f_X8_isRead rw pa) = 0 := by
      exact (if_pos c_1).trans (rfl)
    subst hQ
    exact k_rz hx hb hr hlocks hP hD hS dX8_isRead_15 (by rfl) (hE2.symm) (rfl)
  · refine lv_iconst (v := 1) hx hb dX8_isRead_10 (by decide) ?_
    refine lv_goto (tgt := 15) hx hb dX8_isRead_11 (by decide) ?_
    have hE2 : (f_X8_isRead rw pa) = 1 := by
      exact (if_neg c_1).trans (rfl)
    subst hQ
    exact k_rz hx hb hr hlocks hP hD hS dX8_isRead_15 (by rfl) (hE2.symm) (rfl)
/-- a new part's eight numbers, the first k of them at 0 -/
def clr (rw : Nat → Int32) (mn k : Nat) : Nat → Int32 := fun i => if 1 + 8 * mn ≤ i ∧ i < 1 + 8 * mn + k then 0 else rw i
theorem clr_0 {rw : Nat → Int32} {mn : Nat} : clr rw mn 0 = rw := by
  funext i
  unfold clr
  exact if_neg (fun h => by omega)
theorem clr_s {rw : Nat → Int32} {mn k : Nat} : upd (clr rw mn k) (1 + 8 * mn + k) 0 = clr rw mn (k + 1) := by
  funext i
  unfold upd clr
  by_cases h1 : i = 1 + 8 * mn + k
  · subst h1
    rw [if_pos rfl, if_pos ⟨by omega, by omega⟩]
  · rw [if_neg h1]
    by_cases h2 : 1 + 8 * mn ≤ i ∧ i < 1 + 8 * mn + k
    · rw [if_pos h2, if_pos ⟨h2.1, by omega⟩]
    · rw [if_neg h2, if_neg (fun h3 => h2 ⟨h3.1, by omega⟩)]
def f_X8_addIn (rw : Nat → Int32) (factor : Int32) (more : Int32) (mn : Nat) : (Nat → Int32) :=
  (upd (upd (upd (upd (clr rw mn 8) (1 + 8 * mn + 0) factor) (1 + 8 * mn + 1) more) (1 + 8 * mn + 4) (-10000)) 0 (((clr rw mn 8) 0) + 1))
set_option maxHeartbeats 4000000 in
set_option maxRecDepth 100000 in
theorem c_X8_addIn (l : Launch) (D : va_G) (g : Nat → Nat) (r0 : Nat) (sz : Nat) (rw : Nat → Int32) (factor : Int32) (more : Int32) (mn : Nat) (hmn : rw 0 = nI mn) (hm9 : mn < 10) : kMv l D g yX8_addIn wsX8_addIn 2 0 0 [.ref r0, .int factor, .int more] [(r0, .inl (g 0, 748, .inl rw))] sz [(r0, .inl (g 0, 748, .inl (f_X8_addIn rw factor more mn)))] := by
  refine k_enter (nm := "addIn") (own := RX8) (bytes := cX8_addIn) (maxL := 5) (ret := none) (Qf := fun A => kQv D [(r0, .inl (g 0, 748, .inl (f_X8_addIn rw factor more mn)))] A) (by decide) rfl rfl rfl (Nat.le_of_ble_eq_true rfl) ?_
  rintro pp ee s mm below meth cc A ls args Q H locs hQ ⟨hx, hb, hr, hml, hown, hts, hlocks, hin⟩ hP hK hD hA hS hE hl
  have hl : lv_has ls 5 [(0, .ref r0), (1, .int factor), (2, .int more)] := hl
  refine lv_aload_n hx hb dX8_addIn_0 rfl (lv_at hl 0 rfl) ?_
  refine lv_iconst (v := 0) hx hb dX8_addIn_1 (by decide) ?_
  refine va_iald (i := 0) hx hb hK hP 0 0 rfl rfl (vp_in_nI (n := 0) (by decide) (by decide)) dX8_addIn_2 ?_
  refine k_top (y := (rw 0)) rfl ?_
  refine k_top (y := (nI mn)) (hmn) ?_
  refine lv_istore_n (lv' := [(3, .int (nI mn)), (0, .ref r0), (1, .int factor), (2, .int more)]) hx hb dX8_addIn_3 rfl hl (by decide) rfl (fun ls hl => ?_)
  refine lv_iconst (v := 0) hx hb dX8_addIn_4 (by decide) ?_
  refine lv_istore (lv' := [(4, .int 0), (3, .int (nI mn)), (0, .ref r0), (1, .int factor), (2, .int more)]) hx hb dX8_addIn_5 hl (by decide) rfl (fun ls hl => ?_)
  have hcont_7 : ∀ (H : Heap) (locs : List Loc) (ls : Array Slot), va_P D vwCl [(r0, .inl (g 0, 748, .inl (clr rw mn 8)))] H → va_D A [(r0, .inl (g 0, 748, .inl (clr rw mn 8)))] → va_S A s.heap H locs → lv_has ls 5 [(3, .int (nI mn)), (0, .ref r0), (1, .int factor), (2, .int more)] → W pp l ee (kR 2 0 0) s mm args below meth cc H locs 0 0 Q (F0 mm 29 ls []) := by
    intro H locs ls hP hD hS hl
    refine lv_aload_n hx hb dX8_addIn_29 rfl (lv_at hl 1 rfl) ?_
    refine lv_iload_n hx hb dX8_addIn_30 rfl (lv_at hl 0 rfl) ?_
    refine lv_iconst (v := 0) hx hb dX8_addIn_31 (by decide) ?_
    refine k_ai (wr := [(r0, .inl (g 0, 748, .inl (clr rw mn 8)))]) (w2 := [(r0, .inl (g 0, 748, .inl (clr rw mn 8)))]) (va_runS (As := [.int (nI mn), .int 0]) (rest := [.ref r0]) ⟨hx, hb, hml, hown, hts⟩ (c_X8_partAt l D g H.size mn 0) (va_cwS 2 hts gX8_addIn_X8_partAt rfl rfl rfl (by decide +kernel) (k_lvl (by omega) (by decide))) (kPS hP hD hK hS hA hE [] rfl (by decide)) rfl rfl hl.1 rfl (lv_room (Nat.le_of_ble_eq_true rfl)) dX8_addIn_32 ⟨Nat.le_of_ble_eq_true rfl, Nat.le_of_ble_eq_true rfl⟩) hP hD hS hA [] [0] [0] rfl rfl (by decide) (by decide) rfl (by decide) (fun H locs hP hD hS => ?_)
    refine lv_iload_n hx hb dX8_addIn_35 rfl (lv_at hl 2 rfl) ?_
    refine va_iast (i := (nI (1 + 8 * mn + 0))) (x := factor) hx hb hK hP hD hS 0 0 rfl rfl (vp_in_nI (n := (1 + 8 * mn + 0)) (by omega) (by omega)) dX8_addIn_36 (fun H locs hP hD hS => ?_)
    rw [nI_clamp (n := (1 + 8 * mn + 0)) (by omega)] at hP hD
    have hP : va_P D vwCl [(r0, .inl (g 0, 748, .inl (upd (clr rw mn 8) (1 + 8 * mn + 0) factor)))] H := hP
    have hD : va_D A [(r0, .inl (g 0, 748, .inl (upd (clr rw mn 8) (1 + 8 * mn + 0) factor)))] := hD
    refine lv_aload_n hx hb dX8_addIn_37 rfl (lv_at hl 1 rfl) ?_
    refine lv_iload_n hx hb dX8_addIn_38 rfl (lv_at hl 0 rfl) ?_
    refine lv_iconst (v := 1) hx hb dX8_addIn_39 (by decide) ?_
    refine k_ai (wr := [(r0, .inl (g 0, 748, .inl (upd (clr rw mn 8) (1 + 8 * mn + 0) factor)))]) (w2 := [(r0, .inl (g 0, 748, .inl (upd (clr rw mn 8) (1 + 8 * mn + 0) factor)))]) (va_runS (As := [.int (nI mn), .int 1]) (rest := [.ref r0]) ⟨hx, hb, hml, hown, hts⟩ (c_X8_partAt l D g H.size mn 1) (va_cwS 2 hts gX8_addIn_X8_partAt rfl rfl rfl (by decide +kernel) (k_lvl (by omega) (by decide))) (kPS hP hD hK hS hA hE [] rfl (by decide)) rfl rfl hl.1 rfl (lv_room (Nat.le_of_ble_eq_true rfl)) dX8_addIn_40 ⟨Nat.le_of_ble_eq_true rfl, Nat.le_of_ble_eq_true rfl⟩) hP hD hS hA [] [0] [0] rfl rfl (by decide) (by decide) rfl (by decide) (fun H locs hP hD hS => ?_)
    refine lv_iload_n hx hb dX8_addIn_43 rfl (lv_at hl 3 rfl) ?_
    refine va_iast (i := (nI (1 + 8 * mn + 1))) (x := more) hx hb hK hP hD hS 0 0 rfl rfl (vp_in_nI (n := (1 + 8 * mn + 1)) (by omega) (by omega)) dX8_addIn_44 (fun H locs hP hD hS => ?_)
    rw [nI_clamp (n := (1 + 8 * mn + 1)) (by omega)] at hP hD
    have hP : va_P D vwCl [(r0, .inl (g 0, 748, .inl (upd (upd (clr rw mn 8) (1 + 8 * mn + 0) factor) (1 + 8 * mn + 1) more)))] H := hP
    have hD : va_D A [(r0, .inl (g 0, 748, .inl (upd (upd (clr rw mn 8) (1 + 8 * mn + 0) factor) (1 + 8 * mn + 1) more)))] := hD
    refine lv_aload_n hx hb dX8_addIn_45 rfl (lv_at hl 1 rfl) ?_
    refine lv_iload_n hx hb dX8_addIn_46 rfl (lv_at hl 0 rfl) ?_
    refine lv_iconst (v := 4) hx hb dX8_addIn_47 (by decide) ?_
    refine k_ai (wr := [(r0, .inl (g 0, 748, .inl (upd (upd (clr rw mn 8) (1 + 8 * mn + 0) factor) (1 + 8 * mn + 1) more)))]) (w2 := [(r0, .inl (g 0, 748, .inl (upd (upd (clr rw mn 8) (1 + 8 * mn + 0) factor) (1 + 8 * mn + 1) more)))]) (va_runS (As := [.int (nI mn), .int 4]) (rest := [.ref r0]) ⟨hx, hb, hml, hown, hts⟩ (c_X8_partAt l D g H.size mn 4) (va_cwS 2 hts gX8_addIn_X8_partAt rfl rfl rfl (by decide +kernel) (k_lvl (by omega) (by decide))) (kPS hP hD hK hS hA hE [] rfl (by decide)) rfl rfl hl.1 rfl (lv_room (Nat.le_of_ble_eq_true rfl)) dX8_addIn_48 ⟨Nat.le_of_ble_eq_true rfl, Nat.le_of_ble_eq_true rfl⟩) hP hD hS hA [] [0] [0] rfl rfl (by decide) (by decide) rfl (by decide) (fun H locs hP hD hS => ?_)
    refine lv_sipush (v := (-10000)) hx hb dX8_addIn_51 (by decide) ?_
    refine va_iast (i := (nI (1 + 8 * mn + 4))) (x := (-10000)) hx hb hK hP hD hS 0 0 rfl rfl (vp_in_nI (n := (1 + 8 * mn + 4)) (by omega) (by omega)) dX8_addIn_54 (fun H locs hP hD hS => ?_)
    rw [nI_clamp (n := (1 + 8 * mn + 4)) (by omega)] at hP hD
    have hP : va_P D vwCl [(r0, .inl (g 0, 748, .inl (upd (upd (upd (clr rw mn 8) (1 + 8 * mn + 0) factor) (1 + 8 * mn + 1) more) (1 + 8 * mn + 4) (-10000))))] H := hP
    have hD : va_D A [(r0, .inl (g 0, 748, .inl (upd (upd (upd (clr rw mn 8) (1 + 8 * mn + 0) factor) (1 + 8 * mn + 1) more) (1 + 8 * mn + 4) (-10000))))] := hD
    refine lv_aload_n hx hb dX8_addIn_55 rfl (lv_at hl 1 rfl) ?_
    refine lv_iconst (v := 0) hx hb dX8_addIn_56 (by decide) ?_
    refine lv_dup2_11 hx hb dX8_addIn_57 rfl rfl ?_
    refine va_iald (i := 0) hx hb hK hP 0 0 rfl rfl (vp_in_nI (n := 0) (by decide) (by decide)) dX8_addIn_58 ?_
    refine k_top (y := ((upd (upd (upd (clr rw mn 8) (1 + 8 * mn + 0) factor) (1 + 8 * mn + 1) more) (1 + 8 * mn + 4) (-10000)) 0)) rfl ?_
    refine k_top (y := ((clr rw mn 8) 0)) (by rw [pk_un (k := (1 + 8 * mn + 4)) (j := 0) (by omega), pk_un (k := (1 + 8 * mn + 1)) (j := 0) (by omega), pk_un (k := (1 + 8 * mn + 0)) (j := 0) (by omega)]) ?_
    refine lv_iconst (v := 1) hx hb dX8_addIn_59 (by decide) ?_
    refine lv_iadd hx hb dX8_addIn_60 ?_
    refine va_iast (i := 0) (x := (((clr rw mn 8) 0) + 1)) hx hb hK hP hD hS 0 0 rfl rfl (vp_in_nI (n := 0) (by decide) (by decide)) dX8_addIn_61 (fun H locs hP hD hS => ?_)
    have hP : va_P D vwCl [(r0, .inl (g 0, 748, .inl (upd (upd (upd (upd (clr rw mn 8) (1 + 8 * mn + 0) factor) (1 + 8 * mn + 1) more) (1 + 8 * mn + 4) (-10000)) 0 (((clr rw mn 8) 0) + 1))))] H := hP
    have hD : va_D A [(r0, .inl (g 0, 748, .inl (upd (upd (upd (upd (clr rw mn 8) (1 + 8 * mn + 0) factor) (1 + 8 * mn + 1) more) (1 + 8 * mn + 4) (-10000)) 0 (((clr rw mn 8) 0) + 1))))] := hD
    have hE2 : (f_X8_addIn rw factor more mn) = (upd (upd (upd (upd (clr rw mn 8) (1 + 8 * mn + 0) factor) (1 + 8 * mn + 1) more) (1 + 8 * mn + 4) (-10000)) 0 (((clr rw mn 8) 0) + 1)) := by
      exact rfl
    subst hQ
    exact k_rv hx hb hr hlocks hP hD hS dX8_addIn_62 (by rw [hE2])
  have hloop_7 : ∀ (nn_7 : Nat) (k : Nat) (cf : Nat → Int32), 8 - k < nn_7 → ∀ (hk : k ≤ 8) (hc : cf = clr rw mn k) (H : Heap) (locs : List Loc) (ls : Array Slot), va_P D vwCl [(r0, .inl (g 0, 748, .inl cf))] H → va_D A [(r0, .inl (g 0, 748, .inl cf))] → va_S A s.heap H locs → lv_has ls 5 [(4, .int (nI k)), (3, .int (nI mn)), (0, .ref r0), (1, .int factor), (2, .int more)] → W pp l ee (kR 2 0 0) s mm args below meth cc H locs 0 0 Q (F0 mm 7 ls []) := by
    intro nn_7
    induction nn_7 with
    | zero => intro k cf hm9; exact absurd hm9 (Nat.not_lt_zero _)
    | succ nn_7 ih_7 =>
      intro k cf hm_7 hk hc H locs ls hP hD hS hl
      refine lv_iload hx hb dX8_addIn_7 (lv_at hl 0 rfl) ?_
      refine lv_bipush (v := 8) hx hb dX8_addIn_9 (by decide) ?_
      refine lv_icmp_ge (tgt := 29) hx hb dX8_addIn_11 (by decide) (fun c_1 => ?_) (fun c_1 => ?_)
      · have c_1 : 8 ≤ k := (nI_leI (a := 8) (b := k) (by omega) (by omega)).mp c_1
        obtain rfl : k = 8 := by omega
        subst hc
        exact hcont_7 H locs ls hP hD hS (lv_sub hl [1, 2, 3, 4] rfl)
      · have c_1 : ¬ (8 ≤ k) := fun h9 => c_1 ((nI_leI (a := 8) (b := k) (by omega) (by omega)).mpr h9)
        refine lv_aload_n hx hb dX8_addIn_14 rfl (lv_at hl 2 rfl) ?_
        refine lv_iload_n hx hb dX8_addIn_15 rfl (lv_at hl 1 rfl) ?_
        refine lv_iload hx hb dX8_addIn_16 (lv_at hl 0 rfl) ?_
        refine k_ai (wr := [(r0, .inl (g 0, 748, .inl cf))]) (w2 := [(r0, .inl (g 0, 748, .inl cf))]) (va_runS (As := [.int (nI mn), .int (nI k)]) (rest := [.ref r0]) ⟨hx, hb, hml, hown, hts⟩ (c_X8_partAt l D g H.size mn k) (va_cwS 2 hts gX8_addIn_X8_partAt rfl rfl rfl (by decide +kernel) (k_lvl (by omega) (by decide))) (kPS hP hD hK hS hA hE [] rfl (by decide)) rfl rfl hl.1 rfl (lv_room (Nat.le_of_ble_eq_true rfl)) dX8_addIn_18 ⟨Nat.le_of_ble_eq_true rfl, Nat.le_of_ble_eq_true rfl⟩) hP hD hS hA [] [0] [0] rfl rfl (by decide) (by decide) rfl (by decide) (fun H locs hP hD hS => ?_)
        refine lv_iconst (v := 0) hx hb dX8_addIn_21 (by decide) ?_
        refine va_iast (i := (nI (1 + 8 * mn + k))) (x := 0) hx hb hK hP hD hS 0 0 rfl rfl (vp_in_nI (n := (1 + 8 * mn + k)) (by omega) (by omega)) dX8_addIn_22 (fun H locs hP hD hS => ?_)
        rw [nI_clamp (n := (1 + 8 * mn + k)) (by omega)] at hP hD
        have hP : va_P D vwCl [(r0, .inl (g 0, 748, .inl (upd cf (1 + 8 * mn + k) 0)))] H := hP
        have hD : va_D A [(r0, .inl (g 0, 748, .inl (upd cf (1 + 8 * mn + k) 0)))] := hD
        refine lv_iinc (v := (nI (k + 1))) (lv' := [(4, .int (nI (k + 1))), (3, .int (nI mn)), (0, .ref r0), (1, .int factor), (2, .int more)]) hx hb dX8_addIn_23 hl (k := 0) rfl (nI_1 _) (by decide) rfl (fun ls hl => ?_)
        refine lv_goto (tgt := 7) hx hb dX8_addIn_26 (by decide) ?_
        exact ih_7 (k + 1) (upd cf (1 + 8 * mn + k) 0) (by omega) (by omega) (by rw [hc]; exact clr_s) H locs ls hP hD hS (lv_sub hl [0, 1, 2, 3, 4] rfl)
  exact hloop_7 ((8 - 0) + 1) 0 rw (Nat.lt_succ_self _) (by omega) clr_0.symm H locs ls hP hD hS (lv_sub hl [0, 1, 2, 3, 4] rfl)
/-- how many contracts stand in the first k places of a side -/
def rRow (rw : Nat → Int32) (sd : Nat) : Nat → Int32
  | 0 => 0
  | k + 1 => rRow rw sd k + rw (81 + 5 * (10 * sd + k) + 0)
def rCnt (rw : Nat → Int32) (mn fr : Nat) : Nat → Int32
  | 0 => 0
  | k + 1 => rCnt rw mn fr k + rRow rw (fr + k) mn
set_option maxHeartbeats 4000000 in
set_option maxRecDepth 100000 in
theorem c_X8_contracts (l : Launch) (D : va_G) (g : Nat → Nat) (r0 : Nat) (sz : Nat) (rw : Nat → Int32) (fr : Nat) (to : Nat) (mn : Nat) (hmn : rw 0 = nI mn) (hm9 : mn ≤ 10) (hft : fr ≤ to) (hto : to < 12) : kMi l D g yX8_contracts wsX8_contracts 2 0 0 [.ref r0, .int (nI fr), .int (nI to)] [(r0, .inl (g 0, 748, .inl rw))] sz (rCnt rw mn fr (to + 1 - fr)) [(r0, .inl (g 0, 748, .inl rw))] := by
  refine k_enter (nm := "contracts") (own := RX8) (bytes := cX8_contracts) (maxL := 6) (ret := (some .int)) (Qf := fun A => kQi D [(r0, .inl (g 0, 748, .inl rw))] A (rCnt rw mn fr (to + 1 - fr))) (by decide) rfl rfl rfl (Nat.le_of_ble_eq_true rfl) ?_
  rintro pp ee s mm below meth cc A ls args Q H locs hQ ⟨hx, hb, hr, hml, hown, hts, hlocks, hin⟩ hP hK hD hA hS hE hl
  have hl : lv_has ls 6 [(0, .ref r0), (1, .int (nI fr)), (2, .int (nI to))] := hl
  refine lv_iconst (v := 0) hx hb dX8_contracts_0 (by decide) ?_
  refine lv_istore_n (lv' := [(3, .int 0), (0, .ref r0), (1, .int (nI fr)), (2, .int (nI to))]) hx hb dX8_contracts_1 rfl hl (by decide) rfl (fun ls hl => ?_)
  refine lv_iload_n hx hb dX8_contracts_2 rfl (lv_at hl 2 rfl) ?_
  refine lv_istore (lv' := [(4, .int (nI fr)), (3, .int 0), (0, .ref r0), (1, .int (nI fr)), (2, .int (nI to))]) hx hb dX8_contracts_3 hl (by decide) rfl (fun ls hl => ?_)
  have hloop_5 : ∀ (nn_5 : Nat) (sd : Nat) (a : Int32), to + 1 - sd < nn_5 → ∀ (hs1 : fr ≤ sd) (hs2 : sd ≤ to + 1) (ha : a = rCnt rw mn fr (sd - fr)) (H : Heap) (locs : List Loc) (ls : Array Slot), va_P D vwCl [(r0, .inl (g 0, 748, .inl rw))] H → va_D A [(r0, .inl (g 0, 748, .inl rw))] → va_S A s.heap H locs → lv_has ls 6 [(4, .int (nI sd)), (3, .int a), (0, .ref r0), (1, .int (nI fr)), (2, .int (nI to))] → W pp l ee (kR 2 0 0) s mm args below meth cc H locs 0 0 Q (F0 mm 5 ls []) := by
    intro nn_5
    induction nn_5 with
    | zero => intro sd a hm9; exact absurd hm9 (Nat.not_lt_zero _)
    | succ nn_5 ih_5 =>
      intro sd a hm_5 hs1 hs2 ha H locs ls hP hD hS hl
      refine lv_iload hx hb dX8_contracts_5 (lv_at hl 0 rfl) ?_
      refine lv_iload_n hx hb dX8_contracts_7 rfl (lv_at hl 4 rfl) ?_
      refine lv_icmp_gt (tgt := 47) hx hb dX8_contracts_8 (by decide) (fun c_1 => ?_) (fun c_1 => ?_)
      · have c_1 : to < sd := (nI_ltI (a := to) (b := sd) (by omega) (by omega)).mp c_1
        refine lv_iload_n hx hb dX8_contracts_47 rfl (lv_at hl 1 rfl) ?_
        subst hQ
        exact k_ri hx hb hr hlocks hP hD hS dX8_contracts_48 (by rw [ha, show sd = to + 1 by omega]) (rfl)
      · have c_1 : ¬ (to < sd) := fun h9 => c_1 ((nI_ltI (a := to) (b := sd) (by omega) (by omega)).mpr h9)
        refine lv_iconst (v := 0) hx hb dX8_contracts_11 (by decide) ?_
        refine lv_istore (lv' := [(5, .int 0), (4, .int (nI sd)), (3, .int a), (0, .ref r0), (1, .int (nI fr)), (2, .int (nI to))]) hx hb dX8_contracts_12 hl (by decide) rfl (fun ls hl => ?_)
        have hloop_14 : ∀ (nn_14 : Nat) (k : Nat) (b : Int32), mn - k < nn_14 → ∀ (hk : k ≤ mn) (hb9 : b = a + rRow rw sd k) (H : Heap) (locs : List Loc) (ls : Array Slot), va_P D vwCl [(r0, .inl (g 0, 748, .inl rw))] H → va_D A [(r0, .inl (g 0, 748, .inl rw))] → va_S A s.heap H locs → lv_has ls 6 [(5, .int (nI k)), (3, .int b), (4, .int (nI sd)), (0, .ref r0), (1, .int (nI fr)), (2, .int (nI to))] → W pp l ee (kR 2 0 0) s mm args below meth cc H locs 0 0 Q (F0 mm 14 ls []) := by
          intro nn_14
          induction nn_14 with
          | zero => intro k b hm9; exact absurd hm9 (Nat.not_lt_zero _)
          | succ nn_14 ih_14 =>
            intro k b hm_14 hk hb9 H locs ls hP hD hS hl
            refine lv_iload hx hb dX8_contracts_14 (lv_at hl 0 rfl) ?_
            refine lv_aload_n hx hb dX8_contracts_16 rfl (lv_at hl 3 rfl) ?_
            refine lv_iconst (v := 0) hx hb dX8_contracts_17 (by decide) ?_
            refine va_iald (i := 0) hx hb hK hP 0 0 rfl rfl (vp_in_nI (n := 0) (by decide) (by decide)) dX8_contracts_18 ?_
            refine k_top (y := (rw 0)) rfl ?_
            refine k_top (y := (nI mn)) (hmn) ?_
            refine lv_icmp_ge (tgt := 41) hx hb dX8_contracts_19 (by decide) (fun c_2 => ?_) (fun c_2 => ?_)
            · have c_2 : mn ≤ k := (nI_leI (a := mn) (b := k) (by omega) (by omega)).mp c_2
              refine lv_iinc (v := (nI (sd + 1))) (lv' := [(4, .int (nI (sd + 1))), (5, .int (nI k)), (3, .int b), (0, .ref r0), (1, .int (nI fr)), (2, .int (nI to))]) hx hb dX8_contracts_41 hl (k := 2) rfl (nI_1 _) (by decide) rfl (fun ls hl => ?_)
              refine lv_goto (tgt := 5) hx hb dX8_contracts_44 (by decide) ?_
              exact ih_5 (sd + 1) b (by omega) (by omega) (by omega) (by rw [show sd + 1 - fr = (sd - fr) + 1 by omega, rCnt, hb9, ha, show k = mn by omega, show fr + (sd - fr) = sd by omega]) H locs ls hP hD hS (lv_sub hl [0, 2, 3, 4, 5] rfl)
            · have c_2 : ¬ (mn ≤ k) := fun h9 => c_2 ((nI_leI (a := mn) (b := k) (by omega) (by omega)).mpr h9)
              refine lv_iload_n hx hb dX8_contracts_22 rfl (lv_at hl 1 rfl) ?_
              refine lv_aload_n hx hb dX8_contracts_23 rfl (lv_at hl 3 rfl) ?_
              refine lv_iload hx hb dX8_contracts_24 (lv_at hl 2 rfl) ?_
              refine lv_iload hx hb dX8_contracts_26 (lv_at hl 0 rfl) ?_
              refine lv_iconst (v := 0) hx hb dX8_contracts_28 (by decide) ?_
              refine k_ai (wr := [(r0, .inl (g 0, 748, .inl rw))]) (w2 := [(r0, .inl (g 0, 748, .inl rw))]) (va_runS (As := [.int (nI sd), .int (nI k), .int 0]) (rest := [.ref r0, .int b]) ⟨hx, hb, hml, hown, hts⟩ (c_X8_contractAt l D g H.size sd k 0) (va_cwS 3 hts gX8_contracts_X8_contractAt rfl rfl rfl (by decide +kernel) (k_lvl (by omega) (by decide))) (kPS hP hD hK hS hA hE [] rfl (by decide)) rfl rfl hl.1 rfl (lv_room (Nat.le_of_ble_eq_true rfl)) dX8_contracts_29 ⟨Nat.le_of_ble_eq_true rfl, Nat.le_of_ble_eq_true rfl⟩) hP hD hS hA [] [0] [0] rfl rfl (by decide) (by decide) rfl (by decide) (fun H locs hP hD hS => ?_)
              refine va_iald (i := (nI (81 + 5 * (10 * sd + k) + 0))) hx hb hK hP 0 0 rfl rfl (vp_in_nI (n := (81 + 5 * (10 * sd + k) + 0)) (by omega) (by omega)) dX8_contracts_32 ?_
              refine k_top (y := (rw (81 + 5 * (10 * sd + k) + 0))) (by rw [nI_clamp (by omega)]) ?_
              refine lv_iadd hx hb dX8_contracts_33 ?_
              refine lv_istore_n (lv' := [(3, .int (b + (rw (81 + 5 * (10 * sd + k) + 0)))), (5, .int (nI k)), (4, .int (nI sd)), (0, .ref r0), (1, .int (nI fr)), (2, .int (nI to))]) hx hb dX8_contracts_34 rfl hl (by decide) rfl (fun ls hl => ?_)
              refine lv_iinc (v := (nI (k + 1))) (lv' := [(5, .int (nI (k + 1))), (3, .int (b + (rw (81 + 5 * (10 * sd + k) + 0)))), (4, .int (nI sd)), (0, .ref r0), (1, .int (nI fr)), (2, .int (nI to))]) hx hb dX8_contracts_35 hl (k := 1) rfl (nI_1 _) (by decide) rfl (fun ls hl => ?_)
              refine lv_goto (tgt := 14) hx hb dX8_contracts_38 (by decide) ?_
              exact ih_14 (k + 1) (b + (rw (81 + 5 * (10 * sd + k) + 0))) (by omega) (by omega) (by rw [rRow, hb9, Int32.add_assoc]) H locs ls hP hD hS (lv_sub hl [0, 1, 2, 3, 4, 5] rfl)
        exact hloop_14 ((mn - 0) + 1) 0 a (Nat.lt_succ_self _) (by omega) (by rw [rRow]; exact (Int32.add_zero _).symm) H locs ls hP hD hS (lv_sub hl [0, 2, 1, 3, 4, 5] rfl)
  exact hloop_5 ((to + 1 - fr) + 1) fr 0 (Nat.lt_succ_self _) (by omega) (by omega) (by rw [Nat.sub_self]; rfl) H locs ls hP hD hS (lv_sub hl [0, 1, 2, 3, 4] rfl)
