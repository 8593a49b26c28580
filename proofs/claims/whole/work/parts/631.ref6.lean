-- MODULE: the reference, its methods, 6
noncomputable section
/-- what chain answers before it does anything: 0, or which of its exceptions is thrown -/
def kc_X8_chain (nw : Nat → Int32) (pa : Int32) (next : Int32) (step : Int32) : Int32 :=
  if next = (-10000) then
    if (f_X8_isSmall step) = 0 then
      if (f_X8_isPart nw pa) = 0 then
        1
      else
        2
    else
      if (f_X8_isPart nw pa) = 0 then
        1
      else
        0
  else
    if (f_X8_isPart nw pa) = 0 then
      if (f_X8_in (Int32.toInt64 next) 0 (-1)) = 0 then
        1
      else
        if (f_X8_isSmall step) = 0 then
          1
        else
          1
    else
      if (f_X8_in (Int32.toInt64 next) 0 (Int32.toInt64 (pa - 1))) = 0 then
        2
      else
        if (f_X8_isSmall step) = 0 then
          2
        else
          0
def f_X8_chain (ac : Nat) (nw : Nat → Int32) (di : Nat → Int32) (pa : Int32) (next : Int32) (step : Int32) : Int32 × Nat × (Nat → Int32) × (Nat → Int32) :=
  let mn_0 := (nw 0).toNatClampNeg
  let pa_0 := pa.toNatClampNeg
  let v_8 := (f_X8_remember ac nw di)
  let v_24 := (f_X8_remember ac nw di)
  if next = (-10000) then
    ((nI (rLen (f_X8_chainIn nw pa_0 next step) 10 ((f_X8_chainIn nw pa_0 next step) (1 + 8 * pa_0 + 2)).toNatClampNeg 1)), v_8.1, v_8.2, (f_X8_chainIn nw pa_0 next step))
  else
    ((nI (rLen (f_X8_chainIn nw pa_0 next step) 10 ((f_X8_chainIn nw pa_0 next step) (1 + 8 * pa_0 + 2)).toNatClampNeg 1)), v_24.1, v_24.2, (f_X8_chainIn nw pa_0 next step))
theorem qX8_chain_0 : Cond.fieldLink RX8 16 "BlameChainsModel" "now" "[I" ∈ wsX8_chain := (List.mem_cons_of_mem _ (List.mem_append_left _ (List.mem_append_left _ (List.mem_of_getElem? (i := 1) rfl))))
theorem qX8_chain_1 : Cond.constantLong RX8 216 (-1) ∈ wsX8_chain := (List.mem_cons_of_mem _ (List.mem_append_left _ (List.mem_append_left _ (List.mem_of_getElem? (i := 0) rfl))))
set_option maxHeartbeats 4000000 in
set_option maxRecDepth 100000 in
theorem c_X8_chain (l : Launch) (D : va_G) (g : Nat → Nat) (m0 sc0 rd0 nw0 tr0 di0 ke0 ik0 cp0 cn0 be0 : Nat) (sz : Nat) (rf : Int32) (ss : Nat) (sp : Nat) (ig : Int32) (lo : Int32) (ac : Nat) (nw : Nat → Int32) (di : Nat → Int32) (pa : Int32) (next : Int32) (step : Int32) (hO : rdOk nw) (hac : ac ≤ 14) (hk : (kc_X8_chain nw pa next step) = 0) : kMi l D g yX8_chain wsX8_chain 4 0 0 [.ref m0, .int pa, .int next, .int step] [(m0, .inr (8, [.int rf, .ref sc0, .int (nI ss), .int (nI sp), .int ig, .int lo, .ref rd0, .ref nw0, .ref tr0, .ref di0, .int (nI ac), .ref ke0, .ref ik0, .ref cp0, .ref cn0, .ref be0])), (nw0, .inl (g 0, 748, .inl nw)), (di0, .inl (g 0, 10472, .inl di))] sz ((f_X8_chain ac nw di pa next step).1) [(m0, .inr (8, [.int 0, .ref sc0, .int (nI ss), .int (nI sp), .int ig, .int lo, .ref rd0, .ref nw0, .ref tr0, .ref di0, .int (nI ((f_X8_chain ac nw di pa next step).2.1)), .ref ke0, .ref ik0, .ref cp0, .ref cn0, .ref be0])), (nw0, .inl (g 0, 748, .inl ((f_X8_chain ac nw di pa next step).2.2.2))), (di0, .inl (g 0, 10472, .inl ((f_X8_chain ac nw di pa next step).2.2.1)))] := by
  refine k_enter (nm := "chain") (own := RX8) (bytes := cX8_chain) (maxL := 5) (ret := (some .int)) (Qf := fun A => kQi D [(m0, .inr (8, [.int 0, .ref sc0, .int (nI ss), .int (nI sp), .int ig, .int lo, .ref rd0, .ref nw0, .ref tr0, .ref di0, .int (nI ((f_X8_chain ac nw di pa next step).2.1)), .ref ke0, .ref ik0, .ref cp0, .ref cn0, .ref be0])), (nw0, .inl (g 0, 748, .inl ((f_X8_chain ac nw di pa next step).2.2.2))), (di0, .inl (g 0, 10472, .inl ((f_X8_chain ac nw di pa next step).2.2.1)))] A ((f_X8_chain ac nw di pa next step).1)) (by decide) rfl rfl rfl (Nat.le_of_ble_eq_true rfl) ?_
  rintro pp ee s mm below meth cc A ls args Q H locs hQ ⟨hx, hb, hr, hml, hown, hts, hlocks, hin⟩ hP hK hD hA hS hE hl
  have hl : lv_has ls 5 [(0, .ref m0), (1, .int pa), (2, .int next), (3, .int step)] := hl
  obtain ⟨mn_0, emn_0⟩ : ∃ z, z = (nw 0).toNatClampNeg := ⟨_, rfl⟩
  have hmn : nw 0 = nI mn_0 := by rw [emn_0]; exact (rdOk_mn hO).1
  have hm9 : mn_0 ≤ 10 := by rw [emn_0]; exact (rdOk_mn hO).2
  have kemn_0 : kEq mn_0 (nw 0).toNatClampNeg := emn_0
  clear emn_0
  refine lv_iload_n hx hb dX8_chain_0 rfl (lv_at hl 2 rfl) ?_
  refine lv_sipush (v := (-10000)) hx hb dX8_chain_1 (by decide) ?_
  refine lv_icmp_eq (tgt := 34) hx hb dX8_chain_4 (by decide) (fun c_1 => ?_) (fun c_1 => ?_)
  · refine lv_iload_n hx hb dX8_chain_34 rfl (lv_at hl 3 rfl) ?_
    refine k_ai (wr := [(m0, .inr (8, [.int rf, .ref sc0, .int (nI ss), .int (nI sp), .int ig, .int lo, .ref rd0, .ref nw0, .ref tr0, .ref di0, .int (nI ac), .ref ke0, .ref ik0, .ref cp0, .ref cn0, .ref be0])), (nw0, .inl (g 0, 748, .inl nw)), (di0, .inl (g 0, 10472, .inl di))]) (w2 := [(m0, .inr (8, [.int rf, .ref sc0, .int (nI ss), .int (nI sp), .int ig, .int lo, .ref rd0, .ref nw0, .ref tr0, .ref di0, .int (nI ac), .ref ke0, .ref ik0, .ref cp0, .ref cn0, .ref be0])), (nw0, .inl (g 0, 748, .inl nw)), (di0, .inl (g 0, 10472, .inl di))]) (va_runS (As := [.int step]) (rest := []) ⟨hx, hb, hml, hown, hts⟩ (c_X8_isSmall l D g H.size step) (va_cwS 1 hts gX8_chain_X8_isSmall rfl rfl rfl (by decide +kernel) (k_lvl (by omega) (by decide))) (kPS hP hD hK hS hA hE [] rfl (by decide)) rfl rfl hl.1 rfl (lv_room (Nat.le_of_ble_eq_true rfl)) dX8_chain_35 ⟨Nat.le_of_ble_eq_true rfl, Nat.le_of_ble_eq_true rfl⟩) hP hD hS hA [] [0, 1, 2] [0, 1, 2] rfl rfl (by decide) (by decide) rfl (by decide) (fun H locs hP hD hS => ?_)
    refine lv_if_eq (tgt := 45) hx hb dX8_chain_38 (by decide) (fun c_2 => ?_) (fun c_2 => ?_)
    · refine lv_iconst (v := 0) hx hb dX8_chain_45 (by decide) ?_
      refine lv_istore (lv' := [(4, .int 0), (0, .ref m0), (1, .int pa), (2, .int next), (3, .int step)]) hx hb dX8_chain_46 hl (by decide) rfl (fun ls hl => ?_)
      refine lv_aload_n hx hb dX8_chain_48 rfl (lv_at hl 1 rfl) ?_
      refine lv_aload_n hx hb dX8_chain_49 rfl (lv_at hl 1 rfl) ?_
      refine lv_iload_n hx hb dX8_chain_50 rfl (lv_at hl 2 rfl) ?_
      refine k_ai (wr := [(di0, .inl (g 0, 10472, .inl di))]) (w2 := [(m0, .inr (8, [.int rf, .ref sc0, .int (nI ss), .int (nI sp), .int ig, .int lo, .ref rd0, .ref nw0, .ref tr0, .ref di0, .int (nI ac), .ref ke0, .ref ik0, .ref cp0, .ref cn0, .ref be0])), (nw0, .inl (g 0, 748, .inl nw)), (di0, .inl (g 0, 10472, .inl di))]) (va_runV (As := [.int pa]) (rest := [.ref m0]) ⟨hx, hb, hml, hown, hts⟩ (c_X8_isPart l D g m0 sc0 rd0 nw0 tr0 di0 ke0 ik0 cp0 cn0 be0 H.size rf ss sp ig lo ac nw pa) (cwV 1 hts gX8_chain_X8_isPart rfl rfl rfl (by decide +kernel) (k_lvl (by omega) (by decide))) (kPV hP hD hK hS hA hE [0, 1] rfl (by decide) 0 8 rfl rfl rfl) rfl rfl hl.1 rfl (lv_room (Nat.le_of_ble_eq_true rfl)) dX8_chain_51 ⟨Nat.le_of_ble_eq_true rfl, Nat.le_of_ble_eq_true rfl⟩) hP hD hS hA [0, 1] [2] [1, 2, 0] rfl rfl (by decide) (by decide) rfl (by decide) (fun H locs hP hD hS => ?_)
      refine lv_if_ne (tgt := 61) hx hb dX8_chain_54 (by decide) (fun c_3 => ?_) (fun c_3 => ?_)
      · refine lv_iload hx hb dX8_chain_61 (lv_at hl 0 rfl) ?_
        refine lv_if_eq (tgt := 70) hx hb dX8_chain_63 (by decide) (fun _ => ?_) (fun c_4 => absurd c_4 (by decide))
        refine lv_iconst (v := 2) hx hb dX8_chain_70 (by decide) ?_
        have emn_0 : (nw 0).toNatClampNeg = mn_0 := Eq.symm kemn_0
        subst emn_0
        have h9 : (kc_X8_chain nw pa next step) = 2 := (if_pos c_1).trans ((if_pos c_2).trans ((if_neg c_3).trans (rfl)))
        rw [hk] at h9
        exact absurd h9 (by decide)
      · refine lv_iconst (v := 1) hx hb dX8_chain_57 (by decide) ?_
        refine lv_goto (tgt := 71) hx hb dX8_chain_58 (by decide) ?_
        have emn_0 : (nw 0).toNatClampNeg = mn_0 := Eq.symm kemn_0
        subst emn_0
        have h9 : (kc_X8_chain nw pa next step) = 1 := (if_pos c_1).trans ((if_pos c_2).trans ((if_pos c_3).trans (rfl)))
        rw [hk] at h9
        exact absurd h9 (by decide)
    · refine lv_iconst (v := 1) hx hb dX8_chain_41 (by decide) ?_
      refine lv_goto (tgt := 46) hx hb dX8_chain_42 (by decide) ?_
      refine lv_istore (lv' := [(4, .int 1), (0, .ref m0), (1, .int pa), (2, .int next), (3, .int step)]) hx hb dX8_chain_46 hl (by decide) rfl (fun ls hl => ?_)
      refine lv_aload_n hx hb dX8_chain_48 rfl (lv_at hl 1 rfl) ?_
      refine lv_aload_n hx hb dX8_chain_49 rfl (lv_at hl 1 rfl) ?_
      refine lv_iload_n hx hb dX8_chain_50 rfl (lv_at hl 2 rfl) ?_
      refine k_ai (wr := [(di0, .inl (g 0, 10472, .inl di))]) (w2 := [(m0, .inr (8, [.int rf, .ref sc0, .int (nI ss), .int (nI sp), .int ig, .int lo, .ref rd0, .ref nw0, .ref tr0, .ref di0, .int (nI ac), .ref ke0, .ref ik0, .ref cp0, .ref cn0, .ref be0])), (nw0, .inl (g 0, 748, .inl nw)), (di0, .inl (g 0, 10472, .inl di))]) (va_runV (As := [.int pa]) (rest := [.ref m0]) ⟨hx, hb, hml, hown, hts⟩ (c_X8_isPart l D g m0 sc0 rd0 nw0 tr0 di0 ke0 ik0 cp0 cn0 be0 H.size rf ss sp ig lo ac nw pa) (cwV 1 hts gX8_chain_X8_isPart rfl rfl rfl (by decide +kernel) (k_lvl (by omega) (by decide))) (kPV hP hD hK hS hA hE [0, 1] rfl (by decide) 0 8 rfl rfl rfl) rfl rfl hl.1 rfl (lv_room (Nat.le_of_ble_eq_true rfl)) dX8_chain_51 ⟨Nat.le_of_ble_eq_true rfl, Nat.le_of_ble_eq_true rfl⟩) hP hD hS hA [0, 1] [2] [1, 2, 0] rfl rfl (by decide) (by decide) rfl (by decide) (fun H locs hP hD hS => ?_)
      refine lv_if_ne (tgt := 61) hx hb dX8_chain_54 (by decide) (fun c_5 => ?_) (fun c_5 => ?_)
      · refine lv_iload hx hb dX8_chain_61 (lv_at hl 0 rfl) ?_
        refine lv_if_eq (tgt := 70) hx hb dX8_chain_63 (by decide) (fun c_6 => absurd c_6 (by decide)) (fun _ => ?_)
        refine lv_iconst (v := 0) hx hb dX8_chain_66 (by decide) ?_
        refine lv_goto (tgt := 71) hx hb dX8_chain_67 (by decide) ?_
        refine k_ai (wr := [(nw0, .inl (g 0, 748, .inl nw)), (di0, .inl (g 0, 10472, .inl di))]) (w2 := [(m0, .inr (8, [.int 0, .ref sc0, .int (nI ss), .int (nI sp), .int ig, .int lo, .ref rd0, .ref nw0, .ref tr0, .ref di0, .int (nI ac), .ref ke0, .ref ik0, .ref cp0, .ref cn0, .ref be0])), (nw0, .inl (g 0, 748, .inl nw)), (di0, .inl (g 0, 10472, .inl di))]) (va_runV (As := [.int 0]) (rest := []) ⟨hx, hb, hml, hown, hts⟩ (c_X8_refused0 l D g m0 sc0 rd0 nw0 tr0 di0 ke0 ik0 cp0 cn0 be0 H.size rf ss sp ig lo ac) (cwV 1 hts gX8_chain_X8_refused rfl rfl rfl (by decide +kernel) (k_lvl (by omega) (by decide))) (kPV hP hD hK hS hA hE [0] rfl (by decide) 0 8 rfl rfl rfl) rfl rfl hl.1 rfl (lv_room (Nat.le_of_ble_eq_true rfl)) dX8_chain_71 ⟨Nat.le_of_ble_eq_true rfl, Nat.le_of_ble_eq_true rfl⟩) hP hD hS hA [0] [1, 2] [2, 0, 1] rfl rfl (by decide) (by decide) rfl (by decide) (fun H locs hP hD hS => ?_)
        refine lv_if_eq (tgt := 79) hx hb dX8_chain_74 (by decide) (fun _ => ?_) (fun c_7 => absurd c_7 (by decide))
        obtain ⟨pa_0, epa_0⟩ : ∃ z, z = pa.toNatClampNeg := ⟨_, rfl⟩
        have qpa_0 : pa = nI pa_0 := by rw [epa_0]; exact (isPart_N c_5 hmn hm9).1
        have bpa_0 : pa_0 < mn_0 := by rw [epa_0]; exact (isPart_N c_5 hmn hm9).2
        have kepa_0 : kEq pa_0 pa.toNatClampNeg := epa_0
        clear epa_0
        have hl : lv_has ls 5 [(4, .int 1), (0, .ref m0), (1, .int (nI pa_0)), (2, .int next), (3, .int step)] := by
          have h9 := hl
          rw [qpa_0] at h9
          exact h9
        refine lv_aload_n hx hb dX8_chain_79 rfl (lv_at hl 1 rfl) ?_
        have hC := c_X8_remember l D g m0 sc0 rd0 nw0 tr0 di0 ke0 ik0 cp0 cn0 be0 H.size 0 ss sp ig lo ac nw di (by omega)
        obtain ⟨v_8, ev_8⟩ : ∃ z, z = (f_X8_remember ac nw di) := ⟨_, rfl⟩
        rw [← ev_8] at hC
        have kev_8 : kEq v_8 (f_X8_remember ac nw di) := ev_8
        clear ev_8
        refine k_av (wr := []) (w2 := [(m0, .inr (8, [.int 0, .ref sc0, .int (nI ss), .int (nI sp), .int ig, .int lo, .ref rd0, .ref nw0, .ref tr0, .ref di0, .int (nI v_8.1), .ref ke0, .ref ik0, .ref cp0, .ref cn0, .ref be0])), (nw0, .inl (g 0, 748, .inl nw)), (di0, .inl (g 0, 10472, .inl v_8.2))]) (va_runV (As := []) (rest := []) ⟨hx, hb, hml, hown, hts⟩ hC (cwV 0 hts gX8_chain_X8_remember rfl rfl rfl (by decide +kernel) (k_lvl (by omega) (by decide))) (kPV hP hD hK hS hA hE [0, 1, 2] rfl (by decide) 0 8 rfl rfl rfl) rfl rfl hl.1 rfl (lv_room (Nat.le_of_ble_eq_true rfl)) dX8_chain_80 ⟨Nat.le_of_ble_eq_true rfl, Nat.le_of_ble_eq_true rfl⟩) hP hD hS hA [0, 1, 2] [] [0, 1, 2] rfl rfl (by decide) (by decide) rfl (by decide) (fun H locs hP hD hS => ?_)
        refine lv_aload_n hx hb dX8_chain_83 rfl (lv_at hl 1 rfl) ?_
        refine va_get (D := D) (ci := 8) (v := .ref nw0) (C := RX8) (T := TX8) (N := 16) hx hb hts (fun w h => (List.mem_cons_of_mem _ (List.mem_append_right _ h))) hown hK hP 0 rfl rfl 7 (by decide) (hts _ qX8_chain_0) (fun _ h9 => h9) rfl dX8_chain_84 ?_
        refine lv_iload_n hx hb dX8_chain_87 rfl (lv_at hl 2 rfl) ?_
        refine lv_iload_n hx hb dX8_chain_88 rfl (lv_at hl 3 rfl) ?_
        refine lv_iload_n hx hb dX8_chain_89 rfl (lv_at hl 4 rfl) ?_
        refine k_av (wr := [(m0, .inr (8, [.int 0, .ref sc0, .int (nI ss), .int (nI sp), .int ig, .int lo, .ref rd0, .ref nw0, .ref tr0, .ref di0, .int (nI v_8.1), .ref ke0, .ref ik0, .ref cp0, .ref cn0, .ref be0])), (di0, .inl (g 0, 10472, .inl v_8.2))]) (w2 := [(m0, .inr (8, [.int 0, .ref sc0, .int (nI ss), .int (nI sp), .int ig, .int lo, .ref rd0, .ref nw0, .ref tr0, .ref di0, .int (nI v_8.1), .ref ke0, .ref ik0, .ref cp0, .ref cn0, .ref be0])), (nw0, .inl (g 0, 748, .inl (f_X8_chainIn nw pa_0 next step))), (di0, .inl (g 0, 10472, .inl v_8.2))]) (va_runS (As := [.ref nw0, .int (nI pa_0), .int next, .int step]) (rest := []) ⟨hx, hb, hml, hown, hts⟩ (c_X8_chainIn l D g nw0 H.size nw pa_0 next step (by omega)) (va_cwS 4 hts gX8_chain_X8_chainIn rfl rfl rfl (by decide +kernel) (k_lvl (by omega) (by decide))) (kPS hP hD hK hS hA hE [1] rfl (by decide)) rfl rfl hl.1 rfl (lv_room (Nat.le_of_ble_eq_true rfl)) dX8_chain_90 ⟨Nat.le_of_ble_eq_true rfl, Nat.le_of_ble_eq_true rfl⟩) hP hD hS hA [1] [0, 2] [0, 2, 1] rfl rfl (by decide) (by decide) rfl (by decide) (fun H locs hP hD hS => ?_)
        refine lv_aload_n hx hb dX8_chain_93 rfl (lv_at hl 1 rfl) ?_
        refine va_get (D := D) (ci := 8) (v := .ref nw0) (C := RX8) (T := TX8) (N := 16) hx hb hts (fun w h => (List.mem_cons_of_mem _ (List.mem_append_right _ h))) hown hK hP 0 rfl rfl 7 (by decide) (hts _ qX8_chain_0) (fun _ h9 => h9) rfl dX8_chain_94 ?_
        refine lv_iload_n hx hb dX8_chain_97 rfl (lv_at hl 2 rfl) ?_
        refine k_ai (wr := [(m0, .inr (8, [.int 0, .ref sc0, .int (nI ss), .int (nI sp), .int ig, .int lo, .ref rd0, .ref nw0, .ref tr0, .ref di0, .int (nI v_8.1), .ref ke0, .ref ik0, .ref cp0, .ref cn0, .ref be0])), (di0, .inl (g 0, 10472, .inl v_8.2))]) (w2 := [(m0, .inr (8, [.int 0, .ref sc0, .int (nI ss), .int (nI sp), .int ig, .int lo, .ref rd0, .ref nw0, .ref tr0, .ref di0, .int (nI v_8.1), .ref ke0, .ref ik0, .ref cp0, .ref cn0, .ref be0])), (nw0, .inl (g 0, 748, .inl (f_X8_chainIn nw pa_0 next step))), (di0, .inl (g 0, 10472, .inl v_8.2))]) (va_runS (As := [.ref nw0, .int (nI pa_0)]) (rest := []) ⟨hx, hb, hml, hown, hts⟩ (c_X8_chainLength l D g nw0 H.size (f_X8_chainIn nw pa_0 next step) pa_0 (by omega) (by rw [c_1]; exact (chainIn_none (by omega) hO).2)) (va_cwS 2 hts gX8_chain_X8_chainLength rfl rfl rfl (by decide +kernel) (k_lvl (by omega) (by decide))) (kPS hP hD hK hS hA hE [1] rfl (by decide)) rfl rfl hl.1 rfl (lv_room (Nat.le_of_ble_eq_true rfl)) dX8_chain_98 ⟨Nat.le_of_ble_eq_true rfl, Nat.le_of_ble_eq_true rfl⟩) hP hD hS hA [1] [0, 2] [0, 2, 1] rfl rfl (by decide) (by decide) rfl (by decide) (fun H locs hP hD hS => ?_)
        have ev_8 : (f_X8_remember ac nw di) = v_8 := Eq.symm kev_8
        have epa_0 : pa.toNatClampNeg = pa_0 := Eq.symm kepa_0
        have emn_0 : (nw 0).toNatClampNeg = mn_0 := Eq.symm kemn_0
        have hE2 : (f_X8_chain ac nw di pa next step) = ((nI (rLen (f_X8_chainIn nw pa_0 next step) 10 ((f_X8_chainIn nw pa_0 next step) (1 + 8 * pa_0 + 2)).toNatClampNeg 1)), v_8.1, v_8.2, (f_X8_chainIn nw pa_0 next step)) := by
          subst ev_8
          subst epa_0
          subst emn_0
          exact (if_pos c_1).trans (rfl)
        subst hQ
        exact k_ri hx hb hr hlocks hP hD hS dX8_chain_101 (by rw [hE2]) (by rw [hE2])
      · refine lv_iconst (v := 1) hx hb dX8_chain_57 (by decide) ?_
        refine lv_goto (tgt := 71) hx hb dX8_chain_58 (by decide) ?_
        have emn_0 : (nw 0).toNatClampNeg = mn_0 := Eq.symm kemn_0
        subst emn_0
        have h9 : (kc_X8_chain nw pa next step) = 1 := (if_pos c_1).trans ((if_neg c_2).trans ((if_pos c_5).trans (rfl)))
        rw [hk] at h9
        exact absurd h9 (by decide)
  · refine lv_iload_n hx hb dX8_chain_7 rfl (lv_at hl 2 rfl) ?_
    refine lv_i2l (v := (Int32.toInt64 next)) hx hb dX8_chain_8 rfl ?_
    refine lv_lconst (v := 0) hx hb dX8_chain_9 (by decide) ?_
    refine lv_aload_n hx hb dX8_chain_10 rfl (lv_at hl 0 rfl) ?_
    refine lv_iload_n hx hb dX8_chain_11 rfl (lv_at hl 1 rfl) ?_
    refine k_ai (wr := [(di0, .inl (g 0, 10472, .inl di))]) (w2 := [(m0, .inr (8, [.int rf, .ref sc0, .int (nI ss), .int (nI sp), .int ig, .int lo, .ref rd0, .ref nw0, .ref tr0, .ref di0, .int (nI ac), .ref ke0, .ref ik0, .ref cp0, .ref cn0, .ref be0])), (nw0, .inl (g 0, 748, .inl nw)), (di0, .inl (g 0, 10472, .inl di))]) (va_runV (As := [.int pa]) (rest := [.long 0, .long (Int32.toInt64 next)]) ⟨hx, hb, hml, hown, hts⟩ (c_X8_isPart l D g m0 sc0 rd0 nw0 tr0 di0 ke0 ik0 cp0 cn0 be0 H.size rf ss sp ig lo ac nw pa) (cwV 1 hts gX8_chain_X8_isPart rfl rfl rfl (by decide +kernel) (k_lvl (by omega) (by decide))) (kPV hP hD hK hS hA hE [0, 1] rfl (by decide) 0 8 rfl rfl rfl) rfl rfl hl.1 rfl (lv_room (Nat.le_of_ble_eq_true rfl)) dX8_chain_12 ⟨Nat.le_of_ble_eq_true rfl, Nat.le_of_ble_eq_true rfl⟩) hP hD hS hA [0, 1] [2] [1, 2, 0] rfl rfl (by decide) (by decide) rfl (by decide) (fun H locs hP hD hS => ?_)
    refine lv_if_eq (tgt := 25) hx hb dX8_chain_15 (by decide) (fun c_9 => ?_) (fun c_9 => ?_)
    · refine lv_ldc2 hx hb hown (hts _ qX8_chain_1) dX8_chain_25 ?_
      refine k_ai (wr := [(m0, .inr (8, [.int rf, .ref sc0, .int (nI ss), .int (nI sp), .int ig, .int lo, .ref rd0, .ref nw0, .ref tr0, .ref di0, .int (nI ac), .ref ke0, .ref ik0, .ref cp0, .ref cn0, .ref be0])), (nw0, .inl (g 0, 748, .inl nw)), (di0, .inl (g 0, 10472, .inl di))]) (w2 := [(m0, .inr (8, [.int rf, .ref sc0, .int (nI ss), .int (nI sp), .int ig, .int lo, .ref rd0, .ref nw0, .ref tr0, .ref di0, .int (nI ac), .ref ke0, .ref ik0, .ref cp0, .ref cn0, .ref be0])), (nw0, .inl (g 0, 748, .inl nw)), (di0, .inl (g 0, 10472, .inl di))]) (va_runS (As := [.long (Int32.toInt64 next), .long 0, .long (-1)]) (rest := []) ⟨hx, hb, hml, hown, hts⟩ (c_X8_in l D g H.size (Int32.toInt64 next) 0 (-1)) (va_cwS 3 hts gX8_chain_X8_in rfl rfl rfl (by decide +kernel) (k_lvl (by omega) (by decide))) (kPS hP hD hK hS hA hE [] rfl (by decide)) rfl rfl hl.1 rfl (lv_room (Nat.le_of_ble_eq_true rfl)) dX8_chain_28 ⟨Nat.le_of_ble_eq_true rfl, Nat.le_of_ble_eq_true rfl⟩) hP hD hS hA [] [0, 1, 2] [0, 1, 2] rfl rfl (by decide) (by decide) rfl (by decide) (fun H locs hP hD hS => ?_)
      refine lv_if_eq (tgt := 45) hx hb dX8_chain_31 (by decide) (fun c_10 => ?_) (fun c_10 => ?_)
      · refine lv_iconst (v := 0) hx hb dX8_chain_45 (by decide) ?_
        refine lv_istore (lv' := [(4, .int 0), (0, .ref m0), (1, .int pa), (2, .int next), (3, .int step)]) hx hb dX8_chain_46 hl (by decide) rfl (fun ls hl => ?_)
        refine lv_aload_n hx hb dX8_chain_48 rfl (lv_at hl 1 rfl) ?_
        refine lv_aload_n hx hb dX8_chain_49 rfl (lv_at hl 1 rfl) ?_
        refine lv_iload_n hx hb dX8_chain_50 rfl (lv_at hl 2 rfl) ?_
        refine k_ai (wr := [(di0, .inl (g 0, 10472, .inl di))]) (w2 := [(m0, .inr (8, [.int rf, .ref sc0, .int (nI ss), .int (nI sp), .int ig, .int lo, .ref rd0, .ref nw0, .ref tr0, .ref di0, .int (nI ac), .ref ke0, .ref ik0, .ref cp0, .ref cn0, .ref be0])), (nw0, .inl (g 0, 748, .inl nw)), (di0, .inl (g 0, 10472, .inl di))]) (va_runV (As := [.int pa]) (rest := [.ref m0]) ⟨hx, hb, hml, hown, hts⟩ (c_X8_isPart l D g m0 sc0 rd0 nw0 tr0 di0 ke0 ik0 cp0 cn0 be0 H.size rf ss sp ig lo ac nw pa) (cwV 1 hts gX8_chain_X8_isPart rfl rfl rfl (by decide +kernel) (k_lvl (by omega) (by decide))) (kPV hP hD hK hS hA hE [0, 1] rfl (by decide) 0 8 rfl rfl rfl) rfl rfl hl.1 rfl (lv_room (Nat.le_of_ble_eq_true rfl)) dX8_chain_51 ⟨Nat.le_of_ble_eq_true rfl, Nat.le_of_ble_eq_true rfl⟩) hP hD hS hA [0, 1] [2] [1, 2, 0] rfl rfl (by decide) (by decide) rfl (by decide) (fun H locs hP hD hS => ?_)
        refine lv_if_ne (tgt := 61) hx hb dX8_chain_54 (by decide) (fun c_11 => absurd c_9 c_11) (fun _ => ?_)
        refine lv_iconst (v := 1) hx hb dX8_chain_57 (by decide) ?_
        refine lv_goto (tgt := 71) hx hb dX8_chain_58 (by decide) ?_
        have emn_0 : (nw 0).toNatClampNeg = mn_0 := Eq.symm kemn_0
        subst emn_0
        have h9 : (kc_X8_chain nw pa next step) = 1 := (if_neg c_1).trans ((if_pos c_9).trans ((if_pos c_10).trans (rfl)))
        rw [hk] at h9
        exact absurd h9 (by decide)
      · refine lv_iload_n hx hb dX8_chain_34 rfl (lv_at hl 3 rfl) ?_
        refine k_ai (wr := [(m0, .inr (8, [.int rf, .ref sc0, .int (nI ss), .int (nI sp), .int ig, .int lo, .ref rd0, .ref nw0, .ref tr0, .ref di0, .int (nI ac), .ref ke0, .ref ik0, .ref cp0, .ref cn0, .ref be0])), (nw0, .inl (g 0, 748, .inl nw)), (di0, .inl (g 0, 10472, .inl di))]) (w2 := [(m0, .inr (8, [.int rf, .ref sc0, .int (nI ss), .int (nI sp), .int ig, .int lo, .ref rd0, .ref nw0, .ref tr0, .ref di0, .int (nI ac), .ref ke0, .ref ik0, .ref cp0, .ref cn0, .ref be0])), (nw0, .inl (g 0, 748, .inl nw)), (di0, .inl (g 0, 10472, .inl di))]) (va_runS (As := [.int step]) (rest := []) ⟨hx, hb, hml, hown, hts⟩ (c_X8_isSmall l D g H.size step) (va_cwS 1 hts gX8_chain_X8_isSmall rfl rfl rfl (by decide +kernel) (k_lvl (by omega) (by decide))) (kPS hP hD hK hS hA hE [] rfl (by decide)) rfl rfl hl.1 rfl (lv_room (Nat.le_of_ble_eq_true rfl)) dX8_chain_35 ⟨Nat.le_of_ble_eq_true rfl, Nat.le_of_ble_eq_true rfl⟩) hP hD hS hA [] [0, 1, 2] [0, 1, 2] rfl rfl (by decide) (by decide) rfl (by decide) (fun H locs hP hD hS => ?_)
        refine lv_if_eq (tgt := 45) hx hb dX8_chain_38 (by decide) (fun c_12 => ?_) (fun c_12 => ?_)
        · refine lv_iconst (v := 0) hx hb dX8_chain_45 (by decide) ?_
          refine lv_istore (lv' := [(4, .int 0), (0, .ref m0), (1, .int pa), (2, .int next), (3, .int step)]) hx hb dX8_chain_46 hl (by decide) rfl (fun ls hl => ?_)
          refine lv_aload_n hx hb dX8_chain_48 rfl (lv_at hl 1 rfl) ?_
          refine lv_aload_n hx hb dX8_chain_49 rfl (lv_at hl 1 rfl) ?_
          refine lv_iload_n hx hb dX8_chain_50 rfl (lv_at hl 2 rfl) ?_
          refine k_ai (wr := [(di0, .inl (g 0, 10472, .inl di))]) (w2 := [(m0, .inr (8, [.int rf, .ref sc0, .int (nI ss), .int (nI sp), .int ig, .int lo, .ref rd0, .ref nw0, .ref tr0, .ref di0, .int (nI ac), .ref ke0, .ref ik0, .ref cp0, .ref cn0, .ref be0])), (nw0, .inl (g 0, 748, .inl nw)), (di0, .inl (g 0, 10472, .inl di))]) (va_runV (As := [.int pa]) (rest := [.ref m0]) ⟨hx, hb, hml, hown, hts⟩ (c_X8_isPart l D g m0 sc0 rd0 nw0 tr0 di0 ke0 ik0 cp0 cn0 be0 H.size rf ss sp ig lo ac nw pa) (cwV 1 hts gX8_chain_X8_isPart rfl rfl rfl (by decide +kernel) (k_lvl (by omega) (by decide))) (kPV hP hD hK hS hA hE [0, 1] rfl (by decide) 0 8 rfl rfl rfl) rfl rfl hl.1 rfl (lv_room (Nat.le_of_ble_eq_true rfl)) dX8_chain_51 ⟨Nat.le_of_ble_eq_true rfl, Nat.le_of_ble_eq_true rfl⟩) hP hD hS hA [0, 1] [2] [1, 2, 0] rfl rfl (by decide) (by decide) rfl (by decide) (fun H locs hP hD hS => ?_)
          refine lv_if_ne (tgt := 61) hx hb dX8_chain_54 (by decide) (fun c_13 => absurd c_9 c_13) (fun _ => ?_)
          refine lv_iconst (v := 1) hx hb dX8_chain_57 (by decide) ?_
          refine lv_goto (tgt := 71) hx hb dX8_chain_58 (by decide) ?_
          have emn_0 : (nw 0).toNatClampNeg = mn_0 := Eq.symm kemn_0
          subst emn_0
          have h9 : (kc_X8_chain nw pa next step) = 1 := (if_neg c_1).trans ((if_pos c_9).trans ((if_neg c_10).trans ((if_pos c_12).trans (rfl))))
          rw [hk] at h9
          exact absurd h9 (by decide)
        · refine lv_iconst (v := 1) hx hb dX8_chain_41 (by decide) ?_
          refine lv_goto (tgt := 46) hx hb dX8_chain_42 (by decide) ?_
          refine lv_istore (lv' := [(4, .int 1), (0, .ref m0), (1, .int pa), (2, .int next), (3, .int step)]) hx hb dX8_chain_46 hl (by decide) rfl (fun ls hl => ?_)
          refine lv_aload_n hx hb dX8_chain_48 rfl (lv_at hl 1 rfl) ?_
          refine lv_aload_n hx hb dX8_chain_49 rfl (lv_at hl 1 rfl) ?_
          refine lv_iload_n hx hb dX8_chain_50 rfl (lv_at hl 2 rfl) ?_
          refine k_ai (wr := [(di0, .inl (g 0, 10472, .inl di))]) (w2 := [(m0, .inr (8, [.int rf, .ref sc0, .int (nI ss), .int (nI sp), .int ig, .int lo, .ref rd0, .ref nw0, .ref tr0, .ref di0, .int (nI ac), .ref ke0, .ref ik0, .ref cp0, .ref cn0, .ref be0])), (nw0, .inl (g 0, 748, .inl nw)), (di0, .inl (g 0, 10472, .inl di))]) (va_runV (As := [.int pa]) (rest := [.ref m0]) ⟨hx, hb, hml, hown, hts⟩ (c_X8_isPart l D g m0 sc0 rd0 nw0 tr0 di0 ke0 ik0 cp0 cn0 be0 H.size rf ss sp ig lo ac nw pa) (cwV 1 hts gX8_chain_X8_isPart rfl rfl rfl (by decide +kernel) (k_lvl (by omega) (by decide))) (kPV hP hD hK hS hA hE [0, 1] rfl (by decide) 0 8 rfl rfl rfl) rfl rfl hl.1 rfl (lv_room (Nat.le_of_ble_eq_true rfl)) dX8_chain_51 ⟨Nat.le_of_ble_eq_true rfl, Nat.le_of_ble_eq_true rfl⟩) hP hD hS hA [0, 1] [2] [1, 2, 0] rfl rfl (by decide) (by decide) rfl (by decide) (fun H locs hP hD hS => ?_)
          refine lv_if_ne (tgt := 61) hx hb dX8_chain_54 (by decide) (fun c_14 => absurd c_9 c_14) (fun _ => ?_)
          refine lv_iconst (v := 1) hx hb dX8_chain_57 (by decide) ?_
          refine lv_goto (tgt := 71) hx hb dX8_chain_58 (by decide) ?_
          have emn_0 : (nw 0).toNatClampNeg = mn_0 := Eq.symm kemn_0
          subst emn_0
          have h9 : (kc_X8_chain nw pa next step) = 1 := (if_neg c_1).trans ((if_pos c_9).trans ((if_neg c_10).trans ((if_neg c_12).trans (rfl))))
          rw [hk] at h9
          exact absurd h9 (by decide)
    · refine lv_iload_n hx hb dX8_chain_18 rfl (lv_at hl 1 rfl) ?_
      refine lv_iconst (v := 1) hx hb dX8_chain_19 (by decide) ?_
      refine lv_isub hx hb dX8_chain_20 ?_
      refine lv_i2l (v := (Int32.toInt64 (pa - 1))) hx hb dX8_chain_21 rfl ?_
      refine lv_goto (tgt := 28) hx hb dX8_chain_22 (by decide) ?_
      refine k_ai (wr := [(m0, .inr (8, [.int rf, .ref sc0, .int (nI ss), .int (nI sp), .int ig, .int lo, .ref rd0, .ref nw0, .ref tr0, .ref di0, .int (nI ac), .ref ke0, .ref ik0, .ref cp0, .ref cn0, .ref be0])), (nw0, .inl (g 0, 748, .inl nw)), (di0, .inl (g 0, 10472, .inl di))]) (w2 := [(m0, .inr (8, [.int rf, .ref sc0, .int (nI ss), .int (nI sp), .int ig, .int lo, .ref rd0, .ref nw0, .ref tr0, .ref di0, .int (nI ac), .ref ke0, .ref ik0, .ref cp0, .ref cn0, .ref be0])), (nw0, .inl (g 0, 748, .inl nw)), (di0, .inl (g 0, 10472, .inl di))]) (va_runS (As := [.long (Int32.toInt64 next), .long 0, .long (Int32.toInt64 (pa - 1))]) (rest := []) ⟨hx, hb, hml, hown, hts⟩ (c_X8_in l D g H.size (Int32.toInt64 next) 0 (Int32.toInt64 (pa - 1))) (va_cwS 3 hts gX8_chain_X8_in rfl rfl rfl (by decide +kernel) (k_lvl (by omega) (by decide))) (kPS hP hD hK hS hA hE [] rfl (by decide)) rfl rfl hl.1 rfl (lv_room (Nat.le_of_ble_eq_true rfl)) dX8_chain_28 ⟨Nat.le_of_ble_eq_true rfl, Nat.le_of_ble_eq_true rfl⟩) hP hD hS hA [] [0, 1, 2] [0, 1, 2] rfl rfl (by decide) (by decide) rfl (by decide) (fun H locs hP hD hS => ?_)
      refine lv_if_eq (tgt := 45) hx hb dX8_chain_31 (by decide) (fun c_15 => ?_) (fun c_15 => ?_)
      · refine lv_iconst (v := 0) hx hb dX8_chain_45 (by decide) ?_
        refine lv_istore (lv' := [(4, .int 0), (0, .ref m0), (1, .int pa), (2, .int next), (3, .int step)]) hx hb dX8_chain_46 hl (by decide) rfl (fun ls hl => ?_)
        refine lv_aload_n hx hb dX8_chain_48 rfl (lv_at hl 1 rfl) ?_
        refine lv_aload_n hx hb dX8_chain_49 rfl (lv_at hl 1 rfl) ?_
        refine lv_iload_n hx hb dX8_chain_50 rfl (lv_at hl 2 rfl) ?_
        refine k_ai (wr := [(di0, .inl (g 0, 10472, .inl di))]) (w2 := [(m0, .inr (8, [.int rf, .ref sc0, .int (nI ss), .int (nI sp), .int ig, .int lo, .ref rd0, .ref nw0, .ref tr0, .ref di0, .int (nI ac), .ref ke0, .ref ik0, .ref cp0, .ref cn0, .ref be0])), (nw0, .inl (g 0, 748, .inl nw)), (di0, .inl (g 0, 10472, .inl di))]) (va_runV (As := [.int pa]) (rest := [.ref m0]) ⟨hx, hb, hml, hown, hts⟩ (c_X8_isPart l D g m0 sc0 rd0 nw0 tr0 di0 ke0 ik0 cp0 cn0 be0 H.size rf ss sp ig lo ac nw pa) (cwV 1 hts gX8_chain_X8_isPart rfl rfl rfl (by decide +kernel) (k_lvl (by omega) (by decide))) (kPV hP hD hK hS hA hE [0, 1] rfl (by decide) 0 8 rfl rfl rfl) rfl rfl hl.1 rfl (lv_room (Nat.le_of_ble_eq_true rfl)) dX8_chain_51 ⟨Nat.le_of_ble_eq_true rfl, Nat.le_of_ble_eq_true rfl⟩) hP hD hS hA [0, 1] [2] [1, 2, 0] rfl rfl (by decide) (by decide) rfl (by decide) (fun H locs hP hD hS => ?_)
        refine lv_if_ne (tgt := 61) hx hb dX8_chain_54 (by decide) (fun _ => ?_) (fun c_16 => absurd c_16 c_9)
        refine lv_iload hx hb dX8_chain_61 (lv_at hl 0 rfl) ?_
        refine lv_if_eq (tgt := 70) hx hb dX8_chain_63 (by decide) (fun _ => ?_) (fun c_17 => absurd c_17 (by decide))
        refine lv_iconst (v := 2) hx hb dX8_chain_70 (by decide) ?_
        have emn_0 : (nw 0).toNatClampNeg = mn_0 := Eq.symm kemn_0
        subst emn_0
        have h9 : (kc_X8_chain nw pa next step) = 2 := (if_neg c_1).trans ((if_neg c_9).trans ((if_pos c_15).trans (rfl)))
        rw [hk] at h9
        exact absurd h9 (by decide)
      · refine lv_iload_n hx hb dX8_chain_34 rfl (lv_at hl 3 rfl) ?_
        refine k_ai (wr := [(m0, .inr (8, [.int rf, .ref sc0, .int (nI ss), .int (nI sp), .int ig, .int lo, .ref rd0, .ref nw0, .ref tr0, .ref di0, .int (nI ac), .ref ke0, .ref ik0, .ref cp0, .ref cn0, .ref be0])), (nw0, .inl (g 0, 748, .inl nw)), (di0, .inl (g 0, 10472, .inl di))]) (w2 := [(m0, .inr (8, [.int rf, .ref sc0, .int (nI ss), .int (nI sp), .int ig, .int lo, .ref rd0, .ref nw0, .ref tr0, .ref di0, .int (nI ac), .ref ke0, .ref ik0, .ref cp0, .ref cn0, .ref be0])), (nw0, .inl (g 0, 748, .inl nw)), (di0, .inl (g 0, 10472, .inl di))]) (va_runS (As := [.int step]) (rest := []) ⟨hx, hb, hml, hown, hts⟩ (c_X8_isSmall l D g H.size step) (va_cwS 1 hts gX8_chain_X8_isSmall rfl rfl rfl (by decide +kernel) (k_lvl (by omega) (by decide))) (kPS hP hD hK hS hA hE [] rfl (by decide)) rfl rfl hl.1 rfl (lv_room (Nat.le_of_ble_eq_true rfl)) dX8_chain_35 ⟨Nat.le_of_ble_eq_true rfl, Nat.le_of_ble_eq_true rfl⟩) hP hD hS hA [] [0, 1, 2] [0, 1, 2] rfl rfl (by decide) (by decide) rfl (by decide) (fun H locs hP hD hS => ?_)
        refine lv_if_eq (tgt := 45) hx hb dX8_chain_38 (by decide) (fun c_18 => ?_) (fun c_18 => ?_)
        · refine lv_iconst (v := 0) hx hb dX8_chain_45 (by decide) ?_
          refine lv_istore (lv' := [(4, .int 0), (0, .ref m0), (1, .int pa), (2, .int next), (3, .int step)]) hx hb dX8_chain_46 hl (by decide) rfl (fun ls hl => ?_)
          refine lv_aload_n hx hb dX8_chain_48 rfl (lv_at hl 1 rfl) ?_
          refine lv_aload_n hx hb dX8_chain_49 rfl (lv_at hl 1 rfl) ?_
          refine lv_iload_n hx hb dX8_chain_50 rfl (lv_at hl 2 rfl) ?_
          refine k_ai (wr := [(di0, .inl (g 0, 10472, .inl di))]) (w2 := [(m0, .inr (8, [.int rf, .ref sc0, .int (nI ss), .int (nI sp), .int ig, .int lo, .ref rd0, .ref nw0, .ref tr0, .ref di0, .int (nI ac), .ref ke0, .ref ik0, .ref cp0, .ref cn0, .ref be0])), (nw0, .inl (g 0, 748, .inl nw)), (di0, .inl (g 0, 10472, .inl di))]) (va_runV (As := [.int pa]) (rest := [.ref m0]) ⟨hx, hb, hml, hown, hts⟩ (c_X8_isPart l D g m0 sc0 rd0 nw0 tr0 di0 ke0 ik0 cp0 cn0 be0 H.size rf ss sp ig lo ac nw pa) (cwV 1 hts gX8_chain_X8_isPart rfl rfl rfl (by decide +kernel) (k_lvl (by omega) (by decide))) (kPV hP hD hK hS hA hE [0, 1] rfl (by decide) 0 8 rfl rfl rfl) rfl rfl hl.1 rfl (lv_room (Nat.le_of_ble_eq_true rfl)) dX8_chain_51 ⟨Nat.le_of_ble_eq_true rfl, Nat.le_of_ble_eq_true rfl⟩) hP hD hS hA [0, 1] [2] [1, 2, 0] rfl rfl (by decide) (by decide) rfl (by decide) (fun H locs hP hD hS => ?_)
          refine lv_if_ne (tgt := 61) hx hb dX8_chain_54 (by decide) (fun _ => ?_) (fun c_19 => absurd c_19 c_9)
          refine lv_iload hx hb dX8_chain_61 (lv_at hl 0 rfl) ?_
          refine lv_if_eq (tgt := 70) hx hb dX8_chain_63 (by decide) (fun _ => ?_) (fun c_20 => absurd c_20 (by decide))
          refine lv_iconst (v := 2) hx hb dX8_chain_70 (by decide) ?_
          have emn_0 : (nw 0).toNatClampNeg = mn_0 := Eq.symm kemn_0
          subst emn_0
          have h9 : (kc_X8_chain nw pa next step) = 2 := (if_neg c_1).trans ((if_neg c_9).trans ((if_neg c_15).trans ((if_pos c_18).trans (rfl))))
          rw [hk] at h9
          exact absurd h9 (by decide)
        · refine lv_iconst (v := 1) hx hb dX8_chain_41 (by decide) ?_
          refine lv_goto (tgt := 46) hx hb dX8_chain_42 (by decide) ?_
          refine lv_istore (lv' := [(4, .int 1), (0, .ref m0), (1, .int pa), (2, .int next), (3, .int step)]) hx hb dX8_chain_46 hl (by decide) rfl (fun ls hl => ?_)
          refine lv_aload_n hx hb dX8_chain_48 rfl (lv_at hl 1 rfl) ?_
          refine lv_aload_n hx hb dX8_chain_49 rfl (lv_at hl 1 rfl) ?_
          refine lv_iload_n hx hb dX8_chain_50 rfl (lv_at hl 2 rfl) ?_
          refine k_ai (wr := [(di0, .inl (g 0, 10472, .inl di))]) (w2 := [(m0, .inr (8, [.int rf, .ref sc0, .int (nI ss), .int (nI sp), .int ig, .int lo, .ref rd0, .ref nw0, .ref tr0, .ref di0, .int (nI ac), .ref ke0, .ref ik0, .ref cp0, .ref cn0, .ref be0])), (nw0, .inl (g 0, 748, .inl nw)), (di0, .inl (g 0, 10472, .inl di))]) (va_runV (As := [.int pa]) (rest := [.ref m0]) ⟨hx, hb, hml, hown, hts⟩ (c_X8_isPart l D g m0 sc0 rd0 nw0 tr0 di0 ke0 ik0 cp0 cn0 be0 H.size rf ss sp ig lo ac nw pa) (cwV 1 hts gX8_chain_X8_isPart rfl rfl rfl (by decide +kernel) (k_lvl (by omega) (by decide))) (kPV hP hD hK hS hA hE [0, 1] rfl (by decide) 0 8 rfl rfl rfl) rfl rfl hl.1 rfl (lv_room (Nat.le_of_ble_eq_true rfl)) dX8_chain_51 ⟨Nat.le_of_ble_eq_true rfl, Nat.le_of_ble_eq_true rfl⟩) hP hD hS hA [0, 1] [2] [1, 2, 0] rfl rfl (by decide) (by decide) rfl (by decide) (fun H locs hP hD hS => ?_)
          refine lv_if_ne (tgt := 61) hx hb dX8_chain_54 (by decide) (fun _ => ?_) (fun c_21 => absurd c_21 c_9)
          refine lv_iload hx hb dX8_chain_61 (lv_at hl 0 rfl) ?_
          refine lv_if_eq (tgt := 70) hx hb dX8_chain_63 (by decide) (fun c_22 => absurd c_22 (by decide)) (fun _ => ?_)
          refine lv_iconst (v := 0) hx hb dX8_chain_66 (by decide) ?_
          refine lv_goto (tgt := 71) hx hb dX8_chain_67 (by decide) ?_
          refine k_ai (wr := [(nw0, .inl (g 0, 748, .inl nw)), (di0, .inl (g 0, 10472, .inl di))]) (w2 := [(m0, .inr (8, [.int 0, .ref sc0, .int (nI ss), .int (nI sp), .int ig, .int lo, .ref rd0, .ref nw0, .ref tr0, .ref di0, .int (nI ac), .ref ke0, .ref ik0, .ref cp0, .ref cn0, .ref be0])), (nw0, .inl (g 0, 748, .inl nw)), (di0, .inl (g 0, 10472, .inl di))]) (va_runV (As := [.int 0]) (rest := []) ⟨hx, hb, hml, hown, hts⟩ (c_X8_refused0 l D g m0 sc0 rd0 nw0 tr0 di0 ke0 ik0 cp0 cn0 be0 H.size rf ss sp ig lo ac) (cwV 1 hts gX8_chain_X8_refused rfl rfl rfl (by decide +kernel) (k_lvl (by omega) (by decide))) (kPV hP hD hK hS hA hE [0] rfl (by decide) 0 8 rfl rfl rfl) rfl rfl hl.1 rfl (lv_room (Nat.le_of_ble_eq_true rfl)) dX8_chain_71 ⟨Nat.le_of_ble_eq_true rfl, Nat.le_of_ble_eq_true rfl⟩) hP hD hS hA [0] [1, 2] [2, 0, 1] rfl rfl (by decide) (by decide) rfl (by decide) (fun H locs hP hD hS => ?_)
          refine lv_if_eq (tgt := 79) hx hb dX8_chain_74 (by decide) (fun _ => ?_) (fun c_23 => absurd c_23 (by decide))
          obtain ⟨pa_0, epa_0⟩ : ∃ z, z = pa.toNatClampNeg := ⟨_, rfl⟩
          have qpa_0 : pa = nI pa_0 := by rw [epa_0]; exact (isPart_N c_9 hmn hm9).1
          have bpa_0 : pa_0 < mn_0 := by rw [epa_0]; exact (isPart_N c_9 hmn hm9).2
          have kepa_0 : kEq pa_0 pa.toNatClampNeg := epa_0
          clear epa_0
          have hl : lv_has ls 5 [(4, .int 1), (0, .ref m0), (1, .int (nI pa_0)), (2, .int next), (3, .int step)] := by
            have h9 := hl
            rw [qpa_0] at h9
            exact h9
          refine lv_aload_n hx hb dX8_chain_79 rfl (lv_at hl 1 rfl) ?_
          have hC := c_X8_remember l D g m0 sc0 rd0 nw0 tr0 di0 ke0 ik0 cp0 cn0 be0 H.size 0 ss sp ig lo ac nw di (by omega)
          obtain ⟨v_24, ev_24⟩ : ∃ z, z = (f_X8_remember ac nw di) := ⟨_, rfl⟩
          rw [← ev_24] at hC
          have kev_24 : kEq v_24 (f_X8_remember ac nw di) := ev_24
          clear ev_24
          refine k_av (wr := []) (w2 := [(m0, .inr (8, [.int 0, .ref sc0, .int (nI ss), .int (nI sp), .int ig, .int lo, .ref rd0, .ref nw0, .ref tr0, .ref di0, .int (nI v_24.1), .ref ke0, .ref ik0, .ref cp0, .ref cn0, .ref be0])), (nw0, .inl (g 0, 748, .inl nw)), (di0, .inl (g 0, 10472, .inl v_24.2))]) (va_runV (As := []) (rest := []) ⟨hx, hb, hml, hown, hts⟩ hC (cwV 0 hts gX8_chain_X8_remember rfl rfl rfl (by decide +kernel) (k_lvl (by omega) (by decide))) (kPV hP hD hK hS hA hE [0, 1, 2] rfl (by decide) 0 8 rfl rfl rfl) rfl rfl hl.1 rfl (lv_room (Nat.le_of_ble_eq_true rfl)) dX8_chain_80 ⟨Nat.le_of_ble_eq_true rfl, Nat.le_of_ble_eq_true rfl⟩) hP hD hS hA [0, 1, 2] [] [0, 1, 2] rfl rfl (by decide) (by decide) rfl (by decide) (fun H locs hP hD hS => ?_)
          refine lv_aload_n hx hb dX8_chain_83 rfl (lv_at hl 1 rfl) ?_
          refine va_get (D := D) (ci := 8) (v := .ref nw0) (C := RX8) (T := TX8) (N := 16) hx hb hts (fun w h => (List.mem_cons_of_mem _ (List.mem_append_right _ h))) hown hK hP 0 rfl rfl 7 (by decide) (hts _ qX8_chain_0) (fun _ h9 => h9) rfl dX8_chain_84 ?_
          refine lv_iload_n hx hb dX8_chain_87 rfl (lv_at hl 2 rfl) ?_
          refine lv_iload_n hx hb dX8_chain_88 rfl (lv_at hl 3 rfl) ?_
          refine lv_iload_n hx hb dX8_chain_89 rfl (lv_at hl 4 rfl) ?_
          refine k_av (wr := [(m0, .inr (8, [.int 0, .ref sc0, .int (nI ss), .int (nI sp), .int ig, .int lo, .ref rd0, .ref nw0, .ref tr0, .ref di0, .int (nI v_24.1), .ref ke0, .ref ik0, .ref cp0, .ref cn0, .ref be0])), (di0, .inl (g 0, 10472, .inl v_24.2))]) (w2 := [(m0, .inr (8, [.int 0, .ref sc0, .int (nI ss), .int (nI sp), .int ig, .int lo, .ref rd0, .ref nw0, .ref tr0, .ref di0, .int (nI v_24.1), .ref ke0, .ref ik0, .ref cp0, .ref cn0, .ref be0])), (nw0, .inl (g 0, 748, .inl (f_X8_chainIn nw pa_0 next step))), (di0, .inl (g 0, 10472, .inl v_24.2))]) (va_runS (As := [.ref nw0, .int (nI pa_0), .int next, .int step]) (rest := []) ⟨hx, hb, hml, hown, hts⟩ (c_X8_chainIn l D g nw0 H.size nw pa_0 next step (by omega)) (va_cwS 4 hts gX8_chain_X8_chainIn rfl rfl rfl (by decide +kernel) (k_lvl (by omega) (by decide))) (kPS hP hD hK hS hA hE [1] rfl (by decide)) rfl rfl hl.1 rfl (lv_room (Nat.le_of_ble_eq_true rfl)) dX8_chain_90 ⟨Nat.le_of_ble_eq_true rfl, Nat.le_of_ble_eq_true rfl⟩) hP hD hS hA [1] [0, 2] [0, 2, 1] rfl rfl (by decide) (by decide) rfl (by decide) (fun H locs hP hD hS => ?_)
          refine lv_aload_n hx hb dX8_chain_93 rfl (lv_at hl 1 rfl) ?_
          refine va_get (D := D) (ci := 8) (v := .ref nw0) (C := RX8) (T := TX8) (N := 16) hx hb hts (fun w h => (List.mem_cons_of_mem _ (List.mem_append_right _ h))) hown hK hP 0 rfl rfl 7 (by decide) (hts _ qX8_chain_0) (fun _ h9 => h9) rfl dX8_chain_94 ?_
          refine lv_iload_n hx hb dX8_chain_97 rfl (lv_at hl 2 rfl) ?_
          refine k_ai (wr := [(m0, .inr (8, [.int 0, .ref sc0, .int (nI ss), .int (nI sp), .int ig, .int lo, .ref rd0, .ref nw0, .ref tr0, .ref di0, .int (nI v_24.1), .ref ke0, .ref ik0, .ref cp0, .ref cn0, .ref be0])), (di0, .inl (g 0, 10472, .inl v_24.2))]) (w2 := [(m0, .inr (8, [.int 0, .ref sc0, .int (nI ss), .int (nI sp), .int ig, .int lo, .ref rd0, .ref nw0, .ref tr0, .ref di0, .int (nI v_24.1), .ref ke0, .ref ik0, .ref cp0, .ref cn0, .ref be0])), (nw0, .inl (g 0, 748, .inl (f_X8_chainIn nw pa_0 next step))), (di0, .inl (g 0, 10472, .inl v_24.2))]) (va_runS (As := [.ref nw0, .int (nI pa_0)]) (rest := []) ⟨hx, hb, hml, hown, hts⟩ (c_X8_chainLength l D g nw0 H.size (f_X8_chainIn nw pa_0 next step) pa_0 (by omega) (by rw [(isPart_N (rw := fun _ => pa) (mn := pa_0) c_15 qpa_0 (by omega)).1]; exact (chainIn_ok (by omega) (isPart_N (rw := fun _ => pa) (mn := pa_0) c_15 qpa_0 (by omega)).2 hO).2)) (va_cwS 2 hts gX8_chain_X8_chainLength rfl rfl rfl (by decide +kernel) (k_lvl (by omega) (by decide))) (kPS hP hD hK hS hA hE [1] rfl (by decide)) rfl rfl hl.1 rfl (lv_room (Nat.le_of_ble_eq_true rfl)) dX8_chain_98 ⟨Nat.le_of_ble_eq_true rfl, Nat.le_of_ble_eq_true rfl⟩) hP hD hS hA [1] [0, 2] [0, 2, 1] rfl rfl (by decide) (by decide) rfl (by decide) (fun H locs hP hD hS => ?_)
          have ev_24 : (f_X8_remember ac nw di) = v_24 := Eq.symm kev_24
          have epa_0 : pa.toNatClampNeg = pa_0 := Eq.symm kepa_0
          have emn_0 : (nw 0).toNatClampNeg = mn_0 := Eq.symm kemn_0
          have hE2 : (f_X8_chain ac nw di pa next step) = ((nI (rLen (f_X8_chainIn nw pa_0 next step) 10 ((f_X8_chainIn nw pa_0 next step) (1 + 8 * pa_0 + 2)).toNatClampNeg 1)), v_24.1, v_24.2, (f_X8_chainIn nw pa_0 next step)) := by
            subst ev_24
            subst epa_0
            subst emn_0
            exact (if_neg c_1).trans (rfl)
          subst hQ
          exact k_ri hx hb hr hlocks hP hD hS dX8_chain_101 (by rw [hE2]) (by rw [hE2])
theorem qc_X8_chain_bad_X8_chain_0 : Cond.constantLong RX8 216 (-1) ∈ wsX8_chain := (List.mem_cons_of_mem _ (List.mem_append_left _ (List.mem_append_left _ (List.mem_of_getElem? (i := 0) rfl))))
set_option maxHeartbeats 4000000 in
set_option maxRecDepth 100000 in
theorem c_X8_chain_bad (l : Launch) (D : va_G) (g : Nat → Nat) (m0 sc0 rd0 nw0 tr0 di0 ke0 ik0 cp0 cn0 be0 : Nat) (sz : Nat) (rf : Int32) (ss : Nat) (sp : Nat) (ig : Int32) (lo : Int32) (ac : Nat) (nw : Nat → Int32) (di : Nat → Int32) (pa : Int32) (next : Int32) (step : Int32) (hO : rdOk nw) (hac : ac ≤ 14) (hk : ¬ (kc_X8_chain nw pa next step) = 0) : kMi l D g yX8_chain wsX8_chain 4 0 0 [.ref m0, .int pa, .int next, .int step] [(m0, .inr (8, [.int rf, .ref sc0, .int (nI ss), .int (nI sp), .int ig, .int lo, .ref rd0, .ref nw0, .ref tr0, .ref di0, .int (nI ac), .ref ke0, .ref ik0, .ref cp0, .ref cn0, .ref be0])), (nw0, .inl (g 0, 748, .inl nw)), (di0, .inl (g 0, 10472, .inl di))] sz 0 [(m0, .inr (8, [.int (kc_X8_chain nw pa next step), .ref sc0, .int (nI ss), .int (nI sp), .int ig, .int lo, .ref rd0, .ref nw0, .ref tr0, .ref di0, .int (nI ac), .ref ke0, .ref ik0, .ref cp0, .ref cn0, .ref be0])), (nw0, .inl (g 0, 748, .inl nw)), (di0, .inl (g 0, 10472, .inl di))] := by
  refine k_enter (nm := "chain") (own := RX8) (bytes := cX8_chain) (maxL := 5) (ret := (some .int)) (Qf := fun A => kQi D [(m0, .inr (8, [.int (kc_X8_chain nw pa next step), .ref sc0, .int (nI ss), .int (nI sp), .int ig, .int lo, .ref rd0, .ref nw0, .ref tr0, .ref di0, .int (nI ac), .ref ke0, .ref ik0, .ref cp0, .ref cn0, .ref be0])), (nw0, .inl (g 0, 748, .inl nw)), (di0, .inl (g 0, 10472, .inl di))] A 0) (by decide) rfl rfl rfl (Nat.le_of_ble_eq_true rfl) ?_
  rintro pp ee s mm below meth cc A ls args Q H locs hQ ⟨hx, hb, hr, hml, hown, hts, hlocks, hin⟩ hP hK hD hA hS hE hl
  have hl : lv_has ls 5 [(0, .ref m0), (1, .int pa), (2, .int next), (3, .int step)] := hl
  refine lv_iload_n hx hb dX8_chain_0 rfl (lv_at hl 2 rfl) ?_
  refine lv_sipush (v := (-10000)) hx hb dX8_chain_1 (by decide) ?_
  refine lv_icmp_eq (tgt := 34) hx hb dX8_chain_4 (by decide) (fun c_1 => ?_) (fun c_1 => ?_)
  · refine lv_iload_n hx hb dX8_chain_34 rfl (lv_at hl 3 rfl) ?_
    refine k_ai (wr := [(m0, .inr (8, [.int rf, .ref sc0, .int (nI ss), .int (nI sp), .int ig, .int lo, .ref rd0, .ref nw0, .ref tr0, .ref di0, .int (nI ac), .ref ke0, .ref ik0, .ref cp0, .ref cn0, .ref be0])), (nw0, .inl (g 0, 748, .inl nw)), (di0, .inl (g 0, 10472, .inl di))]) (w2 := [(m0, .inr (8, [.int rf, .ref sc0, .int (nI ss), .int (nI sp), .int ig, .int lo, .ref rd0, .ref nw0, .ref tr0, .ref di0, .int (nI ac), .ref ke0, .ref ik0, .ref cp0, .ref cn0, .ref be0])), (nw0, .inl (g 0, 748, .inl nw)), (di0, .inl (g 0, 10472, .inl di))]) (va_runS (As := [.int step]) (rest := []) ⟨hx, hb, hml, hown, hts⟩ (c_X8_isSmall l D g H.size step) (va_cwS 1 hts gX8_chain_X8_isSmall rfl rfl rfl (by decide +kernel) (k_lvl (by omega) (by decide))) (kPS hP hD hK hS hA hE [] rfl (by decide)) rfl rfl hl.1 rfl (lv_room (Nat.le_of_ble_eq_true rfl)) dX8_chain_35 ⟨Nat.le_of_ble_eq_true rfl, Nat.le_of_ble_eq_true rfl⟩) hP hD hS hA [] [0, 1, 2] [0, 1, 2] rfl rfl (by decide) (by decide) rfl (by decide) (fun H locs hP hD hS => ?_)
    refine lv_if_eq (tgt := 45) hx hb dX8_chain_38 (by decide) (fun c_2 => ?_) (fun c_2 => ?_)
    · refine lv_iconst (v := 0) hx hb dX8_chain_45 (by decide) ?_
      refine lv_istore (lv' := [(4, .int 0), (0, .ref m0), (1, .int pa), (2, .int next), (3, .int step)]) hx hb dX8_chain_46 hl (by decide) rfl (fun ls hl => ?_)
      refine lv_aload_n hx hb dX8_chain_48 rfl (lv_at hl 1 rfl) ?_
      refine lv_aload_n hx hb dX8_chain_49 rfl (lv_at hl 1 rfl) ?_
      refine lv_iload_n hx hb dX8_chain_50 rfl (lv_at hl 2 rfl) ?_
      refine k_ai (wr := [(di0, .inl (g 0, 10472, .inl di))]) (w2 := [(m0, .inr (8, [.int rf, .ref sc0, .int (nI ss), .int (nI sp), .int ig, .int lo, .ref rd0, .ref nw0, .ref tr0, .ref di0, .int (nI ac), .ref ke0, .ref ik0, .ref cp0, .ref cn0, .ref be0])), (nw0, .inl (g 0, 748, .inl nw)), (di0, .inl (g 0, 10472, .inl di))]) (va_runV (As := [.int pa]) (rest := [.ref m0]) ⟨hx, hb, hml, hown, hts⟩ (c_X8_isPart l D g m0 sc0 rd0 nw0 tr0 di0 ke0 ik0 cp0 cn0 be0 H.size rf ss sp ig lo ac nw pa) (cwV 1 hts gX8_chain_X8_isPart rfl rfl rfl (by decide +kernel) (k_lvl (by omega) (by decide))) (kPV hP hD hK hS hA hE [0, 1] rfl (by decide) 0 8 rfl rfl rfl) rfl rfl hl.1 rfl (lv_room (Nat.le_of_ble_eq_true rfl)) dX8_chain_51 ⟨Nat.le_of_ble_eq_true rfl, Nat.le_of_ble_eq_true rfl⟩) hP hD hS hA [0, 1] [2] [1, 2, 0] rfl rfl (by decide) (by decide) rfl (by decide) (fun H locs hP hD hS => ?_)
      refine lv_if_ne (tgt := 61) hx hb dX8_chain_54 (by decide) (fun c_3 => ?_) (fun c_3 => ?_)
      · refine lv_iload hx hb dX8_chain_61 (lv_at hl 0 rfl) ?_
        refine lv_if_eq (tgt := 70) hx hb dX8_chain_63 (by decide) (fun _ => ?_) (fun c_4 => absurd c_4 (by decide))
        refine lv_iconst (v := 2) hx hb dX8_chain_70 (by decide) ?_
        refine k_ai (wr := [(nw0, .inl (g 0, 748, .inl nw)), (di0, .inl (g 0, 10472, .inl di))]) (w2 := [(m0, .inr (8, [.int 2, .ref sc0, .int (nI ss), .int (nI sp), .int ig, .int lo, .ref rd0, .ref nw0, .ref tr0, .ref di0, .int (nI ac), .ref ke0, .ref ik0, .ref cp0, .ref cn0, .ref be0])), (nw0, .inl (g 0, 748, .inl nw)), (di0, .inl (g 0, 10472, .inl di))]) (va_runV (As := [.int 2]) (rest := []) ⟨hx, hb, hml, hown, hts⟩ (c_X8_refused2 l D g m0 sc0 rd0 nw0 tr0 di0 ke0 ik0 cp0 cn0 be0 H.size rf ss sp ig lo ac) (cwV 1 hts gX8_chain_X8_refused rfl rfl rfl (by decide +kernel) (k_lvl (by omega) (by decide))) (kPV hP hD hK hS hA hE [0] rfl (by decide) 0 8 rfl rfl rfl) rfl rfl hl.1 rfl (lv_room (Nat.le_of_ble_eq_true rfl)) dX8_chain_71 ⟨Nat.le_of_ble_eq_true rfl, Nat.le_of_ble_eq_true rfl⟩) hP hD hS hA [0] [1, 2] [2, 0, 1] rfl rfl (by decide) (by decide) rfl (by decide) (fun H locs hP hD hS => ?_)
        refine lv_if_eq (tgt := 79) hx hb dX8_chain_74 (by decide) (fun c_5 => absurd c_5 (by decide)) (fun _ => ?_)
        refine lv_iconst (v := 0) hx hb dX8_chain_77 (by decide) ?_
        subst hQ
        exact k_ri hx hb hr hlocks hP hD hS dX8_chain_78 (rfl) (by rw [show (kc_X8_chain nw pa next step) = 2 from (if_pos c_1).trans ((if_pos c_2).trans ((if_neg c_3).trans (rfl)))])
      · refine lv_iconst (v := 1) hx hb dX8_chain_57 (by decide) ?_
        refine lv_goto (tgt := 71) hx hb dX8_chain_58 (by decide) ?_
        refine k_ai (wr := [(nw0, .inl (g 0, 748, .inl nw)), (di0, .inl (g 0, 10472, .inl di))]) (w2 := [(m0, .inr (8, [.int 1, .ref sc0, .int (nI ss), .int (nI sp), .int ig, .int lo, .ref rd0, .ref nw0, .ref tr0, .ref di0, .int (nI ac), .ref ke0, .ref ik0, .ref cp0, .ref cn0, .ref be0])), (nw0, .inl (g 0, 748, .inl nw)), (di0, .inl (g 0, 10472, .inl di))]) (va_runV (As := [.int 1]) (rest := []) ⟨hx, hb, hml, hown, hts⟩ (c_X8_refused1 l D g m0 sc0 rd0 nw0 tr0 di0 ke0 ik0 cp0 cn0 be0 H.size rf ss sp ig lo ac) (cwV 1 hts gX8_chain_X8_refused rfl rfl rfl (by decide +kernel) (k_lvl (by omega) (by decide))) (kPV hP hD hK hS hA hE [0] rfl (by decide) 0 8 rfl rfl rfl) rfl rfl hl.1 rfl (lv_room (Nat.le_of_ble_eq_true rfl)) dX8_chain_71 ⟨Nat.le_of_ble_eq_true rfl, Nat.le_of_ble_eq_true rfl⟩) hP hD hS hA [0] [1, 2] [2, 0, 1] rfl rfl (by decide) (by decide) rfl (by decide) (fun H locs hP hD hS => ?_)
        refine lv_if_eq (tgt := 79) hx hb dX8_chain_74 (by decide) (fun c_6 => absurd c_6 (by decide)) (fun _ => ?_)
        refine lv_iconst (v := 0) hx hb dX8_chain_77 (by decide) ?_
        subst hQ
        exact k_ri hx hb hr hlocks hP hD hS dX8_chain_78 (rfl) (by rw [show (kc_X8_chain nw pa next step) = 1 from (if_pos c_1).trans ((if_pos c_2).trans ((if_pos c_3).trans (rfl)))])
    · refine lv_iconst (v := 1) hx hb dX8_chain_41 (by decide) ?_
      refine lv_goto (tgt := 46) hx hb dX8_chain_42 (by decide) ?_
      refine lv_istore (lv' := [(4, .int 1), (0, .ref m0), (1, .int pa), (2, .int next), (3, .int step)]) hx hb dX8_chain_46 hl (by decide) rfl (fun ls hl => ?_)
      refine lv_aload_n hx hb dX8_chain_48 rfl (lv_at hl 1 rfl) ?_
      refine lv_aload_n hx hb dX8_chain_49 rfl (lv_at hl 1 rfl) ?_
      refine lv_iload_n hx hb dX8_chain_50 rfl (lv_at hl 2 rfl) ?_
      refine k_ai (wr := [(di0, .inl (g 0, 10472, .inl di))]) (w2 := [(m0, .inr (8, [.int rf, .ref sc0, .int (nI ss), .int (nI sp), .int ig, .int lo, .ref rd0, .ref nw0, .ref tr0, .ref di0, .int (nI ac), .ref ke0, .ref ik0, .ref cp0, .ref cn0, .ref be0])), (nw0, .inl (g 0, 748, .inl nw)), (di0, .inl (g 0, 10472, .inl di))]) (va_runV (As := [.int pa]) (rest := [.ref m0]) ⟨hx, hb, hml, hown, hts⟩ (c_X8_isPart l D g m0 sc0 rd0 nw0 tr0 di0 ke0 ik0 cp0 cn0 be0 H.size rf ss sp ig lo ac nw pa) (cwV 1 hts gX8_chain_X8_isPart rfl rfl rfl (by decide +kernel) (k_lvl (by omega) (by decide))) (kPV hP hD hK hS hA hE [0, 1] rfl (by decide) 0 8 rfl rfl rfl) rfl rfl hl.1 rfl (lv_room (Nat.le_of_ble_eq_true rfl)) dX8_chain_51 ⟨Nat.le_of_ble_eq_true rfl, Nat.le_of_ble_eq_true rfl⟩) hP hD hS hA [0, 1] [2] [1, 2, 0] rfl rfl (by decide) (by decide) rfl (by decide) (fun H locs hP hD hS => ?_)
      refine lv_if_ne (tgt := 61) hx hb dX8_chain_54 (by decide) (fun c_7 => ?_) (fun c_7 => ?_)
      · refine lv_iload hx hb dX8_chain_61 (lv_at hl 0 rfl) ?_
        refine lv_if_eq (tgt := 70) hx hb dX8_chain_63 (by decide) (fun c_8 => absurd c_8 (by decide)) (fun _ => ?_)
        refine lv_iconst (v := 0) hx hb dX8_chain_66 (by decide) ?_
        refine lv_goto (tgt := 71) hx hb dX8_chain_67 (by decide) ?_
        have h9 : (kc_X8_chain nw pa next step) = 0 := (if_pos c_1).trans ((if_neg c_2).trans ((if_neg c_7).trans (rfl)))
        exact absurd h9 hk
      · refine lv_iconst (v := 1) hx hb dX8_chain_57 (by decide) ?_
        refine lv_goto (tgt := 71) hx hb dX8_chain_58 (by decide) ?_
        refine k_ai (wr := [(nw0, .inl (g 0, 748, .inl nw)), (di0, .inl (g 0, 10472, .inl di))]) (w2 := [(m0, .inr (8, [.int 1, .ref sc0, .int (nI ss), .int (nI sp), .int ig, .int lo, .ref rd0, .ref nw0, .ref tr0, .ref di0, .int (nI ac), .ref ke0, .ref ik0, .ref cp0, .ref cn0, .ref be0])), (nw0, .inl (g 0, 748, .inl nw)), (di0, .inl (g 0, 10472, .inl di))]) (va_runV (As := [.int 1]) (rest := []) ⟨hx, hb, hml, hown, hts⟩ (c_X8_refused1 l D g m0 sc0 rd0 nw0 tr0 di0 ke0 ik0 cp0 cn0 be0 H.size rf ss sp ig lo ac) (cwV 1 hts gX8_chain_X8_refused rfl rfl rfl (by decide +kernel) (k_lvl (by omega) (by decide))) (kPV hP hD hK hS hA hE [0] rfl (by decide) 0 8 rfl rfl rfl) rfl rfl hl.1 rfl (lv_room (Nat.le_of_ble_eq_true rfl)) dX8_chain_71 ⟨Nat.le_of_ble_eq_true rfl, Nat.le_of_ble_eq_true rfl⟩) hP hD hS hA [0] [1, 2] [2, 0, 1] rfl rfl (by decide) (by decide) rfl (by decide) (fun H locs hP hD hS => ?_)
        refine lv_if_eq (tgt := 79) hx hb dX8_chain_74 (by decide) (fun c_9 => absurd c_9 (by decide)) (fun _ => ?_)
        refine lv_iconst (v := 0) hx hb dX8_chain_77 (by decide) ?_
        subst hQ
        exact k_ri hx hb hr hlocks hP hD hS dX8_chain_78 (rfl) (by rw [show (kc_X8_chain nw pa next step) = 1 from (if_pos c_1).trans ((if_neg c_2).trans ((if_pos c_7).trans (rfl)))])
  · refine lv_iload_n hx hb dX8_chain_7 rfl (lv_at hl 2 rfl) ?_
    refine lv_i2l (v := (Int32.toInt64 next)) hx hb dX8_chain_8 rfl ?_
    refine lv_lconst (v := 0) hx hb dX8_chain_9 (by decide) ?_
    refine lv_aload_n hx hb dX8_chain_10 rfl (lv_at hl 0 rfl) ?_
    refine lv_iload_n hx hb dX8_chain_11 rfl (lv_at hl 1 rfl) ?_
    refine k_ai (wr := [(di0, .inl (g 0, 10472, .inl di))]) (w2 := [(m0, .inr (8, [.int rf, .ref sc0, .int (nI ss), .int (nI sp), .int ig, .int lo, .ref rd0, .ref nw0, .ref tr0, .ref di0, .int (nI ac), .ref ke0, .ref ik0, .ref cp0, .ref cn0, .ref be0])), (nw0, .inl (g 0, 748, .inl nw)), (di0, .inl (g 0, 10472, .inl di))]) (va_runV (As := [.int pa]) (rest := [.long 0, .long (Int32.toInt64 next)]) ⟨hx, hb, hml, hown, hts⟩ (c_X8_isPart l D g m0 sc0 rd0 nw0 tr0 di0 ke0 ik0 cp0 cn0 be0 H.size rf ss sp ig lo ac nw pa) (cwV 1 hts gX8_chain_X8_isPart rfl rfl rfl (by decide +kernel) (k_lvl (by omega) (by decide))) (kPV hP hD hK hS hA hE [0, 1] rfl (by decide) 0 8 rfl rfl rfl) rfl rfl hl.1 rfl (lv_room (Nat.le_of_ble_eq_true rfl)) dX8_chain_12 ⟨Nat.le_of_ble_eq_true rfl, Nat.le_of_ble_eq_true rfl⟩) hP hD hS hA [0, 1] [2] [1, 2, 0] rfl rfl (by decide) (by decide) rfl (by decide) (fun H locs hP hD hS => ?_)
    refine lv_if_eq (tgt := 25) hx hb dX8_chain_15 (by decide) (fun c_10 => ?_) (fun c_10 => ?_)
    · refine lv_ldc2 hx hb hown (hts _ qc_X8_chain_bad_X8_chain_0) dX8_chain_25 ?_
      refine k_ai (wr := [(m0, .inr (8, [.int rf, .ref sc0, .int (nI ss), .int (nI sp), .int ig, .int lo, .ref rd0, .ref nw0, .ref tr0, .ref di0, .int (nI ac), .ref ke0, .ref ik0, .ref cp0, .ref cn0, .ref be0])), (nw0, .inl (g 0, 748, .inl nw)), (di0, .inl (g 0, 10472, .inl di))]) (w2 := [(m0, .inr (8, [.int rf, .ref sc0, .int (nI ss), .int (nI sp), .int ig, .int lo, .ref rd0, .ref nw0, .ref tr0, .ref di0, .int (nI ac), .ref ke0, .ref ik0, .ref cp0, .ref cn0, .ref be0])), (nw0, .inl (g 0, 748, .inl nw)), (di0, .inl (g 0, 10472, .inl di))]) (va_runS (As := [.long (Int32.toInt64 next), .long 0, .long (-1)]) (rest := []) ⟨hx, hb, hml, hown, hts⟩ (c_X8_in l D g H.size (Int32.toInt64 next) 0 (-1)) (va_cwS 3 hts gX8_chain_X8_in rfl rfl rfl (by decide +kernel) (k_lvl (by omega) (by decide))) (kPS hP hD hK hS hA hE [] rfl (by decide)) rfl rfl hl.1 rfl (lv_room (Nat.le_of_ble_eq_true rfl)) dX8_chain_28 ⟨Nat.le_of_ble_eq_true rfl, Nat.le_of_ble_eq_true rfl⟩) hP hD hS hA [] [0, 1, 2] [0, 1, 2] rfl rfl (by decide) (by decide) rfl (by decide) (fun H locs hP hD hS => ?_)
      refine lv_if_eq (tgt := 45) hx hb dX8_chain_31 (by decide) (fun c_11 => ?_) (fun c_11 => ?_)
      · refine lv_iconst (v := 0) hx hb dX8_chain_45 (by decide) ?_
        refine lv_istore (lv' := [(4, .int 0), (0, .ref m0), (1, .int pa), (2, .int next), (3, .int step)]) hx hb dX8_chain_46 hl (by decide) rfl (fun ls hl => ?_)
        refine lv_aload_n hx hb dX8_chain_48 rfl (lv_at hl 1 rfl) ?_
        refine lv_aload_n hx hb dX8_chain_49 rfl (lv_at hl 1 rfl) ?_
        refine lv_iload_n hx hb dX8_chain_50 rfl (lv_at hl 2 rfl) ?_
        refine k_ai (wr := [(di0, .inl (g 0, 10472, .inl di))]) (w2 := [(m0, .inr (8, [.int rf, .ref sc0, .int (nI ss), .int (nI sp), .int ig, .int lo, .ref rd0, .ref nw0, .ref tr0, .ref di0, .int (nI ac), .ref ke0, .ref ik0, .ref cp0, .ref cn0, .ref be0])), (nw0, .inl (g 0, 748, .inl nw)), (di0, .inl (g 0, 10472, .inl di))]) (va_runV (As := [.int pa]) (rest := [.ref m0]) ⟨hx, hb, hml, hown, hts⟩ (c_X8_isPart l D g m0 sc0 rd0 nw0 tr0 di0 ke0 ik0 cp0 cn0 be0 H.size rf ss sp ig lo ac nw pa) (cwV 1 hts gX8_chain_X8_isPart rfl rfl rfl (by decide +kernel) (k_lvl (by omega) (by decide))) (kPV hP hD hK hS hA hE [0, 1] rfl (by decide) 0 8 rfl rfl rfl) rfl rfl hl.1 rfl (lv_room (Nat.le_of_ble_eq_true rfl)) dX8_chain_51 ⟨Nat.le_of_ble_eq_true rfl, Nat.le_of_ble_eq_true rfl⟩) hP hD hS hA [0, 1] [2] [1, 2, 0] rfl rfl (by decide) (by decide) rfl (by decide) (fun H locs hP hD hS => ?_)
        refine lv_if_ne (tgt := 61) hx hb dX8_chain_54 (by decide) (fun c_12 => absurd c_10 c_12) (fun _ => ?_)
        refine lv_iconst (v := 1) hx hb dX8_chain_57 (by decide) ?_
        refine lv_goto (tgt := 71) hx hb dX8_chain_58 (by decide) ?_
        refine k_ai (wr := [(nw0, .inl (g 0, 748, .inl nw)), (di0, .inl (g 0, 10472, .inl di))]) (w2 := [(m0, .inr (8, [.int 1, .ref sc0, .int (nI ss), .int (nI sp), .int ig, .int lo, .ref rd0, .ref nw0, .ref tr0, .ref di0, .int (nI ac), .ref ke0, .ref ik0, .ref cp0, .ref cn0, .ref be0])), (nw0, .inl (g 0, 748, .inl nw)), (di0, .inl (g 0, 10472, .inl di))]) (va_runV (As := [.int 1]) (rest := []) ⟨hx, hb, hml, hown, hts⟩ (c_X8_refused1 l D g m0 sc0 rd0 nw0 tr0 di0 ke0 ik0 cp0 cn0 be0 H.size rf ss sp ig lo ac) (cwV 1 hts gX8_chain_X8_refused rfl rfl rfl (by decide +kernel) (k_lvl (by omega) (by decide))) (kPV hP hD hK hS hA hE [0] rfl (by decide) 0 8 rfl rfl rfl) rfl rfl hl.1 rfl (lv_room (Nat.le_of_ble_eq_true rfl)) dX8_chain_71 ⟨Nat.le_of_ble_eq_true rfl, Nat.le_of_ble_eq_true rfl⟩) hP hD hS hA [0] [1, 2] [2, 0, 1] rfl rfl (by decide) (by decide) rfl (by decide) (fun H locs hP hD hS => ?_)
        refine lv_if_eq (tgt := 79) hx hb dX8_chain_74 (by decide) (fun c_13 => absurd c_13 (by decide)) (fun _ => ?_)
        refine lv_iconst (v := 0) hx hb dX8_chain_77 (by decide) ?_
        subst hQ
        exact k_ri hx hb hr hlocks hP hD hS dX8_chain_78 (rfl) (by rw [show (kc_X8_chain nw pa next step) = 1 from (if_neg c_1).trans ((if_pos c_10).trans ((if_pos c_11).trans (rfl)))])
      · refine lv_iload_n hx hb dX8_chain_34 rfl (lv_at hl 3 rfl) ?_
        refine k_ai (wr := [(m0, .inr (8, [.int rf, .ref sc0, .int (nI ss), .int (nI sp), .int ig, .int lo, .ref rd0, .ref nw0, .ref tr0, .ref di0, .int (nI ac), .ref ke0, .ref ik0, .ref cp0, .ref cn0, .ref be0])), (nw0, .inl (g 0, 748, .inl nw)), (di0, .inl (g 0, 10472, .inl di))]) (w2 := [(m0, .inr (8, [.int rf, .ref sc0, .int (nI ss), .int (nI sp), .int ig, .int lo, .ref rd0, .ref nw0, .ref tr0, .ref di0, .int (nI ac), .ref ke0, .ref ik0, .ref cp0, .ref cn0, .ref be0])), (nw0, .inl (g 0, 748, .inl nw)), (di0, .inl (g 0, 10472, .inl di))]) (va_runS (As := [.int step]) (rest := []) ⟨hx, hb, hml, hown, hts⟩ (c_X8_isSmall l D g H.size step) (va_cwS 1 hts gX8_chain_X8_isSmall rfl rfl rfl (by decide +kernel) (k_lvl (by omega) (by decide))) (kPS hP hD hK hS hA hE [] rfl (by decide)) rfl rfl hl.1 rfl (lv_room (Nat.le_of_ble_eq_true rfl)) dX8_chain_35 ⟨Nat.le_of_ble_eq_true rfl, Nat.le_of_ble_eq_true rfl⟩) hP hD hS hA [] [0, 1, 2] [0, 1, 2] rfl rfl (by decide) (by decide) rfl (by decide) (fun H locs hP hD hS => ?_)
        refine lv_if_eq (tgt := 45) hx hb dX8_chain_38 (by decide) (fun c_14 => ?_) (fun c_14 => ?_)
        · refine lv_iconst (v := 0) hx hb dX8_chain_45 (by decide) ?_
          refine lv_istore (lv' := [(4, .int 0), (0, .ref m0), (1, .int pa), (2, .int next), (3, .int step)]) hx hb dX8_chain_46 hl (by decide) rfl (fun ls hl => ?_)
          refine lv_aload_n hx hb dX8_chain_48 rfl (lv_at hl 1 rfl) ?_
          refine lv_aload_n hx hb dX8_chain_49 rfl (lv_at hl 1 rfl) ?_
          refine lv_iload_n hx hb dX8_chain_50 rfl (lv_at hl 2 rfl) ?_
          refine k_ai (wr := [(di0, .inl (g 0, 10472, .inl di))]) (w2 := [(m0, .inr (8, [.int rf, .ref sc0, .int (nI ss), .int (nI sp), .int ig, .int lo, .ref rd0, .ref nw0, .ref tr0, .ref di0, .int (nI ac), .ref ke0, .ref ik0, .ref cp0, .ref cn0, .ref be0])), (nw0, .inl (g 0, 748, .inl nw)), (di0, .inl (g 0, 10472, .inl di))]) (va_runV (As := [.int pa]) (rest := [.ref m0]) ⟨hx, hb, hml, hown, hts⟩ (c_X8_isPart l D g m0 sc0 rd0 nw0 tr0 di0 ke0 ik0 cp0 cn0 be0 H.size rf ss sp ig lo ac nw pa) (cwV 1 hts gX8_chain_X8_isPart rfl rfl rfl (by decide +kernel) (k_lvl (by omega) (by decide))) (kPV hP hD hK hS hA hE [0, 1] rfl (by decide) 0 8 rfl rfl rfl) rfl rfl hl.1 rfl (lv_room (Nat.le_of_ble_eq_true rfl)) dX8_chain_51 ⟨Nat.le_of_ble_eq_true rfl, Nat.le_of_ble_eq_true rfl⟩) hP hD hS hA [0, 1] [2] [1, 2, 0] rfl rfl (by decide) (by decide) rfl (by decide) (fun H locs hP hD hS => ?_)
          refine lv_if_ne (tgt := 61) hx hb dX8_chain_54 (by decide) (fun c_15 => absurd c_10 c_15) (fun _ => ?_)
          refine lv_iconst (v := 1) hx hb dX8_chain_57 (by decide) ?_
          refine lv_goto (tgt := 71) hx hb dX8_chain_58 (by decide) ?_
          refine k_ai (wr := [(nw0, .inl (g 0, 748, .inl nw)), (di0, .inl (g 0, 10472, .inl di))]) (w2 := [(m0, .inr (8, [.int 1, .ref sc0, .int (nI ss), .int (nI sp), .int ig, .int lo, .ref rd0, .ref nw0, .ref tr0, .ref di0, .int (nI ac), .ref ke0, .ref ik0, .ref cp0, .ref cn0, .ref be0])), (nw0, .inl (g 0, 748, .inl nw)), (di0, .inl (g 0, 10472, .inl di))]) (va_runV (As := [.int 1]) (rest := []) ⟨hx, hb, hml, hown, hts⟩ (c_X8_refused1 l D g m0 sc0 rd0 nw0 tr0 di0 ke0 ik0 cp0 cn0 be0 H.size rf ss sp ig lo ac) (cwV 1 hts gX8_chain_X8_refused rfl rfl rfl (by decide +kernel) (k_lvl (by omega) (by decide))) (kPV hP hD hK hS hA hE [0] rfl (by decide) 0 8 rfl rfl rfl) rfl rfl hl.1 rfl (lv_room (Nat.le_of_ble_eq_true rfl)) dX8_chain_71 ⟨Nat.le_of_ble_eq_true rfl, Nat.le_of_ble_eq_true rfl⟩) hP hD hS hA [0] [1, 2] [2, 0, 1] rfl rfl (by decide) (by decide) rfl (by decide) (fun H locs hP hD hS => ?_)
          refine lv_if_eq (tgt := 79) hx hb dX8_chain_74 (by decide) (fun c_16 => absurd c_16 (by decide)) (fun _ => ?_)
          refine lv_iconst (v := 0) hx hb dX8_chain_77 (by decide) ?_
          subst hQ
          exact k_ri hx hb hr hlocks hP hD hS dX8_chain_78 (rfl) (by rw [show (kc_X8_chain nw pa next step) = 1 from (if_neg c_1).trans ((if_pos c_10).trans ((if_neg c_11).trans ((if_pos c_14).trans (rfl))))])
        · refine lv_iconst (v := 1) hx hb dX8_chain_41 (by decide) ?_
          refine lv_goto (tgt := 46) hx hb dX8_chain_42 (by decide) ?_
          refine lv_istore (lv' := [(4, .int 1), (0, .ref m0), (1, .int pa), (2, .int next), (3, .int step)]) hx hb dX8_chain_46 hl (by decide) rfl (fun ls hl => ?_)
          refine lv_aload_n hx hb dX8_chain_48 rfl (lv_at hl 1 rfl) ?_
          refine lv_aload_n hx hb dX8_chain_49 rfl (lv_at hl 1 rfl) ?_
          refine lv_iload_n hx hb dX8_chain_50 rfl (lv_at hl 2 rfl) ?_
          refine k_ai (wr := [(di0, .inl (g 0, 10472, .inl di))]) (w2 := [(m0, .inr (8, [.int rf, .ref sc0, .int (nI ss), .int (nI sp), .int ig, .int lo, .ref rd0, .ref nw0, .ref tr0, .ref di0, .int (nI ac), .ref ke0, .ref ik0, .ref cp0, .ref cn0, .ref be0])), (nw0, .inl (g 0, 748, .inl nw)), (di0, .inl (g 0, 10472, .inl di))]) (va_runV (As := [.int pa]) (rest := [.ref m0]) ⟨hx, hb, hml, hown, hts⟩ (c_X8_isPart l D g m0 sc0 rd0 nw0 tr0 di0 ke0 ik0 cp0 cn0 be0 H.size rf ss sp ig lo ac nw pa) (cwV 1 hts gX8_chain_X8_isPart rfl rfl rfl (by decide +kernel) (k_lvl (by omega) (by decide))) (kPV hP hD hK hS hA hE [0, 1] rfl (by decide) 0 8 rfl rfl rfl) rfl rfl hl.1 rfl (lv_room (Nat.le_of_ble_eq_true rfl)) dX8_chain_51 ⟨Nat.le_of_ble_eq_true rfl, Nat.le_of_ble_eq_true rfl⟩) hP hD hS hA [0, 1] [2] [1, 2, 0] rfl rfl (by decide) (by decide) rfl (by decide) (fun H locs hP hD hS => ?_)
          refine lv_if_ne (tgt := 61) hx hb dX8_chain_54 (by decide) (fun c_17 => absurd c_10 c_17) (fun _ => ?_)
          refine lv_iconst (v := 1) hx hb dX8_chain_57 (by decide) ?_
          refine lv_goto (tgt := 71) hx hb dX8_chain_58 (by decide) ?_
          refine k_ai (wr := [(nw0, .inl (g 0, 748, .inl nw)), (di0, .inl (g 0, 10472, .inl di))]) (w2 := [(m0, .inr (8, [.int 1, .ref sc0, .int (nI ss), .int (nI sp), .int ig, .int lo, .ref rd0, .ref nw0, .ref tr0, .ref di0, .int (nI ac), .ref ke0, .ref ik0, .ref cp0, .ref cn0, .ref be0])), (nw0, .inl (g 0, 748, .inl nw)), (di0, .inl (g 0, 10472, .inl di))]) (va_runV (As := [.int 1]) (rest := []) ⟨hx, hb, hml, hown, hts⟩ (c_X8_refused1 l D g m0 sc0 rd0 nw0 tr0 di0 ke0 ik0 cp0 cn0 be0 H.size rf ss sp ig lo ac) (cwV 1 hts gX8_chain_X8_refused rfl rfl rfl (by decide +kernel) (k_lvl (by omega) (by decide))) (kPV hP hD hK hS hA hE [0] rfl (by decide) 0 8 rfl rfl rfl) rfl rfl hl.1 rfl (lv_room (Nat.le_of_ble_eq_true rfl)) dX8_chain_71 ⟨Nat.le_of_ble_eq_true rfl, Nat.le_of_ble_eq_true rfl⟩) hP hD hS hA [0] [1, 2] [2, 0, 1] rfl rfl (by decide) (by decide) rfl (by decide) (fun H locs hP hD hS => ?_)
          refine lv_if_eq (tgt := 79) hx hb dX8_chain_74 (by decide) (fun c_18 => absurd c_18 (by decide)) (fun _ => ?_)
          refine lv_iconst (v := 0) hx hb dX8_chain_77 (by decide) ?_
          subst hQ
          exact k_ri hx hb hr hlocks hP hD hS dX8_chain_78 (rfl) (by rw [show (kc_X8_chain nw pa next step) = 1 from (if_neg c_1).trans ((if_pos c_10).trans ((if_neg c_11).trans ((if_neg c_14).trans (rfl))))])
    · refine lv_iload_n hx hb dX8_chain_18 rfl (lv_at hl 1 rfl) ?_
      refine lv_iconst (v := 1) hx hb dX8_chain_19 (by decide) ?_
      refine lv_isub hx hb dX8_chain_20 ?_
      refine lv_i2l (v := (Int32.toInt64 (pa - 1))) hx hb dX8_chain_21 rfl ?_
      refine lv_goto (tgt := 28) hx hb dX8_chain_22 (by decide) ?_
      refine k_ai (wr := [(m0, .inr (8, [.int rf, .ref sc0, .int (nI ss), .int (nI sp), .int ig, .int lo, .ref rd0, .ref nw0, .ref tr0, .ref di0, .int (nI ac), .ref ke0, .ref ik0, .ref cp0, .ref cn0, .ref be0])), (nw0, .inl (g 0, 748, .inl nw)), (di0, .inl (g 0, 10472, .inl di))]) (w2 := [(m0, .inr (8, [.int rf, .ref sc0, .int (nI ss), .int (nI sp), .int ig, .int lo, .ref rd0, .ref nw0, .ref tr0, .ref di0, .int (nI ac), .ref ke0, .ref ik0, .ref cp0, .ref cn0, .ref be0])), (nw0, .inl (g 0, 748, .inl nw)), (di0, .inl (g 0, 10472, .inl di))]) (va_runS (As := [.long (Int32.toInt64 next), .long 0, .long (Int32.toInt64 (pa - 1))]) (rest := []) ⟨hx, hb, hml, hown, hts⟩ (c_X8_in l D g H.size (Int32.toInt64 next) 0 (Int32.toInt64 (pa - 1))) (va_cwS 3 hts gX8_chain_X8_in rfl rfl rfl (by decide +kernel) (k_lvl (by omega) (by decide))) (kPS hP hD hK hS hA hE [] rfl (by decide)) rfl rfl hl.1 rfl (lv_room (Nat.le_of_ble_eq_true rfl)) dX8_chain_28 ⟨Nat.le_of_ble_eq_true rfl, Nat.le_of_ble_eq_true rfl⟩) hP hD hS hA [] [0, 1, 2] [0, 1, 2] rfl rfl (by decide) (by decide) rfl (by decide) (fun H locs hP hD hS => ?_)
      refine lv_if_eq (tgt := 45) hx hb dX8_chain_31 (by decide) (fun c_19 => ?_) (fun c_19 => ?_)
      · refine lv_iconst (v := 0) hx hb dX8_chain_45 (by decide) ?_
        refine lv_istore (lv' := [(4, .int 0), (0, .ref m0), (1, .int pa), (2, .int next), (3, .int step)]) hx hb dX8_chain_46 hl (by decide) rfl (fun ls hl => ?_)
        refine lv_aload_n hx hb dX8_chain_48 rfl (lv_at hl 1 rfl) ?_
        refine lv_aload_n hx hb dX8_chain_49 rfl (lv_at hl 1 rfl) ?_
        refine lv_iload_n hx hb dX8_chain_50 rfl (lv_at hl 2 rfl) ?_
        refine k_ai (wr := [(di0, .inl (g 0, 10472, .inl di))]) (w2 := [(m0, .inr (8, [.int rf, .ref sc0, .int (nI ss), .int (nI sp), .int ig, .int lo, .ref rd0, .ref nw0, .ref tr0, .ref di0, .int (nI ac), .ref ke0, .ref ik0, .ref cp0, .ref cn0, .ref be0])), (nw0, .inl (g 0, 748, .inl nw)), (di0, .inl (g 0, 10472, .inl di))]) (va_runV (As := [.int pa]) (rest := [.ref m0]) ⟨hx, hb, hml, hown, hts⟩ (c_X8_isPart l D g m0 sc0 rd0 nw0 tr0 di0 ke0 ik0 cp0 cn0 be0 H.size rf ss sp ig lo ac nw pa) (cwV 1 hts gX8_chain_X8_isPart rfl rfl rfl (by decide +kernel) (k_lvl (by omega) (by decide))) (kPV hP hD hK hS hA hE [0, 1] rfl (by decide) 0 8 rfl rfl rfl) rfl rfl hl.1 rfl (lv_room (Nat.le_of_ble_eq_true rfl)) dX8_chain_51 ⟨Nat.le_of_ble_eq_true rfl, Nat.le_of_ble_eq_true rfl⟩) hP hD hS hA [0, 1] [2] [1, 2, 0] rfl rfl (by decide) (by decide) rfl (by decide) (fun H locs hP hD hS => ?_)
        refine lv_if_ne (tgt := 61) hx hb dX8_chain_54 (by decide) (fun _ => ?_) (fun c_20 => absurd c_20 c_10)
        refine lv_iload hx hb dX8_chain_61 (lv_at hl 0 rfl) ?_
        refine lv_if_eq (tgt := 70) hx hb dX8_chain_63 (by decide) (fun _ => ?_) (fun c_21 => absurd c_21 (by decide))
        refine lv_iconst (v := 2) hx hb dX8_chain_70 (by decide) ?_
        refine k_ai (wr := [(nw0, .inl (g 0, 748, .inl nw)), (di0, .inl (g 0, 10472, .inl di))]) (w2 := [(m0, .inr (8, [.int 2, .ref sc0, .int (nI ss), .int (nI sp), .int ig, .int lo, .ref rd0, .ref nw0, .ref tr0, .ref di0, .int (nI ac), .ref ke0, .ref ik0, .ref cp0, .ref cn0, .ref be0])), (nw0, .inl (g 0, 748, .inl nw)), (di0, .inl (g 0, 10472, .inl di))]) (va_runV (As := [.int 2]) (rest := []) ⟨hx, hb, hml, hown, hts⟩ (c_X8_refused2 l D g m0 sc0 rd0 nw0 tr0 di0 ke0 ik0 cp0 cn0 be0 H.size rf ss sp ig lo ac) (cwV 1 hts gX8_chain_X8_refused rfl rfl rfl (by decide +kernel) (k_lvl (by omega) (by decide))) (kPV hP hD hK hS hA hE [0] rfl (by decide) 0 8 rfl rfl rfl) rfl rfl hl.1 rfl (lv_room (Nat.le_of_ble_eq_true rfl)) dX8_chain_71 ⟨Nat.le_of_ble_eq_true rfl, Nat.le_of_ble_eq_true rfl⟩) hP hD hS hA [0] [1, 2] [2, 0, 1] rfl rfl (by decide) (by decide) rfl (by decide) (fun H locs hP hD hS => ?_)
        refine lv_if_eq (tgt := 79) hx hb dX8_chain_74 (by decide) (fun c_22 => absurd c_22 (by decide)) (fun _ => ?_)
        refine lv_iconst (v := 0) hx hb dX8_chain_77 (by decide) ?_
        subst hQ
        exact k_ri hx hb hr hlocks hP hD hS dX8_chain_78 (rfl) (by rw [show (kc_X8_chain nw pa next step) = 2 from (if_neg c_1).trans ((if_neg c_10).trans ((if_pos c_19).trans (rfl)))])
      · refine lv_iload_n hx hb dX8_chain_34 rfl (lv_at hl 3 rfl) ?_
        refine k_ai (wr := [(m0, .inr (8, [.int rf, .ref sc0, .int (nI ss), .int (nI sp), .int ig, .int lo, .ref rd0, .ref nw0, .ref tr0, .ref di0, .int (nI ac), .ref ke0, .ref ik0, .ref cp0, .ref cn0, .ref be0])), (nw0, .inl (g 0, 748, .inl nw)), (di0, .inl (g 0, 10472, .inl di))]) (w2 := [(m0, .inr (8, [.int rf, .ref sc0, .int (nI ss), .int (nI sp), .int ig, .int lo, .ref rd0, .ref nw0, .ref tr0, .ref di0, .int (nI ac), .ref ke0, .ref ik0, .ref cp0, .ref cn0, .ref be0])), (nw0, .inl (g 0, 748, .inl nw)), (di0, .inl (g 0, 10472, .inl di))]) (va_runS (As := [.int step]) (rest := []) ⟨hx, hb, hml, hown, hts⟩ (c_X8_isSmall l D g H.size step) (va_cwS 1 hts gX8_chain_X8_isSmall rfl rfl rfl (by decide +kernel) (k_lvl (by omega) (by decide))) (kPS hP hD hK hS hA hE [] rfl (by decide)) rfl rfl hl.1 rfl (lv_room (Nat.le_of_ble_eq_true rfl)) dX8_chain_35 ⟨Nat.le_of_ble_eq_true rfl, Nat.le_of_ble_eq_true rfl⟩) hP hD hS hA [] [0, 1, 2] [0, 1, 2] rfl rfl (by decide) (by decide) rfl (by decide) (fun H locs hP hD hS => ?_)
        refine lv_if_eq (tgt := 45) hx hb dX8_chain_38 (by decide) (fun c_23 => ?_) (fun c_23 => ?_)
        · refine lv_iconst (v := 0) hx hb dX8_chain_45 (by decide) ?_
          refine lv_istore (lv' := [(4, .int 0), (0, .ref m0), (1, .int pa), (2, .int next), (3, .int step)]) hx hb dX8_chain_46 hl (by decide) rfl (fun ls hl => ?_)
          refine lv_aload_n hx hb dX8_chain_48 rfl (lv_at hl 1 rfl) ?_
          refine lv_aload_n hx hb dX8_chain_49 rfl (lv_at hl 1 rfl) ?_
          refine lv_iload_n hx hb dX8_chain_50 rfl (lv_at hl 2 rfl) ?_
          refine k_ai (wr := [(di0, .inl (g 0, 10472, .inl di))]) (w2 := [(m0, .inr (8, [.int rf, .ref sc0, .int (nI ss), .int (nI sp), .int ig, .int lo, .ref rd0, .ref nw0, .ref tr0, .ref di0, .int (nI ac), .ref ke0, .ref ik0, .ref cp0, .ref cn0, .ref be0])), (nw0, .inl (g 0, 748, .inl nw)), (di0, .inl (g 0, 10472, .inl di))]) (va_runV (As := [.int pa]) (rest := [.ref m0]) ⟨hx, hb, hml, hown, hts⟩ (c_X8_isPart l D g m0 sc0 rd0 nw0 tr0 di0 ke0 ik0 cp0 cn0 be0 H.size rf ss sp ig lo ac nw pa) (cwV 1 hts gX8_chain_X8_isPart rfl rfl rfl (by decide +kernel) (k_lvl (by omega) (by decide))) (kPV hP hD hK hS hA hE [0, 1] rfl (by decide) 0 8 rfl rfl rfl) rfl rfl hl.1 rfl (lv_room (Nat.le_of_ble_eq_true rfl)) dX8_chain_51 ⟨Nat.le_of_ble_eq_true rfl, Nat.le_of_ble_eq_true rfl⟩) hP hD hS hA [0, 1] [2] [1, 2, 0] rfl rfl (by decide) (by decide) rfl (by decide) (fun H locs hP hD hS => ?_)
          refine lv_if_ne (tgt := 61) hx hb dX8_chain_54 (by decide) (fun _ => ?_) (fun c_24 => absurd c_24 c_10)
          refine lv_iload hx hb dX8_chain_61 (lv_at hl 0 rfl) ?_
          refine lv_if_eq (tgt := 70) hx hb dX8_chain_63 (by decide) (fun _ => ?_) (fun c_25 => absurd c_25 (by decide))
          refine lv_iconst (v := 2) hx hb dX8_chain_70 (by decide) ?_
          refine k_ai (wr := [(nw0, .inl (g 0, 748, .inl nw)), (di0, .inl (g 0, 10472, .inl di))]) (w2 := [(m0, .inr (8, [.int 2, .ref sc0, .int (nI ss), .int (nI sp), .int ig, .int lo, .ref rd0, .ref nw0, .ref tr0, .ref di0, .int (nI ac), .ref ke0, .ref ik0, .ref cp0, .ref cn0, .ref be0])), (nw0, .inl (g 0, 748, .inl nw)), (di0, .inl (g 0, 10472, .inl di))]) (va_runV (As := [.int 2]) (rest := []) ⟨hx, hb, hml, hown, hts⟩ (c_X8_refused2 l D g m0 sc0 rd0 nw0 tr0 di0 ke0 ik0 cp0 cn0 be0 H.size rf ss sp ig lo ac) (cwV 1 hts gX8_chain_X8_refused rfl rfl rfl (by decide +kernel) (k_lvl (by omega) (by decide))) (kPV hP hD hK hS hA hE [0] rfl (by decide) 0 8 rfl rfl rfl) rfl rfl hl.1 rfl (lv_room (Nat.le_of_ble_eq_true rfl)) dX8_chain_71 ⟨Nat.le_of_ble_eq_true rfl, Nat.le_of_ble_eq_true rfl⟩) hP hD hS hA [0] [1, 2] [2, 0, 1] rfl rfl (by decide) (by decide) rfl (by decide) (fun H locs hP hD hS => ?_)
          refine lv_if_eq (tgt := 79) hx hb dX8_chain_74 (by decide) (fun c_26 => absurd c_26 (by decide)) (fun _ => ?_)
          refine lv_iconst (v := 0) hx hb dX8_chain_77 (by decide) ?_
          subst hQ
          exact k_ri hx hb hr hlocks hP hD hS dX8_chain_78 (rfl) (by rw [show (kc_X8_chain nw pa next step) = 2 from (if_neg c_1).trans ((if_neg c_10).trans ((if_neg c_19).trans ((if_pos c_23).trans (rfl))))])
        · refine lv_iconst (v := 1) hx hb dX8_chain_41 (by decide) ?_
          refine lv_goto (tgt := 46) hx hb dX8_chain_42 (by decide) ?_
          refine lv_istore (lv' := [(4, .int 1), (0, .ref m0), (1, .int pa), (2, .int next), (3, .int step)]) hx hb dX8_chain_46 hl (by decide) rfl (fun ls hl => ?_)
          refine lv_aload_n hx hb dX8_chain_48 rfl (lv_at hl 1 rfl) ?_
          refine lv_aload_n hx hb dX8_chain_49 rfl (lv_at hl 1 rfl) ?_
          refine lv_iload_n hx hb dX8_chain_50 rfl (lv_at hl 2 rfl) ?_
          refine k_ai (wr := [(di0, .inl (g 0, 10472, .inl di))]) (w2 := [(m0, .inr (8, [.int rf, .ref sc0, .int (nI ss), .int (nI sp), .int ig, .int lo, .ref rd0, .ref nw0, .ref tr0, .ref di0, .int (nI ac), .ref ke0, .ref ik0, .ref cp0, .ref cn0, .ref be0])), (nw0, .inl (g 0, 748, .inl nw)), (di0, .inl (g 0, 10472, .inl di))]) (va_runV (As := [.int pa]) (rest := [.ref m0]) ⟨hx, hb, hml, hown, hts⟩ (c_X8_isPart l D g m0 sc0 rd0 nw0 tr0 di0 ke0 ik0 cp0 cn0 be0 H.size rf ss sp ig lo ac nw pa) (cwV 1 hts gX8_chain_X8_isPart rfl rfl rfl (by decide +kernel) (k_lvl (by omega) (by decide))) (kPV hP hD hK hS hA hE [0, 1] rfl (by decide) 0 8 rfl rfl rfl) rfl rfl hl.1 rfl (lv_room (Nat.le_of_ble_eq_true rfl)) dX8_chain_51 ⟨Nat.le_of_ble_eq_true rfl, Nat.le_of_ble_eq_true rfl⟩) hP hD hS hA [0, 1] [2] [1, 2, 0] rfl rfl (by decide) (by decide) rfl (by decide) (fun H locs hP hD hS => ?_)
          refine lv_if_ne (tgt := 61) hx hb dX8_chain_54 (by decide) (fun _ => ?_) (fun c_27 => absurd c_27 c_10)
          refine lv_iload hx hb dX8_chain_61 (lv_at hl 0 rfl) ?_
          refine lv_if_eq (tgt := 70) hx hb dX8_chain_63 (by decide) (fun c_28 => absurd c_28 (by decide)) (fun _ => ?_)
          refine lv_iconst (v := 0) hx hb dX8_chain_66 (by decide) ?_
          refine lv_goto (tgt := 71) hx hb dX8_chain_67 (by decide) ?_
          have h9 : (kc_X8_chain nw pa next step) = 0 := (if_neg c_1).trans ((if_neg c_10).trans ((if_neg c_19).trans ((if_neg c_23).trans (rfl))))
          exact absurd h9 hk
end
