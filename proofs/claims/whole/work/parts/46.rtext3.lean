-- MODULE: the reference, its text, 3
/-- an equation that omega doesn't look at -/
def kEq {α : Type} (a b : α) : Prop := a = b
theorem in_09 {x : Int32} (h : ¬ f_X8_in (Int32.toInt64 x) 0 9 = 0) : ¬ x < 0 ∧ ¬ 10 ≤ x := by
  unfold f_X8_in at h
  have e : (Int32.toInt64 x).toInt = x.toInt := Int32.toInt_toInt64 x
  have e0 : (0 : Int64).toInt = 0 := by decide
  have e9 : (9 : Int64).toInt = 9 := by decide
  have f0 : (0 : Int32).toInt = 0 := by decide
  have f10 : (10 : Int32).toInt = 10 := by decide
  by_cases h1 : (Int32.toInt64 x) < 0
  · rw [if_pos h1] at h; exact absurd rfl h
  · rw [if_neg h1] at h
    by_cases h2 : 9 < Int32.toInt64 x
    · rw [if_pos h2] at h; exact absurd rfl h
    · refine ⟨fun q => h1 (Int64.lt_iff_toInt_lt.mpr ?_), fun q => h2 (Int64.lt_iff_toInt_lt.mpr ?_)⟩
      · have q1 := Int32.lt_iff_toInt_lt.mp q
        omega
      · have q1 := Int32.le_iff_toInt_le.mp q
        omega
theorem kDr_N (ss sp : Nat) (sc : Nat → Int32) (ig hi9 : Int32) : kDr ss sp sc ig 0 hi9 = nI (kDr ss sp sc ig 0 hi9).toNatClampNeg ∧ (kDr ss sp sc ig 0 hi9).toNatClampNeg ≤ 9 := by
  unfold kDr
  by_cases h1 : kAccG ig (kDb ss sp sc 0 hi9) = 0
  · rw [if_pos h1]
    decide
  · rw [if_neg h1]
    have h2 : ¬ kDb ss sp sc 0 hi9 = 0 := by
      intro h3
      apply h1
      unfold kAccG
      by_cases h4 : ig = 0
      · rw [if_pos h4]
      · rw [if_neg h4, if_pos h3]
    have h3 : ¬ f_X8_in (Int32.toInt64 (kDv ss sp sc)) 0 9 = 0 := by
      intro h4
      apply h2
      unfold kDb
      rw [if_pos h4]
    obtain ⟨h5, h6⟩ := in_09 h3
    exact ⟨k_cl h5, by have := k_clt (M := 10) (n := 10) (by decide) h5 h6; omega⟩
theorem goes_0 (ig lo : Int32) : (f_X8_goes ig lo 0).1 = 0 := by
  by_cases h : ig = 0 <;> simp [f_X8_goes, h]
def f_X8_readPart (ss : Nat) (sp : Nat) (ig : Int32) (lo : Int32) (sc : Nat → Int32) (rw : Nat → Int32) (mn : Nat) : Int32 × (Nat → Int32) :=
  if 10 ≤ mn then
    ((f_X8_goes (kUi ss (kUs ss sp sc ig 0) sc (kUi ss sp sc ig 0) 9) lo 0).2, rw)
  else
    if (f_X8_goes (kUi ss (kUs ss sp sc ig 0) sc (kUi ss sp sc ig 0) 9) lo 1).1 = 0 then
      ((f_X8_goes (kUi ss (kUs ss sp sc ig 0) sc (kUi ss sp sc ig 0) 9) lo 1).2, rw)
    else
      ((f_X8_goes (kUi ss (kUs ss sp sc ig 0) sc (kUi ss sp sc ig 0) 9) lo 1).2, (f_X8_addIn rw (kSv ss sp sc ig 0) (kSv ss (kUs ss sp sc ig 0) sc (kUi ss sp sc ig 0) 9) mn))
theorem qX8_readPart_0 : Cond.fieldLink RX8 13 "BlameChainsModel" "read" "[I" ∈ wsX8_readPart := (List.mem_cons_of_mem _ (List.mem_append_left _ (List.mem_append_left _ (List.mem_of_getElem? (i := 0) rfl))))
set_option maxHeartbeats 4000000 in
set_option maxRecDepth 100000 in
theorem c_X8_readPart (l : Launch) (D : va_G) (g : Nat → Nat) (m0 sc0 rd0 nw0 tr0 di0 ke0 ik0 cp0 cn0 be0 : Nat) (sz : Nat) (rf : Int32) (ss : Nat) (sp : Nat) (ig : Int32) (lo : Int32) (ac : Nat) (sc : Nat → Int32) (rw : Nat → Int32) (mn : Nat) (hss : ss ≤ 120) (hsp : sp ≤ 800) (hmn : rw 0 = nI mn) (hm9 : mn ≤ 10) : kMv l D g yX8_readPart wsX8_readPart 4 0 0 [.ref m0] [(m0, .inr (8, [.int rf, .ref sc0, .int (nI ss), .int (nI sp), .int ig, .int lo, .ref rd0, .ref nw0, .ref tr0, .ref di0, .int (nI ac), .ref ke0, .ref ik0, .ref cp0, .ref cn0, .ref be0])), (sc0, .inl (g 0, 120, .inl sc)), (rd0, .inl (g 0, 748, .inl rw))] sz [(m0, .inr (8, [.int rf, .ref sc0, .int (nI ss), .int (nI (kUs ss (kUs ss sp sc ig 0) sc (kUi ss sp sc ig 0) 9)), .int (kUi ss (kUs ss sp sc ig 0) sc (kUi ss sp sc ig 0) 9), .int ((f_X8_readPart ss sp ig lo sc rw mn).1), .ref rd0, .ref nw0, .ref tr0, .ref di0, .int (nI ac), .ref ke0, .ref ik0, .ref cp0, .ref cn0, .ref be0])), (sc0, .inl (g 0, 120, .inl sc)), (rd0, .inl (g 0, 748, .inl ((f_X8_readPart ss sp ig lo sc rw mn).2)))] := by
  refine k_enter (nm := "readPart") (own := RX8) (bytes := cX8_readPart) (maxL := 3) (ret := none) (Qf := fun A => kQv D [(m0, .inr (8, [.int rf, .ref sc0, .int (nI ss), .int (nI (kUs ss (kUs ss sp sc ig 0) sc (kUi ss sp sc ig 0) 9)), .int (kUi ss (kUs ss sp sc ig 0) sc (kUi ss sp sc ig 0) 9), .int ((f_X8_readPart ss sp ig lo sc rw mn).1), .ref rd0, .ref nw0, .ref tr0, .ref di0, .int (nI ac), .ref ke0, .ref ik0, .ref cp0, .ref cn0, .ref be0])), (sc0, .inl (g 0, 120, .inl sc)), (rd0, .inl (g 0, 748, .inl ((f_X8_readPart ss sp ig lo sc rw mn).2)))] A) (by decide) rfl rfl rfl (Nat.le_of_ble_eq_true rfl) ?_
  rintro pp ee s mm below meth cc A ls args Q H locs hQ ⟨hx, hb, hr, hml, hown, hts, hlocks, hin⟩ hP hK hD hA hS hE hl
  have hl : lv_has ls 3 [(0, .ref m0)] := hl
  refine lv_aload_n hx hb dX8_readPart_0 rfl (lv_at hl 0 rfl) ?_
  refine lv_iconst (v := 0) hx hb dX8_readPart_1 (by decide) ?_
  have hC := c_X8_signed l D g m0 sc0 rd0 nw0 tr0 di0 ke0 ik0 cp0 cn0 be0 H.size rf ss sp ig lo ac sc 0 (by omega) (by omega)
  obtain ⟨n_1, en_1⟩ : ∃ z, z = (kUs ss sp sc ig 0) := ⟨_, rfl⟩
  rw [← en_1] at hC
  have hbn_1 : n_1 ≤ sp + 3 := by rw [en_1]; exact kUs_le _ _ _ _ _
  have kn_1 : kEq n_1 (kUs ss sp sc ig 0) := en_1
  clear en_1
  obtain ⟨n_2, en_2⟩ : ∃ z, z = (kUi ss sp sc ig 0) := ⟨_, rfl⟩
  rw [← en_2] at hC
  have kn_2 : kEq n_2 (kUi ss sp sc ig 0) := en_2
  clear en_2
  refine k_ai (wr := [(rd0, .inl (g 0, 748, .inl rw))]) (w2 := [(m0, .inr (8, [.int rf, .ref sc0, .int (nI ss), .int (nI n_1), .int n_2, .int lo, .ref rd0, .ref nw0, .ref tr0, .ref di0, .int (nI ac), .ref ke0, .ref ik0, .ref cp0, .ref cn0, .ref be0])), (sc0, .inl (g 0, 120, .inl sc)), (rd0, .inl (g 0, 748, .inl rw))]) (va_runV (As := [.int 0]) (rest := []) ⟨hx, hb, hml, hown, hts⟩ hC (cwV 1 hts gX8_readPart_X8_signed rfl rfl rfl (by decide +kernel) (k_lvl (by omega) (by decide))) (kPV hP hD hK hS hA hE [0, 1] rfl (by decide) 0 8 rfl rfl rfl) rfl rfl hl.1 rfl (lv_room (Nat.le_of_ble_eq_true rfl)) dX8_readPart_2 ⟨Nat.le_of_ble_eq_true rfl, Nat.le_of_ble_eq_true rfl⟩) hP hD hS hA [0, 1] [2] [1, 2, 0] rfl rfl (by decide) (by decide) rfl (by decide) (fun H locs hP hD hS => ?_)
  refine lv_istore_n (lv' := [(1, .int (kSv ss sp sc ig 0)), (0, .ref m0)]) hx hb dX8_readPart_5 rfl hl (by decide) rfl (fun ls hl => ?_)
  refine lv_aload_n hx hb dX8_readPart_6 rfl (lv_at hl 1 rfl) ?_
  refine lv_bipush (v := 9) hx hb dX8_readPart_7 (by decide) ?_
  have hC := c_X8_signed l D g m0 sc0 rd0 nw0 tr0 di0 ke0 ik0 cp0 cn0 be0 H.size rf ss n_1 n_2 lo ac sc 9 (by omega) (by omega)
  obtain ⟨n_3, en_3⟩ : ∃ z, z = (kUs ss n_1 sc n_2 9) := ⟨_, rfl⟩
  rw [← en_3] at hC
  have hbn_3 : n_3 ≤ n_1 + 3 := by rw [en_3]; exact kUs_le _ _ _ _ _
  have kn_3 : kEq n_3 (kUs ss n_1 sc n_2 9) := en_3
  clear en_3
  obtain ⟨n_4, en_4⟩ : ∃ z, z = (kUi ss n_1 sc n_2 9) := ⟨_, rfl⟩
  rw [← en_4] at hC
  have kn_4 : kEq n_4 (kUi ss n_1 sc n_2 9) := en_4
  clear en_4
  refine k_ai (wr := [(rd0, .inl (g 0, 748, .inl rw))]) (w2 := [(m0, .inr (8, [.int rf, .ref sc0, .int (nI ss), .int (nI n_3), .int n_4, .int lo, .ref rd0, .ref nw0, .ref tr0, .ref di0, .int (nI ac), .ref ke0, .ref ik0, .ref cp0, .ref cn0, .ref be0])), (sc0, .inl (g 0, 120, .inl sc)), (rd0, .inl (g 0, 748, .inl rw))]) (va_runV (As := [.int 9]) (rest := []) ⟨hx, hb, hml, hown, hts⟩ hC (cwV 1 hts gX8_readPart_X8_signed rfl rfl rfl (by decide +kernel) (k_lvl (by omega) (by decide))) (kPV hP hD hK hS hA hE [0, 1] rfl (by decide) 0 8 rfl rfl rfl) rfl rfl hl.1 rfl (lv_room (Nat.le_of_ble_eq_true rfl)) dX8_readPart_9 ⟨Nat.le_of_ble_eq_true rfl, Nat.le_of_ble_eq_true rfl⟩) hP hD hS hA [0, 1] [2] [1, 2, 0] rfl rfl (by decide) (by decide) rfl (by decide) (fun H locs hP hD hS => ?_)
  refine lv_istore_n (lv' := [(2, .int (kSv ss n_1 sc n_2 9)), (1, .int (kSv ss sp sc ig 0)), (0, .ref m0)]) hx hb dX8_readPart_12 rfl hl (by decide) rfl (fun ls hl => ?_)
  refine lv_aload_n hx hb dX8_readPart_13 rfl (lv_at hl 2 rfl) ?_
  refine lv_aload_n hx hb dX8_readPart_14 rfl (lv_at hl 2 rfl) ?_
  refine va_get (D := D) (ci := 8) (v := .ref rd0) (C := RX8) (T := TX8) (N := 16) hx hb hts (fun w h => (List.mem_cons_of_mem _ (List.mem_append_right _ h))) hown hK hP 0 rfl rfl 6 (by decide) (hts _ qX8_readPart_0) (fun _ h9 => h9) rfl dX8_readPart_15 ?_
  refine lv_iconst (v := 0) hx hb dX8_readPart_18 (by decide) ?_
  refine va_iald (i := 0) hx hb hK hP 2 0 rfl rfl (vp_in_nI (n := 0) (by decide) (by decide)) dX8_readPart_19 ?_
  refine k_top (y := (rw 0)) rfl ?_
  refine k_top (y := (nI mn)) (hmn) ?_
  refine lv_bipush (v := 10) hx hb dX8_readPart_20 (by decide) ?_
  refine lv_icmp_ge (tgt := 29) hx hb dX8_readPart_22 (by decide) (fun c_5 => ?_) (fun c_5 => ?_)
  · have c_5 : 10 ≤ mn := (nI_leI (a := 10) (b := mn) (by omega) (by omega)).mp c_5
    refine lv_iconst (v := 0) hx hb dX8_readPart_29 (by decide) ?_
    have hC := c_X8_goes l D g m0 sc0 rd0 nw0 tr0 di0 ke0 ik0 cp0 cn0 be0 H.size rf ss n_3 n_4 lo ac 0
    obtain ⟨v_6, ev_6⟩ : ∃ z, z = (f_X8_goes n_4 lo 0) := ⟨_, rfl⟩
    rw [← ev_6] at hC
    refine k_ai (wr := [(sc0, .inl (g 0, 120, .inl sc)), (rd0, .inl (g 0, 748, .inl rw))]) (w2 := [(m0, .inr (8, [.int rf, .ref sc0, .int (nI ss), .int (nI n_3), .int n_4, .int v_6.2, .ref rd0, .ref nw0, .ref tr0, .ref di0, .int (nI ac), .ref ke0, .ref ik0, .ref cp0, .ref cn0, .ref be0])), (sc0, .inl (g 0, 120, .inl sc)), (rd0, .inl (g 0, 748, .inl rw))]) (va_runV (As := [.int 0]) (rest := []) ⟨hx, hb, hml, hown, hts⟩ hC (cwV 1 hts gX8_readPart_X8_goes rfl rfl rfl (by decide +kernel) (k_lvl (by omega) (by decide))) (kPV hP hD hK hS hA hE [0] rfl (by decide) 0 8 rfl rfl rfl) rfl rfl hl.1 rfl (lv_room (Nat.le_of_ble_eq_true rfl)) dX8_readPart_30 ⟨Nat.le_of_ble_eq_true rfl, Nat.le_of_ble_eq_true rfl⟩) hP hD hS hA [0] [1, 2] [2, 0, 1] rfl rfl (by decide) (by decide) rfl (by decide) (fun H locs hP hD hS => ?_)
    refine k_top (y := 0) (by rw [ev_6]; exact goes_0 _ _) ?_
    refine lv_if_eq (tgt := 45) hx hb dX8_readPart_33 (by decide) (fun _ => ?_) (fun c_7 => absurd c_7 (by decide))
    have en_4 : n_4 = (kUi ss n_1 sc n_2 9) := kn_4
    subst en_4
    have en_3 : n_3 = (kUs ss n_1 sc n_2 9) := kn_3
    subst en_3
    have en_2 : n_2 = (kUi ss sp sc ig 0) := kn_2
    subst en_2
    have en_1 : n_1 = (kUs ss sp sc ig 0) := kn_1
    subst en_1
    have hE2 : (f_X8_readPart ss sp ig lo sc rw mn) = (v_6.2, rw) := by
      subst ev_6
      exact (if_pos c_5).trans (rfl)
    subst hQ
    exact k_rv hx hb hr hlocks hP hD hS dX8_readPart_45 (by rw [hE2])
  · have c_5 : ¬ (10 ≤ mn) := fun h9 => c_5 ((nI_leI (a := 10) (b := mn) (by omega) (by omega)).mpr h9)
    refine lv_iconst (v := 1) hx hb dX8_readPart_25 (by decide) ?_
    refine lv_goto (tgt := 30) hx hb dX8_readPart_26 (by decide) ?_
    have hC := c_X8_goes l D g m0 sc0 rd0 nw0 tr0 di0 ke0 ik0 cp0 cn0 be0 H.size rf ss n_3 n_4 lo ac 1
    obtain ⟨v_8, ev_8⟩ : ∃ z, z = (f_X8_goes n_4 lo 1) := ⟨_, rfl⟩
    rw [← ev_8] at hC
    refine k_ai (wr := [(sc0, .inl (g 0, 120, .inl sc)), (rd0, .inl (g 0, 748, .inl rw))]) (w2 := [(m0, .inr (8, [.int rf, .ref sc0, .int (nI ss), .int (nI n_3), .int n_4, .int v_8.2, .ref rd0, .ref nw0, .ref tr0, .ref di0, .int (nI ac), .ref ke0, .ref ik0, .ref cp0, .ref cn0, .ref be0])), (sc0, .inl (g 0, 120, .inl sc)), (rd0, .inl (g 0, 748, .inl rw))]) (va_runV (As := [.int 1]) (rest := []) ⟨hx, hb, hml, hown, hts⟩ hC (cwV 1 hts gX8_readPart_X8_goes rfl rfl rfl (by decide +kernel) (k_lvl (by omega) (by decide))) (kPV hP hD hK hS hA hE [0] rfl (by decide) 0 8 rfl rfl rfl) rfl rfl hl.1 rfl (lv_room (Nat.le_of_ble_eq_true rfl)) dX8_readPart_30 ⟨Nat.le_of_ble_eq_true rfl, Nat.le_of_ble_eq_true rfl⟩) hP hD hS hA [0] [1, 2] [2, 0, 1] rfl rfl (by decide) (by decide) rfl (by decide) (fun H locs hP hD hS => ?_)
    refine k_top (y := v_8.1) (rfl) ?_
    refine lv_if_eq (tgt := 45) hx hb dX8_readPart_33 (by decide) (fun c_9 => ?_) (fun c_9 => ?_)
    · have en_4 : n_4 = (kUi ss n_1 sc n_2 9) := kn_4
      subst en_4
      have en_3 : n_3 = (kUs ss n_1 sc n_2 9) := kn_3
      subst en_3
      have en_2 : n_2 = (kUi ss sp sc ig 0) := kn_2
      subst en_2
      have en_1 : n_1 = (kUs ss sp sc ig 0) := kn_1
      subst en_1
      have hE2 : (f_X8_readPart ss sp ig lo sc rw mn) = (v_8.2, rw) := by
        subst ev_8
        exact (if_neg c_5).trans ((if_pos c_9).trans (rfl))
      subst hQ
      exact k_rv hx hb hr hlocks hP hD hS dX8_readPart_45 (by rw [hE2])
    · refine lv_aload_n hx hb dX8_readPart_36 rfl (lv_at hl 2 rfl) ?_
      refine va_get (D := D) (ci := 8) (v := .ref rd0) (C := RX8) (T := TX8) (N := 16) hx hb hts (fun w h => (List.mem_cons_of_mem _ (List.mem_append_right _ h))) hown hK hP 0 rfl rfl 6 (by decide) (hts _ qX8_readPart_0) (fun _ h9 => h9) rfl dX8_readPart_37 ?_
      refine lv_iload_n hx hb dX8_readPart_40 rfl (lv_at hl 1 rfl) ?_
      refine lv_iload_n hx hb dX8_readPart_41 rfl (lv_at hl 0 rfl) ?_
      refine k_av (wr := [(m0, .inr (8, [.int rf, .ref sc0, .int (nI ss), .int (nI n_3), .int n_4, .int v_8.2, .ref rd0, .ref nw0, .ref tr0, .ref di0, .int (nI ac), .ref ke0, .ref ik0, .ref cp0, .ref cn0, .ref be0])), (sc0, .inl (g 0, 120, .inl sc))]) (w2 := [(m0, .inr (8, [.int rf, .ref sc0, .int (nI ss), .int (nI n_3), .int n_4, .int v_8.2, .ref rd0, .ref nw0, .ref tr0, .ref di0, .int (nI ac), .ref ke0, .ref ik0, .ref cp0, .ref cn0, .ref be0])), (sc0, .inl (g 0, 120, .inl sc)), (rd0, .inl (g 0, 748, .inl (f_X8_addIn rw (kSv ss sp sc ig 0) (kSv ss n_1 sc n_2 9) mn)))]) (va_runS (As := [.ref rd0, .int (kSv ss sp sc ig 0), .int (kSv ss n_1 sc n_2 9)]) (rest := []) ⟨hx, hb, hml, hown, hts⟩ (c_X8_addIn l D g rd0 H.size rw (kSv ss sp sc ig 0) (kSv ss n_1 sc n_2 9) mn (by omega) (by omega)) (va_cwS 3 hts gX8_readPart_X8_addIn rfl rfl rfl (by decide +kernel) (k_lvl (by omega) (by decide))) (kPS hP hD hK hS hA hE [2] rfl (by decide)) rfl rfl hl.1 rfl (lv_room (Nat.le_of_ble_eq_true rfl)) dX8_readPart_42 ⟨Nat.le_of_ble_eq_true rfl, Nat.le_of_ble_eq_true rfl⟩) hP hD hS hA [2] [0, 1] [0, 1, 2] rfl rfl (by decide) (by decide) rfl (by decide) (fun H locs hP hD hS => ?_)
      have en_4 : n_4 = (kUi ss n_1 sc n_2 9) := kn_4
      subst en_4
      have en_3 : n_3 = (kUs ss n_1 sc n_2 9) := kn_3
      subst en_3
      have en_2 : n_2 = (kUi ss sp sc ig 0) := kn_2
      subst en_2
      have en_1 : n_1 = (kUs ss sp sc ig 0) := kn_1
      subst en_1
      have hE2 : (f_X8_readPart ss sp ig lo sc rw mn) = (v_8.2, (f_X8_addIn rw (kSv ss sp sc ig 0) (kSv ss (kUs ss sp sc ig 0) sc (kUi ss sp sc ig 0) 9) mn)) := by
        subst ev_8
        exact (if_neg c_5).trans ((if_neg c_9).trans (rfl))
      subst hQ
      exact k_rv hx hb hr hlocks hP hD hS dX8_readPart_45 (by rw [hE2])
def f_X8_readChain (ss : Nat) (sp : Nat) (ig : Int32) (lo : Int32) (sc : Nat → Int32) (rw : Nat → Int32) : Int32 × (Nat → Int32) :=
  if (f_X8_isRead rw (nI (kDr ss sp sc ig 0 9).toNatClampNeg)) = 0 then
    ((f_X8_goes (kUi ss (kAccS (kAccS sp ig (kDb ss sp sc 0 9)) (kAccG ig (kDb ss sp sc 0 9)) (kDb ss (kAccS sp ig (kDb ss sp sc 0 9)) sc 0 9)) sc (kAccG (kAccG ig (kDb ss sp sc 0 9)) (kDb ss (kAccS sp ig (kDb ss sp sc 0 9)) sc 0 9)) 9) lo 0).2, rw)
  else
    if (kDr ss sp sc ig 0 9).toNatClampNeg ≤ (kDr ss (kAccS sp ig (kDb ss sp sc 0 9)) sc (kAccG ig (kDb ss sp sc 0 9)) 0 9).toNatClampNeg then
      ((f_X8_goes (kUi ss (kAccS (kAccS sp ig (kDb ss sp sc 0 9)) (kAccG ig (kDb ss sp sc 0 9)) (kDb ss (kAccS sp ig (kDb ss sp sc 0 9)) sc 0 9)) sc (kAccG (kAccG ig (kDb ss sp sc 0 9)) (kDb ss (kAccS sp ig (kDb ss sp sc 0 9)) sc 0 9)) 9) lo 0).2, rw)
    else
      if (f_X8_goes (kUi ss (kAccS (kAccS sp ig (kDb ss sp sc 0 9)) (kAccG ig (kDb ss sp sc 0 9)) (kDb ss (kAccS sp ig (kDb ss sp sc 0 9)) sc 0 9)) sc (kAccG (kAccG ig (kDb ss sp sc 0 9)) (kDb ss (kAccS sp ig (kDb ss sp sc 0 9)) sc 0 9)) 9) lo 1).1 = 0 then
        ((f_X8_goes (kUi ss (kAccS (kAccS sp ig (kDb ss sp sc 0 9)) (kAccG ig (kDb ss sp sc 0 9)) (kDb ss (kAccS sp ig (kDb ss sp sc 0 9)) sc 0 9)) sc (kAccG (kAccG ig (kDb ss sp sc 0 9)) (kDb ss (kAccS sp ig (kDb ss sp sc 0 9)) sc 0 9)) 9) lo 1).2, rw)
      else
        ((f_X8_goes (kUi ss (kAccS (kAccS sp ig (kDb ss sp sc 0 9)) (kAccG ig (kDb ss sp sc 0 9)) (kDb ss (kAccS sp ig (kDb ss sp sc 0 9)) sc 0 9)) sc (kAccG (kAccG ig (kDb ss sp sc 0 9)) (kDb ss (kAccS sp ig (kDb ss sp sc 0 9)) sc 0 9)) 9) lo 1).2, (f_X8_chainIn rw (kDr ss sp sc ig 0 9).toNatClampNeg (nI (kDr ss (kAccS sp ig (kDb ss sp sc 0 9)) sc (kAccG ig (kDb ss sp sc 0 9)) 0 9).toNatClampNeg) (kSv ss (kAccS (kAccS sp ig (kDb ss sp sc 0 9)) (kAccG ig (kDb ss sp sc 0 9)) (kDb ss (kAccS sp ig (kDb ss sp sc 0 9)) sc 0 9)) sc (kAccG (kAccG ig (kDb ss sp sc 0 9)) (kDb ss (kAccS sp ig (kDb ss sp sc 0 9)) sc 0 9)) 9)))
theorem qX8_readChain_0 : Cond.fieldLink RX8 13 "BlameChainsModel" "read" "[I" ∈ wsX8_readChain := (List.mem_cons_of_mem _ (List.mem_append_left _ (List.mem_append_left _ (List.mem_of_getElem? (i := 0) rfl))))
set_option maxHeartbeats 4000000 in
set_option maxRecDepth 100000 in
theorem c_X8_readChain (l : Launch) (D : va_G) (g : Nat → Nat) (m0 sc0 rd0 nw0 tr0 di0 ke0 ik0 cp0 cn0 be0 : Nat) (sz : Nat) (rf : Int32) (ss : Nat) (sp : Nat) (ig : Int32) (lo : Int32) (ac : Nat) (sc : Nat → Int32) (rw : Nat → Int32) (hss : ss ≤ 120) (hsp : sp ≤ 800) : kMv l D g yX8_readChain wsX8_readChain 4 0 0 [.ref m0] [(m0, .inr (8, [.int rf, .ref sc0, .int (nI ss), .int (nI sp), .int ig, .int lo, .ref rd0, .ref nw0, .ref tr0, .ref di0, .int (nI ac), .ref ke0, .ref ik0, .ref cp0, .ref cn0, .ref be0])), (sc0, .inl (g 0, 120, .inl sc)), (rd0, .inl (g 0, 748, .inl rw))] sz [(m0, .inr (8, [.int rf, .ref sc0, .int (nI ss), .int (nI (kUs ss (kAccS (kAccS sp ig (kDb ss sp sc 0 9)) (kAccG ig (kDb ss sp sc 0 9)) (kDb ss (kAccS sp ig (kDb ss sp sc 0 9)) sc 0 9)) sc (kAccG (kAccG ig (kDb ss sp sc 0 9)) (kDb ss (kAccS sp ig (kDb ss sp sc 0 9)) sc 0 9)) 9)), .int (kUi ss (kAccS (kAccS sp ig (kDb ss sp sc 0 9)) (kAccG ig (kDb ss sp sc 0 9)) (kDb ss (kAccS sp ig (kDb ss sp sc 0 9)) sc 0 9)) sc (kAccG (kAccG ig (kDb ss sp sc 0 9)) (kDb ss (kAccS sp ig (kDb ss sp sc 0 9)) sc 0 9)) 9), .int ((f_X8_readChain ss sp ig lo sc rw).1), .ref rd0, .ref nw0, .ref tr0, .ref di0, .int (nI ac), .ref ke0, .ref ik0, .ref cp0, .ref cn0, .ref be0])), (sc0, .inl (g 0, 120, .inl sc)), (rd0, .inl (g 0, 748, .inl ((f_X8_readChain ss sp ig lo sc rw).2)))] := by
  refine k_enter (nm := "readChain") (own := RX8) (bytes := cX8_readChain) (maxL := 4) (ret := none) (Qf := fun A => kQv D [(m0, .inr (8, [.int rf, .ref sc0, .int (nI ss), .int (nI (kUs ss (kAccS (kAccS sp ig (kDb ss sp sc 0 9)) (kAccG ig (kDb ss sp sc 0 9)) (kDb ss (kAccS sp ig (kDb ss sp sc 0 9)) sc 0 9)) sc (kAccG (kAccG ig (kDb ss sp sc 0 9)) (kDb ss (kAccS sp ig (kDb ss sp sc 0 9)) sc 0 9)) 9)), .int (kUi ss (kAccS (kAccS sp ig (kDb ss sp sc 0 9)) (kAccG ig (kDb ss sp sc 0 9)) (kDb ss (kAccS sp ig (kDb ss sp sc 0 9)) sc 0 9)) sc (kAccG (kAccG ig (kDb ss sp sc 0 9)) (kDb ss (kAccS sp ig (kDb ss sp sc 0 9)) sc 0 9)) 9), .int ((f_X8_readChain ss sp ig lo sc rw).1), .ref rd0, .ref nw0, .ref tr0, .ref di0, .int (nI ac), .ref ke0, .ref ik0, .ref cp0, .ref cn0, .ref be0])), (sc0, .inl (g 0, 120, .inl sc)), (rd0, .inl (g 0, 748, .inl ((f_X8_readChain ss sp ig lo sc rw).2)))] A) (by decide) rfl rfl rfl (Nat.le_of_ble_eq_true rfl) ?_
  rintro pp ee s mm below meth cc A ls args Q H locs hQ ⟨hx, hb, hr, hml, hown, hts, hlocks, hin⟩ hP hK hD hA hS hE hl
  have hl : lv_has ls 4 [(0, .ref m0)] := hl
  refine lv_aload_n hx hb dX8_readChain_0 rfl (lv_at hl 0 rfl) ?_
  refine lv_iconst (v := 0) hx hb dX8_readChain_1 (by decide) ?_
  refine lv_bipush (v := 9) hx hb dX8_readChain_2 (by decide) ?_
  have hC := c_X8_digit l D g m0 sc0 rd0 nw0 tr0 di0 ke0 ik0 cp0 cn0 be0 H.size rf ss sp ig lo ac sc 0 9 (by omega) (by omega)
  obtain ⟨n_1, en_1⟩ : ∃ z, z = (kAccS sp ig (kDb ss sp sc 0 9)) := ⟨_, rfl⟩
  rw [← en_1] at hC
  have hbn_1 : n_1 ≤ sp + 1 := by rw [en_1]; exact kAccS_le _ _ _
  have kn_1 : kEq n_1 (kAccS sp ig (kDb ss sp sc 0 9)) := en_1
  clear en_1
  obtain ⟨n_2, en_2⟩ : ∃ z, z = (kAccG ig (kDb ss sp sc 0 9)) := ⟨_, rfl⟩
  rw [← en_2] at hC
  have kn_2 : kEq n_2 (kAccG ig (kDb ss sp sc 0 9)) := en_2
  clear en_2
  refine k_ai (wr := [(rd0, .inl (g 0, 748, .inl rw))]) (w2 := [(m0, .inr (8, [.int rf, .ref sc0, .int (nI ss), .int (nI n_1), .int n_2, .int lo, .ref rd0, .ref nw0, .ref tr0, .ref di0, .int (nI ac), .ref ke0, .ref ik0, .ref cp0, .ref cn0, .ref be0])), (sc0, .inl (g 0, 120, .inl sc)), (rd0, .inl (g 0, 748, .inl rw))]) (va_runV (As := [.int 0, .int 9]) (rest := []) ⟨hx, hb, hml, hown, hts⟩ hC (cwV 2 hts gX8_readChain_X8_digit rfl rfl rfl (by decide +kernel) (k_lvl (by omega) (by decide))) (kPV hP hD hK hS hA hE [0, 1] rfl (by decide) 0 8 rfl rfl rfl) rfl rfl hl.1 rfl (lv_room (Nat.le_of_ble_eq_true rfl)) dX8_readChain_4 ⟨Nat.le_of_ble_eq_true rfl, Nat.le_of_ble_eq_true rfl⟩) hP hD hS hA [0, 1] [2] [1, 2, 0] rfl rfl (by decide) (by decide) rfl (by decide) (fun H locs hP hD hS => ?_)
  obtain ⟨d_3001, hd3001⟩ : ∃ z, z = (kDr ss sp sc ig 0 9).toNatClampNeg := ⟨_, rfl⟩
  have hde3001 : (kDr ss sp sc ig 0 9) = nI d_3001 := by rw [hd3001]; exact (kDr_N ss sp sc ig 9).1
  have hdl3001 : d_3001 ≤ 9 := by rw [hd3001]; exact (kDr_N ss sp sc ig 9).2
  have khd3001 : kEq d_3001 ((kDr ss sp sc ig 0 9).toNatClampNeg) := hd3001
  clear hd3001
  refine k_top (y := nI d_3001) hde3001 ?_
  refine lv_istore_n (lv' := [(1, .int (nI d_3001)), (0, .ref m0)]) hx hb dX8_readChain_7 rfl hl (by decide) rfl (fun ls hl => ?_)
  refine lv_aload_n hx hb dX8_readChain_8 rfl (lv_at hl 1 rfl) ?_
  refine lv_iconst (v := 0) hx hb dX8_readChain_9 (by decide) ?_
  refine lv_bipush (v := 9) hx hb dX8_readChain_10 (by decide) ?_
  have hC := c_X8_digit l D g m0 sc0 rd0 nw0 tr0 di0 ke0 ik0 cp0 cn0 be0 H.size rf ss n_1 n_2 lo ac sc 0 9 (by omega) (by omega)
  obtain ⟨n_3, en_3⟩ : ∃ z, z = (kAccS n_1 n_2 (kDb ss n_1 sc 0 9)) := ⟨_, rfl⟩
  rw [← en_3] at hC
  have hbn_3 : n_3 ≤ n_1 + 1 := by rw [en_3]; exact kAccS_le _ _ _
  have kn_3 : kEq n_3 (kAccS n_1 n_2 (kDb ss n_1 sc 0 9)) := en_3
  clear en_3
  obtain ⟨n_4, en_4⟩ : ∃ z, z = (kAccG n_2 (kDb ss n_1 sc 0 9)) := ⟨_, rfl⟩
  rw [← en_4] at hC
  have kn_4 : kEq n_4 (kAccG n_2 (kDb ss n_1 sc 0 9)) := en_4
  clear en_4
  refine k_ai (wr := [(rd0, .inl (g 0, 748, .inl rw))]) (w2 := [(m0, .inr (8, [.int rf, .ref sc0, .int (nI ss), .int (nI n_3), .int n_4, .int lo, .ref rd0, .ref nw0, .ref tr0, .ref di0, .int (nI ac), .ref ke0, .ref ik0, .ref cp0, .ref cn0, .ref be0])), (sc0, .inl (g 0, 120, .inl sc)), (rd0, .inl (g 0, 748, .inl rw))]) (va_runV (As := [.int 0, .int 9]) (rest := []) ⟨hx, hb, hml, hown, hts⟩ hC (cwV 2 hts gX8_readChain_X8_digit rfl rfl rfl (by decide +kernel) (k_lvl (by omega) (by decide))) (kPV hP hD hK hS hA hE [0, 1] rfl (by decide) 0 8 rfl rfl rfl) rfl rfl hl.1 rfl (lv_room (Nat.le_of_ble_eq_true rfl)) dX8_readChain_12 ⟨Nat.le_of_ble_eq_true rfl, Nat.le_of_ble_eq_true rfl⟩) hP hD hS hA [0, 1] [2] [1, 2, 0] rfl rfl (by decide) (by decide) rfl (by decide) (fun H locs hP hD hS => ?_)
  obtain ⟨d_3002, hd3002⟩ : ∃ z, z = (kDr ss n_1 sc n_2 0 9).toNatClampNeg := ⟨_, rfl⟩
  have hde3002 : (kDr ss n_1 sc n_2 0 9) = nI d_3002 := by rw [hd3002]; exact (kDr_N ss n_1 sc n_2 9).1
  have hdl3002 : d_3002 ≤ 9 := by rw [hd3002]; exact (kDr_N ss n_1 sc n_2 9).2
  have khd3002 : kEq d_3002 ((kDr ss n_1 sc n_2 0 9).toNatClampNeg) := hd3002
  clear hd3002
  refine k_top (y := nI d_3002) hde3002 ?_
  refine lv_istore_n (lv' := [(2, .int (nI d_3002)), (1, .int (nI d_3001)), (0, .ref m0)]) hx hb dX8_readChain_15 rfl hl (by decide) rfl (fun ls hl => ?_)
  refine lv_aload_n hx hb dX8_readChain_16 rfl (lv_at hl 2 rfl) ?_
  refine lv_bipush (v := 9) hx hb dX8_readChain_17 (by decide) ?_
  have hC := c_X8_signed l D g m0 sc0 rd0 nw0 tr0 di0 ke0 ik0 cp0 cn0 be0 H.size rf ss n_3 n_4 lo ac sc 9 (by omega) (by omega)
  obtain ⟨n_5, en_5⟩ : ∃ z, z = (kUs ss n_3 sc n_4 9) := ⟨_, rfl⟩
  rw [← en_5] at hC
  have hbn_5 : n_5 ≤ n_3 + 3 := by rw [en_5]; exact kUs_le _ _ _ _ _
  have kn_5 : kEq n_5 (kUs ss n_3 sc n_4 9) := en_5
  clear en_5
  obtain ⟨n_6, en_6⟩ : ∃ z, z = (kUi ss n_3 sc n_4 9) := ⟨_, rfl⟩
  rw [← en_6] at hC
  have kn_6 : kEq n_6 (kUi ss n_3 sc n_4 9) := en_6
  clear en_6
  refine k_ai (wr := [(rd0, .inl (g 0, 748, .inl rw))]) (w2 := [(m0, .inr (8, [.int rf, .ref sc0, .int (nI ss), .int (nI n_5), .int n_6, .int lo, .ref rd0, .ref nw0, .ref tr0, .ref di0, .int (nI ac), .ref ke0, .ref ik0, .ref cp0, .ref cn0, .ref be0])), (sc0, .inl (g 0, 120, .inl sc)), (rd0, .inl (g 0, 748, .inl rw))]) (va_runV (As := [.int 9]) (rest := []) ⟨hx, hb, hml, hown, hts⟩ hC (cwV 1 hts gX8_readChain_X8_signed rfl rfl rfl (by decide +kernel) (k_lvl (by omega) (by decide))) (kPV hP hD hK hS hA hE [0, 1] rfl (by decide) 0 8 rfl rfl rfl) rfl rfl hl.1 rfl (lv_room (Nat.le_of_ble_eq_true rfl)) dX8_readChain_19 ⟨Nat.le_of_ble_eq_true rfl, Nat.le_of_ble_eq_true rfl⟩) hP hD hS hA [0, 1] [2] [1, 2, 0] rfl rfl (by decide) (by decide) rfl (by decide) (fun H locs hP hD hS => ?_)
  refine lv_istore_n (lv' := [(3, .int (kSv ss n_3 sc n_4 9)), (2, .int (nI d_3002)), (1, .int (nI d_3001)), (0, .ref m0)]) hx hb dX8_readChain_22 rfl hl (by decide) rfl (fun ls hl => ?_)
  refine lv_aload_n hx hb dX8_readChain_23 rfl (lv_at hl 3 rfl) ?_
  refine lv_aload_n hx hb dX8_readChain_24 rfl (lv_at hl 3 rfl) ?_
  refine lv_iload_n hx hb dX8_readChain_25 rfl (lv_at hl 2 rfl) ?_
  refine k_ai (wr := [(sc0, .inl (g 0, 120, .inl sc))]) (w2 := [(m0, .inr (8, [.int rf, .ref sc0, .int (nI ss), .int (nI n_5), .int n_6, .int lo, .ref rd0, .ref nw0, .ref tr0, .ref di0, .int (nI ac), .ref ke0, .ref ik0, .ref cp0, .ref cn0, .ref be0])), (sc0, .inl (g 0, 120, .inl sc)), (rd0, .inl (g 0, 748, .inl rw))]) (va_runV (As := [.int (nI d_3001)]) (rest := [.ref m0]) ⟨hx, hb, hml, hown, hts⟩ (c_X8_isRead l D g m0 sc0 rd0 nw0 tr0 di0 ke0 ik0 cp0 cn0 be0 H.size rf ss n_5 n_6 lo ac rw (nI d_3001)) (cwV 1 hts gX8_readChain_X8_isRead rfl rfl rfl (by decide +kernel) (k_lvl (by omega) (by decide))) (kPV hP hD hK hS hA hE [0, 2] rfl (by decide) 0 8 rfl rfl rfl) rfl rfl hl.1 rfl (lv_room (Nat.le_of_ble_eq_true rfl)) dX8_readChain_26 ⟨Nat.le_of_ble_eq_true rfl, Nat.le_of_ble_eq_true rfl⟩) hP hD hS hA [0, 2] [1] [1, 0, 2] rfl rfl (by decide) (by decide) rfl (by decide) (fun H locs hP hD hS => ?_)
  refine lv_if_eq (tgt := 41) hx hb dX8_readChain_29 (by decide) (fun c_7 => ?_) (fun c_7 => ?_)
  · refine lv_iconst (v := 0) hx hb dX8_readChain_41 (by decide) ?_
    have hC := c_X8_goes l D g m0 sc0 rd0 nw0 tr0 di0 ke0 ik0 cp0 cn0 be0 H.size rf ss n_5 n_6 lo ac 0
    obtain ⟨v_8, ev_8⟩ : ∃ z, z = (f_X8_goes n_6 lo 0) := ⟨_, rfl⟩
    rw [← ev_8] at hC
    refine k_ai (wr := [(sc0, .inl (g 0, 120, .inl sc)), (rd0, .inl (g 0, 748, .inl rw))]) (w2 := [(m0, .inr (8, [.int rf, .ref sc0, .int (nI ss), .int (nI n_5), .int n_6, .int v_8.2, .ref rd0, .ref nw0, .ref tr0, .ref di0, .int (nI ac), .ref ke0, .ref ik0, .ref cp0, .ref cn0, .ref be0])), (sc0, .inl (g 0, 120, .inl sc)), (rd0, .inl (g 0, 748, .inl rw))]) (va_runV (As := [.int 0]) (rest := []) ⟨hx, hb, hml, hown, hts⟩ hC (cwV 1 hts gX8_readChain_X8_goes rfl rfl rfl (by decide +kernel) (k_lvl (by omega) (by decide))) (kPV hP hD hK hS hA hE [0] rfl (by decide) 0 8 rfl rfl rfl) rfl rfl hl.1 rfl (lv_room (Nat.le_of_ble_eq_true rfl)) dX8_readChain_42 ⟨Nat.le_of_ble_eq_true rfl, Nat.le_of_ble_eq_true rfl⟩) hP hD hS hA [0] [1, 2] [2, 0, 1] rfl rfl (by decide) (by decide) rfl (by decide) (fun H locs hP hD hS => ?_)
    refine k_top (y := 0) (by rw [ev_8]; exact goes_0 _ _) ?_
    refine lv_if_eq (tgt := 58) hx hb dX8_readChain_45 (by decide) (fun _ => ?_) (fun c_9 => absurd c_9 (by decide))
    have en_6 : n_6 = (kUi ss n_3 sc n_4 9) := kn_6
    subst en_6
    have en_5 : n_5 = (kUs ss n_3 sc n_4 9) := kn_5
    subst en_5
    have en_4 : n_4 = (kAccG n_2 (kDb ss n_1 sc 0 9)) := kn_4
    subst en_4
    have en_3 : n_3 = (kAccS n_1 n_2 (kDb ss n_1 sc 0 9)) := kn_3
    subst en_3
    have en_2 : n_2 = (kAccG ig (kDb ss sp sc 0 9)) := kn_2
    subst en_2
    have en_1 : n_1 = (kAccS sp ig (kDb ss sp sc 0 9)) := kn_1
    subst en_1
    have hE2 : (f_X8_readChain ss sp ig lo sc rw) = (v_8.2, rw) := by
      subst ev_8
      have hd3002 : d_3002 = (kDr ss n_1 sc n_2 0 9).toNatClampNeg := khd3002
      subst hd3002
      have hd3001 : d_3001 = (kDr ss sp sc ig 0 9).toNatClampNeg := khd3001
      subst hd3001
      exact (if_pos c_7).trans (rfl)
    subst hQ
    exact k_rv hx hb hr hlocks hP hD hS dX8_readChain_58 (by rw [hE2])
  · refine lv_iload_n hx hb dX8_readChain_32 rfl (lv_at hl 1 rfl) ?_
    refine lv_iload_n hx hb dX8_readChain_33 rfl (lv_at hl 2 rfl) ?_
    refine lv_icmp_ge (tgt := 41) hx hb dX8_readChain_34 (by decide) (fun c_10 => ?_) (fun c_10 => ?_)
    · have c_10 : d_3001 ≤ d_3002 := (nI_leI (a := d_3001) (b := d_3002) (by omega) (by omega)).mp c_10
      refine lv_iconst (v := 0) hx hb dX8_readChain_41 (by decide) ?_
      have hC := c_X8_goes l D g m0 sc0 rd0 nw0 tr0 di0 ke0 ik0 cp0 cn0 be0 H.size rf ss n_5 n_6 lo ac 0
      obtain ⟨v_11, ev_11⟩ : ∃ z, z = (f_X8_goes n_6 lo 0) := ⟨_, rfl⟩
      rw [← ev_11] at hC
      refine k_ai (wr := [(sc0, .inl (g 0, 120, .inl sc)), (rd0, .inl (g 0, 748, .inl rw))]) (w2 := [(m0, .inr (8, [.int rf, .ref sc0, .int (nI ss), .int (nI n_5), .int n_6, .int v_11.2, .ref rd0, .ref nw0, .ref tr0, .ref di0, .int (nI ac), .ref ke0, .ref ik0, .ref cp0, .ref cn0, .ref be0])), (sc0, .inl (g 0, 120, .inl sc)), (rd0, .inl (g 0, 748, .inl rw))]) (va_runV (As := [.int 0]) (rest := []) ⟨hx, hb, hml, hown, hts⟩ hC (cwV 1 hts gX8_readChain_X8_goes rfl rfl rfl (by decide +kernel) (k_lvl (by omega) (by decide))) (kPV hP hD hK hS hA hE [0] rfl (by decide) 0 8 rfl rfl rfl) rfl rfl hl.1 rfl (lv_room (Nat.le_of_ble_eq_true rfl)) dX8_readChain_42 ⟨Nat.le_of_ble_eq_true rfl, Nat.le_of_ble_eq_true rfl⟩) hP hD hS hA [0] [1, 2] [2, 0, 1] rfl rfl (by decide) (by decide) rfl (by decide) (fun H locs hP hD hS => ?_)
      refine k_top (y := 0) (by rw [ev_11]; exact goes_0 _ _) ?_
      refine lv_if_eq (tgt := 58) hx hb dX8_readChain_45 (by decide) (fun _ => ?_) (fun c_12 => absurd c_12 (by decide))
      have en_6 : n_6 = (kUi ss n_3 sc n_4 9) := kn_6
      subst en_6
      have en_5 : n_5 = (kUs ss n_3 sc n_4 9) := kn_5
      subst en_5
      have en_4 : n_4 = (kAccG n_2 (kDb ss n_1 sc 0 9)) := kn_4
      subst en_4
      have en_3 : n_3 = (kAccS n_1 n_2 (kDb ss n_1 sc 0 9)) := kn_3
      subst en_3
      have en_2 : n_2 = (kAccG ig (kDb ss sp sc 0 9)) := kn_2
      subst en_2
      have en_1 : n_1 = (kAccS sp ig (kDb ss sp sc 0 9)) := kn_1
      subst en_1
      have hE2 : (f_X8_readChain ss sp ig lo sc rw) = (v_11.2, rw) := by
        subst ev_11
        have hd3002 : d_3002 = (kDr ss n_1 sc n_2 0 9).toNatClampNeg := khd3002
        subst hd3002
        have hd3001 : d_3001 = (kDr ss sp sc ig 0 9).toNatClampNeg := khd3001
        subst hd3001
        exact (if_neg c_7).trans ((if_pos c_10).trans (rfl))
      subst hQ
      exact k_rv hx hb hr hlocks hP hD hS dX8_readChain_58 (by rw [hE2])
    · have c_10 : ¬ (d_3001 ≤ d_3002) := fun h9 => c_10 ((nI_leI (a := d_3001) (b := d_3002) (by omega) (by omega)).mpr h9)
      refine lv_iconst (v := 1) hx hb dX8_readChain_37 (by decide) ?_
      refine lv_goto (tgt := 42) hx hb dX8_readChain_38 (by decide) ?_
      have hC := c_X8_goes l D g m0 sc0 rd0 nw0 tr0 di0 ke0 ik0 cp0 cn0 be0 H.size rf ss n_5 n_6 lo ac 1
      obtain ⟨v_13, ev_13⟩ : ∃ z, z = (f_X8_goes n_6 lo 1) := ⟨_, rfl⟩
      rw [← ev_13] at hC
      refine k_ai (wr := [(sc0, .inl (g 0, 120, .inl sc)), (rd0, .inl (g 0, 748, .inl rw))]) (w2 := [(m0, .inr (8, [.int rf, .ref sc0, .int (nI ss), .int (nI n_5), .int n_6, .int v_13.2, .ref rd0, .ref nw0, .ref tr0, .ref di0, .int (nI ac), .ref ke0, .ref ik0, .ref cp0, .ref cn0, .ref be0])), (sc0, .inl (g 0, 120, .inl sc)), (rd0, .inl (g 0, 748, .inl rw))]) (va_runV (As := [.int 1]) (rest := []) ⟨hx, hb, hml, hown, hts⟩ hC (cwV 1 hts gX8_readChain_X8_goes rfl rfl rfl (by decide +kernel) (k_lvl (by omega) (by decide))) (kPV hP hD hK hS hA hE [0] rfl (by decide) 0 8 rfl rfl rfl) rfl rfl hl.1 rfl (lv_room (Nat.le_of_ble_eq_true rfl)) dX8_readChain_42 ⟨Nat.le_of_ble_eq_true rfl, Nat.le_of_ble_eq_true rfl⟩) hP hD hS hA [0] [1, 2] [2, 0, 1] rfl rfl (by decide) (by decide) rfl (by decide) (fun H locs hP hD hS => ?_)
      refine k_top (y := v_13.1) (rfl) ?_
      refine lv_if_eq (tgt := 58) hx hb dX8_readChain_45 (by decide) (fun c_14 => ?_) (fun c_14 => ?_)
      · have en_6 : n_6 = (kUi ss n_3 sc n_4 9) := kn_6
        subst en_6
        have en_5 : n_5 = (kUs ss n_3 sc n_4 9) := kn_5
        subst en_5
        have en_4 : n_4 = (kAccG n_2 (kDb ss n_1 sc 0 9)) := kn_4
        subst en_4
        have en_3 : n_3 = (kAccS n_1 n_2 (kDb ss n_1 sc 0 9)) := kn_3
        subst en_3
        have en_2 : n_2 = (kAccG ig (kDb ss sp sc 0 9)) := kn_2
        subst en_2
        have en_1 : n_1 = (kAccS sp ig (kDb ss sp sc 0 9)) := kn_1
        subst en_1
        have hE2 : (f_X8_readChain ss sp ig lo sc rw) = (v_13.2, rw) := by
          subst ev_13
          have hd3002 : d_3002 = (kDr ss n_1 sc n_2 0 9).toNatClampNeg := khd3002
          subst hd3002
          have hd3001 : d_3001 = (kDr ss sp sc ig 0 9).toNatClampNeg := khd3001
          subst hd3001
          exact (if_neg c_7).trans ((if_neg c_10).trans ((if_pos c_14).trans (rfl)))
        subst hQ
        exact k_rv hx hb hr hlocks hP hD hS dX8_readChain_58 (by rw [hE2])
      · refine lv_aload_n hx hb dX8_readChain_48 rfl (lv_at hl 3 rfl) ?_
        refine va_get (D := D) (ci := 8) (v := .ref rd0) (C := RX8) (T := TX8) (N := 16) hx hb hts (fun w h => (List.mem_cons_of_mem _ (List.mem_append_right _ h))) hown hK hP 0 rfl rfl 6 (by decide) (hts _ qX8_readChain_0) (fun _ h9 => h9) rfl dX8_readChain_49 ?_
        refine lv_iload_n hx hb dX8_readChain_52 rfl (lv_at hl 2 rfl) ?_
        refine lv_iload_n hx hb dX8_readChain_53 rfl (lv_at hl 1 rfl) ?_
        refine lv_iload_n hx hb dX8_readChain_54 rfl (lv_at hl 0 rfl) ?_
        refine k_av (wr := [(m0, .inr (8, [.int rf, .ref sc0, .int (nI ss), .int (nI n_5), .int n_6, .int v_13.2, .ref rd0, .ref nw0, .ref tr0, .ref di0, .int (nI ac), .ref ke0, .ref ik0, .ref cp0, .ref cn0, .ref be0])), (sc0, .inl (g 0, 120, .inl sc))]) (w2 := [(m0, .inr (8, [.int rf, .ref sc0, .int (nI ss), .int (nI n_5), .int n_6, .int v_13.2, .ref rd0, .ref nw0, .ref tr0, .ref di0, .int (nI ac), .ref ke0, .ref ik0, .ref cp0, .ref cn0, .ref be0])), (sc0, .inl (g 0, 120, .inl sc)), (rd0, .inl (g 0, 748, .inl (f_X8_chainIn rw d_3001 (nI d_3002) (kSv ss n_3 sc n_4 9))))]) (va_runS (As := [.ref rd0, .int (nI d_3001), .int (nI d_3002), .int (kSv ss n_3 sc n_4 9)]) (rest := []) ⟨hx, hb, hml, hown, hts⟩ (c_X8_chainIn l D g rd0 H.size rw d_3001 (nI d_3002) (kSv ss n_3 sc n_4 9) (by omega)) (va_cwS 4 hts gX8_readChain_X8_chainIn rfl rfl rfl (by decide +kernel) (k_lvl (by omega) (by decide))) (kPS hP hD hK hS hA hE [2] rfl (by decide)) rfl rfl hl.1 rfl (lv_room (Nat.le_of_ble_eq_true rfl)) dX8_readChain_55 ⟨Nat.le_of_ble_eq_true rfl, Nat.le_of_ble_eq_true rfl⟩) hP hD hS hA [2] [0, 1] [0, 1, 2] rfl rfl (by decide) (by decide) rfl (by decide) (fun H locs hP hD hS => ?_)
        have en_6 : n_6 = (kUi ss n_3 sc n_4 9) := kn_6
        subst en_6
        have en_5 : n_5 = (kUs ss n_3 sc n_4 9) := kn_5
        subst en_5
        have en_4 : n_4 = (kAccG n_2 (kDb ss n_1 sc 0 9)) := kn_4
        subst en_4
        have en_3 : n_3 = (kAccS n_1 n_2 (kDb ss n_1 sc 0 9)) := kn_3
        subst en_3
        have en_2 : n_2 = (kAccG ig (kDb ss sp sc 0 9)) := kn_2
        subst en_2
        have en_1 : n_1 = (kAccS sp ig (kDb ss sp sc 0 9)) := kn_1
        subst en_1
        have hE2 : (f_X8_readChain ss sp ig lo sc rw) = (v_13.2, (f_X8_chainIn rw d_3001 (nI d_3002) (kSv ss (kAccS (kAccS sp ig (kDb ss sp sc 0 9)) (kAccG ig (kDb ss sp sc 0 9)) (kDb ss (kAccS sp ig (kDb ss sp sc 0 9)) sc 0 9)) sc (kAccG (kAccG ig (kDb ss sp sc 0 9)) (kDb ss (kAccS sp ig (kDb ss sp sc 0 9)) sc 0 9)) 9))) := by
          subst ev_13
          have hd3002 : d_3002 = (kDr ss n_1 sc n_2 0 9).toNatClampNeg := khd3002
          subst hd3002
          have hd3001 : d_3001 = (kDr ss sp sc ig 0 9).toNatClampNeg := khd3001
          subst hd3001
          exact (if_neg c_7).trans ((if_neg c_10).trans ((if_neg c_14).trans (rfl)))
        subst hQ
        exact k_rv hx hb hr hlocks hP hD hS dX8_readChain_58 (by rw [hE2])
def f_X8_readOwn (ss : Nat) (sp : Nat) (ig : Int32) (lo : Int32) (sc : Nat → Int32) (rw : Nat → Int32) : Int32 × (Nat → Int32) :=
  if (f_X8_isRead rw (nI (kDr ss sp sc ig 0 9).toNatClampNeg)) = 0 then
    ((f_X8_goes (kUi ss (kUs ss (kUs ss (kUs ss (kAccS sp ig (kDb ss sp sc 0 9)) sc (kAccG ig (kDb ss sp sc 0 9)) 9) sc (kUi ss (kAccS sp ig (kDb ss sp sc 0 9)) sc (kAccG ig (kDb ss sp sc 0 9)) 9) 9) sc (kUi ss (kUs ss (kAccS sp ig (kDb ss sp sc 0 9)) sc (kAccG ig (kDb ss sp sc 0 9)) 9) sc (kUi ss (kAccS sp ig (kDb ss sp sc 0 9)) sc (kAccG ig (kDb ss sp sc 0 9)) 9) 9) 9) sc (kUi ss (kUs ss (kUs ss (kAccS sp ig (kDb ss sp sc 0 9)) sc (kAccG ig (kDb ss sp sc 0 9)) 9) sc (kUi ss (kAccS sp ig (kDb ss sp sc 0 9)) sc (kAccG ig (kDb ss sp sc 0 9)) 9) 9) sc (kUi ss (kUs ss (kAccS sp ig (kDb ss sp sc 0 9)) sc (kAccG ig (kDb ss sp sc 0 9)) 9) sc (kUi ss (kAccS sp ig (kDb ss sp sc 0 9)) sc (kAccG ig (kDb ss sp sc 0 9)) 9) 9) 9) 9) lo 0).2, rw)
  else
    if (kSv ss (kUs ss (kAccS sp ig (kDb ss sp sc 0 9)) sc (kAccG ig (kDb ss sp sc 0 9)) 9) sc (kUi ss (kAccS sp ig (kDb ss sp sc 0 9)) sc (kAccG ig (kDb ss sp sc 0 9)) 9) 9) < (kSv ss (kAccS sp ig (kDb ss sp sc 0 9)) sc (kAccG ig (kDb ss sp sc 0 9)) 9) then
      ((f_X8_goes (kUi ss (kUs ss (kUs ss (kUs ss (kAccS sp ig (kDb ss sp sc 0 9)) sc (kAccG ig (kDb ss sp sc 0 9)) 9) sc (kUi ss (kAccS sp ig (kDb ss sp sc 0 9)) sc (kAccG ig (kDb ss sp sc 0 9)) 9) 9) sc (kUi ss (kUs ss (kAccS sp ig (kDb ss sp sc 0 9)) sc (kAccG ig (kDb ss sp sc 0 9)) 9) sc (kUi ss (kAccS sp ig (kDb ss sp sc 0 9)) sc (kAccG ig (kDb ss sp sc 0 9)) 9) 9) 9) sc (kUi ss (kUs ss (kUs ss (kAccS sp ig (kDb ss sp sc 0 9)) sc (kAccG ig (kDb ss sp sc 0 9)) 9) sc (kUi ss (kAccS sp ig (kDb ss sp sc 0 9)) sc (kAccG ig (kDb ss sp sc 0 9)) 9) 9) sc (kUi ss (kUs ss (kAccS sp ig (kDb ss sp sc 0 9)) sc (kAccG ig (kDb ss sp sc 0 9)) 9) sc (kUi ss (kAccS sp ig (kDb ss sp sc 0 9)) sc (kAccG ig (kDb ss sp sc 0 9)) 9) 9) 9) 9) lo 0).2, rw)
    else
      if (kSv ss (kUs ss (kUs ss (kUs ss (kAccS sp ig (kDb ss sp sc 0 9)) sc (kAccG ig (kDb ss sp sc 0 9)) 9) sc (kUi ss (kAccS sp ig (kDb ss sp sc 0 9)) sc (kAccG ig (kDb ss sp sc 0 9)) 9) 9) sc (kUi ss (kUs ss (kAccS sp ig (kDb ss sp sc 0 9)) sc (kAccG ig (kDb ss sp sc 0 9)) 9) sc (kUi ss (kAccS sp ig (kDb ss sp sc 0 9)) sc (kAccG ig (kDb ss sp sc 0 9)) 9) 9) 9) sc (kUi ss (kUs ss (kUs ss (kAccS sp ig (kDb ss sp sc 0 9)) sc (kAccG ig (kDb ss sp sc 0 9)) 9) sc (kUi ss (kAccS sp ig (kDb ss sp sc 0 9)) sc (kAccG ig (kDb ss sp sc 0 9)) 9) 9) sc (kUi ss (kUs ss (kAccS sp ig (kDb ss sp sc 0 9)) sc (kAccG ig (kDb ss sp sc 0 9)) 9) sc (kUi ss (kAccS sp ig (kDb ss sp sc 0 9)) sc (kAccG ig (kDb ss sp sc 0 9)) 9) 9) 9) 9) < (kSv ss (kUs ss (kUs ss (kAccS sp ig (kDb ss sp sc 0 9)) sc (kAccG ig (kDb ss sp sc 0 9)) 9) sc (kUi ss (kAccS sp ig (kDb ss sp sc 0 9)) sc (kAccG ig (kDb ss sp sc 0 9)) 9) 9) sc (kUi ss (kUs ss (kAccS sp ig (kDb ss sp sc 0 9)) sc (kAccG ig (kDb ss sp sc 0 9)) 9) sc (kUi ss (kAccS sp ig (kDb ss sp sc 0 9)) sc (kAccG ig (kDb ss sp sc 0 9)) 9) 9) 9) then
        ((f_X8_goes (kUi ss (kUs ss (kUs ss (kUs ss (kAccS sp ig (kDb ss sp sc 0 9)) sc (kAccG ig (kDb ss sp sc 0 9)) 9) sc (kUi ss (kAccS sp ig (kDb ss sp sc 0 9)) sc (kAccG ig (kDb ss sp sc 0 9)) 9) 9) sc (kUi ss (kUs ss (kAccS sp ig (kDb ss sp sc 0 9)) sc (kAccG ig (kDb ss sp sc 0 9)) 9) sc (kUi ss (kAccS sp ig (kDb ss sp sc 0 9)) sc (kAccG ig (kDb ss sp sc 0 9)) 9) 9) 9) sc (kUi ss (kUs ss (kUs ss (kAccS sp ig (kDb ss sp sc 0 9)) sc (kAccG ig (kDb ss sp sc 0 9)) 9) sc (kUi ss (kAccS sp ig (kDb ss sp sc 0 9)) sc (kAccG ig (kDb ss sp sc 0 9)) 9) 9) sc (kUi ss (kUs ss (kAccS sp ig (kDb ss sp sc 0 9)) sc (kAccG ig (kDb ss sp sc 0 9)) 9) sc (kUi ss (kAccS sp ig (kDb ss sp sc 0 9)) sc (kAccG ig (kDb ss sp sc 0 9)) 9) 9) 9) 9) lo 0).2, rw)
      else
        if (f_X8_goes (kUi ss (kUs ss (kUs ss (kUs ss (kAccS sp ig (kDb ss sp sc 0 9)) sc (kAccG ig (kDb ss sp sc 0 9)) 9) sc (kUi ss (kAccS sp ig (kDb ss sp sc 0 9)) sc (kAccG ig (kDb ss sp sc 0 9)) 9) 9) sc (kUi ss (kUs ss (kAccS sp ig (kDb ss sp sc 0 9)) sc (kAccG ig (kDb ss sp sc 0 9)) 9) sc (kUi ss (kAccS sp ig (kDb ss sp sc 0 9)) sc (kAccG ig (kDb ss sp sc 0 9)) 9) 9) 9) sc (kUi ss (kUs ss (kUs ss (kAccS sp ig (kDb ss sp sc 0 9)) sc (kAccG ig (kDb ss sp sc 0 9)) 9) sc (kUi ss (kAccS sp ig (kDb ss sp sc 0 9)) sc (kAccG ig (kDb ss sp sc 0 9)) 9) 9) sc (kUi ss (kUs ss (kAccS sp ig (kDb ss sp sc 0 9)) sc (kAccG ig (kDb ss sp sc 0 9)) 9) sc (kUi ss (kAccS sp ig (kDb ss sp sc 0 9)) sc (kAccG ig (kDb ss sp sc 0 9)) 9) 9) 9) 9) lo 1).1 = 0 then
          ((f_X8_goes (kUi ss (kUs ss (kUs ss (kUs ss (kAccS sp ig (kDb ss sp sc 0 9)) sc (kAccG ig (kDb ss sp sc 0 9)) 9) sc (kUi ss (kAccS sp ig (kDb ss sp sc 0 9)) sc (kAccG ig (kDb ss sp sc 0 9)) 9) 9) sc (kUi ss (kUs ss (kAccS sp ig (kDb ss sp sc 0 9)) sc (kAccG ig (kDb ss sp sc 0 9)) 9) sc (kUi ss (kAccS sp ig (kDb ss sp sc 0 9)) sc (kAccG ig (kDb ss sp sc 0 9)) 9) 9) 9) sc (kUi ss (kUs ss (kUs ss (kAccS sp ig (kDb ss sp sc 0 9)) sc (kAccG ig (kDb ss sp sc 0 9)) 9) sc (kUi ss (kAccS sp ig (kDb ss sp sc 0 9)) sc (kAccG ig (kDb ss sp sc 0 9)) 9) 9) sc (kUi ss (kUs ss (kAccS sp ig (kDb ss sp sc 0 9)) sc (kAccG ig (kDb ss sp sc 0 9)) 9) sc (kUi ss (kAccS sp ig (kDb ss sp sc 0 9)) sc (kAccG ig (kDb ss sp sc 0 9)) 9) 9) 9) 9) lo 1).2, rw)
        else
          ((f_X8_goes (kUi ss (kUs ss (kUs ss (kUs ss (kAccS sp ig (kDb ss sp sc 0 9)) sc (kAccG ig (kDb ss sp sc 0 9)) 9) sc (kUi ss (kAccS sp ig (kDb ss sp sc 0 9)) sc (kAccG ig (kDb ss sp sc 0 9)) 9) 9) sc (kUi ss (kUs ss (kAccS sp ig (kDb ss sp sc 0 9)) sc (kAccG ig (kDb ss sp sc 0 9)) 9) sc (kUi ss (kAccS sp ig (kDb ss sp sc 0 9)) sc (kAccG ig (kDb ss sp sc 0 9)) 9) 9) 9) sc (kUi ss (kUs ss (kUs ss (kAccS sp ig (kDb ss sp sc 0 9)) sc (kAccG ig (kDb ss sp sc 0 9)) 9) sc (kUi ss (kAccS sp ig (kDb ss sp sc 0 9)) sc (kAccG ig (kDb ss sp sc 0 9)) 9) 9) sc (kUi ss (kUs ss (kAccS sp ig (kDb ss sp sc 0 9)) sc (kAccG ig (kDb ss sp sc 0 9)) 9) sc (kUi ss (kAccS sp ig (kDb ss sp sc 0 9)) sc (kAccG ig (kDb ss sp sc 0 9)) 9) 9) 9) 9) lo 1).2, (f_X8_promise rw 0 (kDr ss sp sc ig 0 9).toNatClampNeg (kSv ss (kAccS sp ig (kDb ss sp sc 0 9)) sc (kAccG ig (kDb ss sp sc 0 9)) 9) (kSv ss (kUs ss (kAccS sp ig (kDb ss sp sc 0 9)) sc (kAccG ig (kDb ss sp sc 0 9)) 9) sc (kUi ss (kAccS sp ig (kDb ss sp sc 0 9)) sc (kAccG ig (kDb ss sp sc 0 9)) 9) 9) (kSv ss (kUs ss (kUs ss (kAccS sp ig (kDb ss sp sc 0 9)) sc (kAccG ig (kDb ss sp sc 0 9)) 9) sc (kUi ss (kAccS sp ig (kDb ss sp sc 0 9)) sc (kAccG ig (kDb ss sp sc 0 9)) 9) 9) sc (kUi ss (kUs ss (kAccS sp ig (kDb ss sp sc 0 9)) sc (kAccG ig (kDb ss sp sc 0 9)) 9) sc (kUi ss (kAccS sp ig (kDb ss sp sc 0 9)) sc (kAccG ig (kDb ss sp sc 0 9)) 9) 9) 9) (kSv ss (kUs ss (kUs ss (kUs ss (kAccS sp ig (kDb ss sp sc 0 9)) sc (kAccG ig (kDb ss sp sc 0 9)) 9) sc (kUi ss (kAccS sp ig (kDb ss sp sc 0 9)) sc (kAccG ig (kDb ss sp sc 0 9)) 9) 9) sc (kUi ss (kUs ss (kAccS sp ig (kDb ss sp sc 0 9)) sc (kAccG ig (kDb ss sp sc 0 9)) 9) sc (kUi ss (kAccS sp ig (kDb ss sp sc 0 9)) sc (kAccG ig (kDb ss sp sc 0 9)) 9) 9) 9) sc (kUi ss (kUs ss (kUs ss (kAccS sp ig (kDb ss sp sc 0 9)) sc (kAccG ig (kDb ss sp sc 0 9)) 9) sc (kUi ss (kAccS sp ig (kDb ss sp sc 0 9)) sc (kAccG ig (kDb ss sp sc 0 9)) 9) 9) sc (kUi ss (kUs ss (kAccS sp ig (kDb ss sp sc 0 9)) sc (kAccG ig (kDb ss sp sc 0 9)) 9) sc (kUi ss (kAccS sp ig (kDb ss sp sc 0 9)) sc (kAccG ig (kDb ss sp sc 0 9)) 9) 9) 9) 9)))
theorem qX8_readOwn_0 : Cond.fieldLink RX8 13 "BlameChainsModel" "read" "[I" ∈ wsX8_readOwn := (List.mem_cons_of_mem _ (List.mem_append_left _ (List.mem_append_left _ (List.mem_of_getElem? (i := 0) rfl))))
set_option maxHeartbeats 4000000 in
set_option maxRecDepth 100000 in
theorem c_X8_readOwn (l : Launch) (D : va_G) (g : Nat → Nat) (m0 sc0 rd0 nw0 tr0 di0 ke0 ik0 cp0 cn0 be0 : Nat) (sz : Nat) (rf : Int32) (ss : Nat) (sp : Nat) (ig : Int32) (lo : Int32) (ac : Nat) (sc : Nat → Int32) (rw : Nat → Int32) (hss : ss ≤ 120) (hsp : sp ≤ 800) : kMv l D g yX8_readOwn wsX8_readOwn 4 0 0 [.ref m0] [(m0, .inr (8, [.int rf, .ref sc0, .int (nI ss), .int (nI sp), .int ig, .int lo, .ref rd0, .ref nw0, .ref tr0, .ref di0, .int (nI ac), .ref ke0, .ref ik0, .ref cp0, .ref cn0, .ref be0])), (sc0, .inl (g 0, 120, .inl sc)), (rd0, .inl (g 0, 748, .inl rw))] sz [(m0, .inr (8, [.int rf, .ref sc0, .int (nI ss), .int (nI (kUs ss (kUs ss (kUs ss (kUs ss (kAccS sp ig (kDb ss sp sc 0 9)) sc (kAccG ig (kDb ss sp sc 0 9)) 9) sc (kUi ss (kAccS sp ig (kDb ss sp sc 0 9)) sc (kAccG ig (kDb ss sp sc 0 9)) 9) 9) sc (kUi ss (kUs ss (kAccS sp ig (kDb ss sp sc 0 9)) sc (kAccG ig (kDb ss sp sc 0 9)) 9) sc (kUi ss (kAccS sp ig (kDb ss sp sc 0 9)) sc (kAccG ig (kDb ss sp sc 0 9)) 9) 9) 9) sc (kUi ss (kUs ss (kUs ss (kAccS sp ig (kDb ss sp sc 0 9)) sc (kAccG ig (kDb ss sp sc 0 9)) 9) sc (kUi ss (kAccS sp ig (kDb ss sp sc 0 9)) sc (kAccG ig (kDb ss sp sc 0 9)) 9) 9) sc (kUi ss (kUs ss (kAccS sp ig (kDb ss sp sc 0 9)) sc (kAccG ig (kDb ss sp sc 0 9)) 9) sc (kUi ss (kAccS sp ig (kDb ss sp sc 0 9)) sc (kAccG ig (kDb ss sp sc 0 9)) 9) 9) 9) 9)), .int (kUi ss (kUs ss (kUs ss (kUs ss (kAccS sp ig (kDb ss sp sc 0 9)) sc (kAccG ig (kDb ss sp sc 0 9)) 9) sc (kUi ss (kAccS sp ig (kDb ss sp sc 0 9)) sc (kAccG ig (kDb ss sp sc 0 9)) 9) 9) sc (kUi ss (kUs ss (kAccS sp ig (kDb ss sp sc 0 9)) sc (kAccG ig (kDb ss sp sc 0 9)) 9) sc (kUi ss (kAccS sp ig (kDb ss sp sc 0 9)) sc (kAccG ig (kDb ss sp sc 0 9)) 9) 9) 9) sc (kUi ss (kUs ss (kUs ss (kAccS sp ig (kDb ss sp sc 0 9)) sc (kAccG ig (kDb ss sp sc 0 9)) 9) sc (kUi ss (kAccS sp ig (kDb ss sp sc 0 9)) sc (kAccG ig (kDb ss sp sc 0 9)) 9) 9) sc (kUi ss (kUs ss (kAccS sp ig (kDb ss sp sc 0 9)) sc (kAccG ig (kDb ss sp sc 0 9)) 9) sc (kUi ss (kAccS sp ig (kDb ss sp sc 0 9)) sc (kAccG ig (kDb ss sp sc 0 9)) 9) 9) 9) 9), .int ((f_X8_readOwn ss sp ig lo sc rw).1), .ref rd0, .ref nw0, .ref tr0, .ref di0, .int (nI ac), .ref ke0, .ref ik0, .ref cp0, .ref cn0, .ref be0])), (sc0, .inl (g 0, 120, .inl sc)), (rd0, .inl (g 0, 748, .inl ((f_X8_readOwn ss sp ig lo sc rw).2)))] := by
  refine k_enter (nm := "readOwn") (own := RX8) (bytes := cX8_readOwn) (maxL := 6) (ret := none) (Qf := fun A => kQv D [(m0, .inr (8, [.int rf, .ref sc0, .int (nI ss), .int (nI (kUs ss (kUs ss (kUs ss (kUs ss (kAccS sp ig (kDb ss sp sc 0 9)) sc (kAccG ig (kDb ss sp sc 0 9)) 9) sc (kUi ss (kAccS sp ig (kDb ss sp sc 0 9)) sc (kAccG ig (kDb ss sp sc 0 9)) 9) 9) sc (kUi ss (kUs ss (kAccS sp ig (kDb ss sp sc 0 9)) sc (kAccG ig (kDb ss sp sc 0 9)) 9) sc (kUi ss (kAccS sp ig (kDb ss sp sc 0 9)) sc (kAccG ig (kDb ss sp sc 0 9)) 9) 9) 9) sc (kUi ss (kUs ss (kUs ss (kAccS sp ig (kDb ss sp sc 0 9)) sc (kAccG ig (kDb ss sp sc 0 9)) 9) sc (kUi ss (kAccS sp ig (kDb ss sp sc 0 9)) sc (kAccG ig (kDb ss sp sc 0 9)) 9) 9) sc (kUi ss (kUs ss (kAccS sp ig (kDb ss sp sc 0 9)) sc (kAccG ig (kDb ss sp sc 0 9)) 9) sc (kUi ss (kAccS sp ig (kDb ss sp sc 0 9)) sc (kAccG ig (kDb ss sp sc 0 9)) 9) 9) 9) 9)), .int (kUi ss (kUs ss (kUs ss (kUs ss (kAccS sp ig (kDb ss sp sc 0 9)) sc (kAccG ig (kDb ss sp sc 0 9)) 9) sc (kUi ss (kAccS sp ig (kDb ss sp sc 0 9)) sc (kAccG ig (kDb ss sp sc 0 9)) 9) 9) sc (kUi ss (kUs ss (kAccS sp ig (kDb ss sp sc 0 9)) sc (kAccG ig (kDb ss sp sc 0 9)) 9) sc (kUi ss (kAccS sp ig (kDb ss sp sc 0 9)) sc (kAccG ig (kDb ss sp sc 0 9)) 9) 9) 9) sc (kUi ss (kUs ss (kUs ss (kAccS sp ig (kDb ss sp sc 0 9)) sc (kAccG ig (kDb ss sp sc 0 9)) 9) sc (kUi ss (kAccS sp ig (kDb ss sp sc 0 9)) sc (kAccG ig (kDb ss sp sc 0 9)) 9) 9) sc (kUi ss (kUs ss (kAccS sp ig (kDb ss sp sc 0 9)) sc (kAccG ig (kDb ss sp sc 0 9)) 9) sc (kUi ss (kAccS sp ig (kDb ss sp sc 0 9)) sc (kAccG ig (kDb ss sp sc 0 9)) 9) 9) 9) 9), .int ((f_X8_readOwn ss sp ig lo sc rw).1), .ref rd0, .ref nw0, .ref tr0, .ref di0, .int (nI ac), .ref ke0, .ref ik0, .ref cp0, .ref cn0, .ref be0])), (sc0, .inl (g 0, 120, .inl sc)), (rd0, .inl (g 0, 748, .inl ((f_X8_readOwn ss sp ig lo sc rw).2)))] A) (by decide) rfl rfl rfl (Nat.le_of_ble_eq_true rfl) ?_
  rintro pp ee s mm below meth cc A ls args Q H locs hQ ⟨hx, hb, hr, hml, hown, hts, hlocks, hin⟩ hP hK hD hA hS hE hl
  have hl : lv_has ls 6 [(0, .ref m0)] := hl
  refine lv_aload_n hx hb dX8_readOwn_0 rfl (lv_at hl 0 rfl) ?_
  refine lv_iconst (v := 0) hx hb dX8_readOwn_1 (by decide) ?_
  refine lv_bipush (v := 9) hx hb dX8_readOwn_2 (by decide) ?_
  have hC := c_X8_digit l D g m0 sc0 rd0 nw0 tr0 di0 ke0 ik0 cp0 cn0 be0 H.size rf ss sp ig lo ac sc 0 9 (by omega) (by omega)
  obtain ⟨n_1, en_1⟩ : ∃ z, z = (kAccS sp ig (kDb ss sp sc 0 9)) := ⟨_, rfl⟩
  rw [← en_1] at hC
  have hbn_1 : n_1 ≤ sp + 1 := by rw [en_1]; exact kAccS_le _ _ _
  have kn_1 : kEq n_1 (kAccS sp ig (kDb ss sp sc 0 9)) := en_1
  clear en_1
  obtain ⟨n_2, en_2⟩ : ∃ z, z = (kAccG ig (kDb ss sp sc 0 9)) := ⟨_, rfl⟩
  rw [← en_2] at hC
  have kn_2 : kEq n_2 (kAccG ig (kDb ss sp sc 0 9)) := en_2
  clear en_2
  refine k_ai (wr := [(rd0, .inl (g 0, 748, .inl rw))]) (w2 := [(m0, .inr (8, [.int rf, .ref sc0, .int (nI ss), .int (nI n_1), .int n_2, .int lo, .ref rd0, .ref nw0, .ref tr0, .ref di0, .int (nI ac), .ref ke0, .ref ik0, .ref cp0, .ref cn0, .ref be0])), (sc0, .inl (g 0, 120, .inl sc)), (rd0, .inl (g 0, 748, .inl rw))]) (va_runV (As := [.int 0, .int 9]) (rest := []) ⟨hx, hb, hml, hown, hts⟩ hC (cwV 2 hts gX8_readOwn_X8_digit rfl rfl rfl (by decide +kernel) (k_lvl (by omega) (by decide))) (kPV hP hD hK hS hA hE [0, 1] rfl (by decide) 0 8 rfl rfl rfl) rfl rfl hl.1 rfl (lv_room (Nat.le_of_ble_eq_true rfl)) dX8_readOwn_4 ⟨Nat.le_of_ble_eq_true rfl, Nat.le_of_ble_eq_true rfl⟩) hP hD hS hA [0, 1] [2] [1, 2, 0] rfl rfl (by decide) (by decide) rfl (by decide) (fun H locs hP hD hS => ?_)
  obtain ⟨d_3001, hd3001⟩ : ∃ z, z = (kDr ss sp sc ig 0 9).toNatClampNeg := ⟨_, rfl⟩
  have hde3001 : (kDr ss sp sc ig 0 9) = nI d_3001 := by rw [hd3001]; exact (kDr_N ss sp sc ig 9).1
  have hdl3001 : d_3001 ≤ 9 := by rw [hd3001]; exact (kDr_N ss sp sc ig 9).2
  have khd3001 : kEq d_3001 ((kDr ss sp sc ig 0 9).toNatClampNeg) := hd3001
  clear hd3001
  refine k_top (y := nI d_3001) hde3001 ?_
  refine lv_istore_n (lv' := [(1, .int (nI d_3001)), (0, .ref m0)]) hx hb dX8_readOwn_7 rfl hl (by decide) rfl (fun ls hl => ?_)
  refine lv_aload_n hx hb dX8_readOwn_8 rfl (lv_at hl 1 rfl) ?_
  refine lv_bipush (v := 9) hx hb dX8_readOwn_9 (by decide) ?_
  have hC := c_X8_signed l D g m0 sc0 rd0 nw0 tr0 di0 ke0 ik0 cp0 cn0 be0 H.size rf ss n_1 n_2 lo ac sc 9 (by omega) (by omega)
  obtain ⟨n_3, en_3⟩ : ∃ z, z = (kUs ss n_1 sc n_2 9) := ⟨_, rfl⟩
  rw [← en_3] at hC
  have hbn_3 : n_3 ≤ n_1 + 3 := by rw [en_3]; exact kUs_le _ _ _ _ _
  have kn_3 : kEq n_3 (kUs ss n_1 sc n_2 9) := en_3
  clear en_3
  obtain ⟨n_4, en_4⟩ : ∃ z, z = (kUi ss n_1 sc n_2 9) := ⟨_, rfl⟩
  rw [← en_4] at hC
  have kn_4 : kEq n_4 (kUi ss n_1 sc n_2 9) := en_4
  clear en_4
  refine k_ai (wr := [(rd0, .inl (g 0, 748, .inl rw))]) (w2 := [(m0, .inr (8, [.int rf, .ref sc0, .int (nI ss), .int (nI n_3), .int n_4, .int lo, .ref rd0, .ref nw0, .ref tr0, .ref di0, .int (nI ac), .ref ke0, .ref ik0, .ref cp0, .ref cn0, .ref be0])), (sc0, .inl (g 0, 120, .inl sc)), (rd0, .inl (g 0, 748, .inl rw))]) (va_runV (As := [.int 9]) (rest := []) ⟨hx, hb, hml, hown, hts⟩ hC (cwV 1 hts gX8_readOwn_X8_signed rfl rfl rfl (by decide +kernel) (k_lvl (by omega) (by decide))) (kPV hP hD hK hS hA hE [0, 1] rfl (by decide) 0 8 rfl rfl rfl) rfl rfl hl.1 rfl (lv_room (Nat.le_of_ble_eq_true rfl)) dX8_readOwn_11 ⟨Nat.le_of_ble_eq_true rfl, Nat.le_of_ble_eq_true rfl⟩) hP hD hS hA [0, 1] [2] [1, 2, 0] rfl rfl (by decide) (by decide) rfl (by decide) (fun H locs hP hD hS => ?_)
  refine lv_istore_n (lv' := [(2, .int (kSv ss n_1 sc n_2 9)), (1, .int (nI d_3001)), (0, .ref m0)]) hx hb dX8_readOwn_14 rfl hl (by decide) rfl (fun ls hl => ?_)
  refine lv_aload_n hx hb dX8_readOwn_15 rfl (lv_at hl 2 rfl) ?_
  refine lv_bipush (v := 9) hx hb dX8_readOwn_16 (by decide) ?_
  have hC := c_X8_signed l D g m0 sc0 rd0 nw0 tr0 di0 ke0 ik0 cp0 cn0 be0 H.size rf ss n_3 n_4 lo ac sc 9 (by omega) (by omega)
  obtain ⟨n_5, en_5⟩ : ∃ z, z = (kUs ss n_3 sc n_4 9) := ⟨_, rfl⟩
  rw [← en_5] at hC
  have hbn_5 : n_5 ≤ n_3 + 3 := by rw [en_5]; exact kUs_le _ _ _ _ _
  have kn_5 : kEq n_5 (kUs ss n_3 sc n_4 9) := en_5
  clear en_5
  obtain ⟨n_6, en_6⟩ : ∃ z, z = (kUi ss n_3 sc n_4 9) := ⟨_, rfl⟩
  rw [← en_6] at hC
  have kn_6 : kEq n_6 (kUi ss n_3 sc n_4 9) := en_6
  clear en_6
  refine k_ai (wr := [(rd0, .inl (g 0, 748, .inl rw))]) (w2 := [(m0, .inr (8, [.int rf, .ref sc0, .int (nI ss), .int (nI n_5), .int n_6, .int lo, .ref rd0, .ref nw0, .ref tr0, .ref di0, .int (nI ac), .ref ke0, .ref ik0, .ref cp0, .ref cn0, .ref be0])), (sc0, .inl (g 0, 120, .inl sc)), (rd0, .inl (g 0, 748, .inl rw))]) (va_runV (As := [.int 9]) (rest := []) ⟨hx, hb, hml, hown, hts⟩ hC (cwV 1 hts gX8_readOwn_X8_signed rfl rfl rfl (by decide +kernel) (k_lvl (by omega) (by decide))) (kPV hP hD hK hS hA hE [0, 1] rfl (by decide) 0 8 rfl rfl rfl) rfl rfl hl.1 rfl (lv_room (Nat.le_of_ble_eq_true rfl)) dX8_readOwn_18 ⟨Nat.le_of_ble_eq_true rfl, Nat.le_of_ble_eq_true rfl⟩) hP hD hS hA [0, 1] [2] [1, 2, 0] rfl rfl (by decide) (by decide) rfl (by decide) (fun H locs hP hD hS => ?_)
  refine lv_istore_n (lv' := [(3, .int (kSv ss n_3 sc n_4 9)), (2, .int (kSv ss n_1 sc n_2 9)), (1, .int (nI d_3001)), (0, .ref m0)]) hx hb dX8_readOwn_21 rfl hl (by decide) rfl (fun ls hl => ?_)
  refine lv_aload_n hx hb dX8_readOwn_22 rfl (lv_at hl 3 rfl) ?_
  refine lv_bipush (v := 9) hx hb dX8_readOwn_23 (by decide) ?_
  have hC := c_X8_signed l D g m0 sc0 rd0 nw0 tr0 di0 ke0 ik0 cp0 cn0 be0 H.size rf ss n_5 n_6 lo ac sc 9 (by omega) (by omega)
  obtain ⟨n_7, en_7⟩ : ∃ z, z = (kUs ss n_5 sc n_6 9) := ⟨_, rfl⟩
  rw [← en_7] at hC
  have hbn_7 : n_7 ≤ n_5 + 3 := by rw [en_7]; exact kUs_le _ _ _ _ _
  have kn_7 : kEq n_7 (kUs ss n_5 sc n_6 9) := en_7
  clear en_7
  obtain ⟨n_8, en_8⟩ : ∃ z, z = (kUi ss n_5 sc n_6 9) := ⟨_, rfl⟩
  rw [← en_8] at hC
  have kn_8 : kEq n_8 (kUi ss n_5 sc n_6 9) := en_8
  clear en_8
  refine k_ai (wr := [(rd0, .inl (g 0, 748, .inl rw))]) (w2 := [(m0, .inr (8, [.int rf, .ref sc0, .int (nI ss), .int (nI n_7), .int n_8, .int lo, .ref rd0, .ref nw0, .ref tr0, .ref di0, .int (nI ac), .ref ke0, .ref ik0, .ref cp0, .ref cn0, .ref be0])), (sc0, .inl (g 0, 120, .inl sc)), (rd0, .inl (g 0, 748, .inl rw))]) (va_runV (As := [.int 9]) (rest := []) ⟨hx, hb, hml, hown, hts⟩ hC (cwV 1 hts gX8_readOwn_X8_signed rfl rfl rfl (by decide +kernel) (k_lvl (by omega) (by decide))) (kPV hP hD hK hS hA hE [0, 1] rfl (by decide) 0 8 rfl rfl rfl) rfl rfl hl.1 rfl (lv_room (Nat.le_of_ble_eq_true rfl)) dX8_readOwn_25 ⟨Nat.le_of_ble_eq_true rfl, Nat.le_of_ble_eq_true rfl⟩) hP hD hS hA [0, 1] [2] [1, 2, 0] rfl rfl (by decide) (by decide) rfl (by decide) (fun H locs hP hD hS => ?_)
  refine lv_istore (lv' := [(4, .int (kSv ss n_5 sc n_6 9)), (3, .int (kSv ss n_3 sc n_4 9)), (2, .int (kSv ss n_1 sc n_2 9)), (1, .int (nI d_3001)), (0, .ref m0)]) hx hb dX8_readOwn_28 hl (by decide) rfl (fun ls hl => ?_)
  refine lv_aload_n hx hb dX8_readOwn_30 rfl (lv_at hl 4 rfl) ?_
  refine lv_bipush (v := 9) hx hb dX8_readOwn_31 (by decide) ?_
  have hC := c_X8_signed l D g m0 sc0 rd0 nw0 tr0 di0 ke0 ik0 cp0 cn0 be0 H.size rf ss n_7 n_8 lo ac sc 9 (by omega) (by omega)
  obtain ⟨n_9, en_9⟩ : ∃ z, z = (kUs ss n_7 sc n_8 9) := ⟨_, rfl⟩
  rw [← en_9] at hC
  have hbn_9 : n_9 ≤ n_7 + 3 := by rw [en_9]; exact kUs_le _ _ _ _ _
  have kn_9 : kEq n_9 (kUs ss n_7 sc n_8 9) := en_9
  clear en_9
  obtain ⟨n_10, en_10⟩ : ∃ z, z = (kUi ss n_7 sc n_8 9) := ⟨_, rfl⟩
  rw [← en_10] at hC
  have kn_10 : kEq n_10 (kUi ss n_7 sc n_8 9) := en_10
  clear en_10
  refine k_ai (wr := [(rd0, .inl (g 0, 748, .inl rw))]) (w2 := [(m0, .inr (8, [.int rf, .ref sc0, .int (nI ss), .int (nI n_9), .int n_10, .int lo, .ref rd0, .ref nw0, .ref tr0, .ref di0, .int (nI ac), .ref ke0, .ref ik0, .ref cp0, .ref cn0, .ref be0])), (sc0, .inl (g 0, 120, .inl sc)), (rd0, .inl (g 0, 748, .inl rw))]) (va_runV (As := [.int 9]) (rest := []) ⟨hx, hb, hml, hown, hts⟩ hC (cwV 1 hts gX8_readOwn_X8_signed rfl rfl rfl (by decide +kernel) (k_lvl (by omega) (by decide))) (kPV hP hD hK hS hA hE [0, 1] rfl (by decide) 0 8 rfl rfl rfl) rfl rfl hl.1 rfl (lv_room (Nat.le_of_ble_eq_true rfl)) dX8_readOwn_33 ⟨Nat.le_of_ble_eq_true rfl, Nat.le_of_ble_eq_true rfl⟩) hP hD hS hA [0, 1] [2] [1, 2, 0] rfl rfl (by decide) (by decide) rfl (by decide) (fun H locs hP hD hS => ?_)
  refine lv_istore (lv' := [(5, .int (kSv ss n_7 sc n_8 9)), (4, .int (kSv ss n_5 sc n_6 9)), (3, .int (kSv ss n_3 sc n_4 9)), (2, .int (kSv ss n_1 sc n_2 9)), (1, .int (nI d_3001)), (0, .ref m0)]) hx hb dX8_readOwn_36 hl (by decide) rfl (fun ls hl => ?_)
  refine lv_aload_n hx hb dX8_readOwn_38 rfl (lv_at hl 5 rfl) ?_
  refine lv_aload_n hx hb dX8_readOwn_39 rfl (lv_at hl 5 rfl) ?_
  refine lv_iload_n hx hb dX8_readOwn_40 rfl (lv_at hl 4 rfl) ?_
  refine k_ai (wr := [(sc0, .inl (g 0, 120, .inl sc))]) (w2 := [(m0, .inr (8, [.int rf, .ref sc0, .int (nI ss), .int (nI n_9), .int n_10, .int lo, .ref rd0, .ref nw0, .ref tr0, .ref di0, .int (nI ac), .ref ke0, .ref ik0, .ref cp0, .ref cn0, .ref be0])), (sc0, .inl (g 0, 120, .inl sc)), (rd0, .inl (g 0, 748, .inl rw))]) (va_runV (As := [.int (nI d_3001)]) (rest := [.ref m0]) ⟨hx, hb, hml, hown, hts⟩ (c_X8_isRead l D g m0 sc0 rd0 nw0 tr0 di0 ke0 ik0 cp0 cn0 be0 H.size rf ss n_9 n_10 lo ac rw (nI d_3001)) (cwV 1 hts gX8_readOwn_X8_isRead rfl rfl rfl (by decide +kernel) (k_lvl (by omega) (by decide))) (kPV hP hD hK hS hA hE [0, 2] rfl (by decide) 0 8 rfl rfl rfl) rfl rfl hl.1 rfl (lv_room (Nat.le_of_ble_eq_true rfl)) dX8_readOwn_41 ⟨Nat.le_of_ble_eq_true rfl, Nat.le_of_ble_eq_true rfl⟩) hP hD hS hA [0, 2] [1] [1, 0, 2] rfl rfl (by decide) (by decide) rfl (by decide) (fun H locs hP hD hS => ?_)
  refine lv_if_eq (tgt := 63) hx hb dX8_readOwn_44 (by decide) (fun c_11 => ?_) (fun c_11 => ?_)
  · refine lv_iconst (v := 0) hx hb dX8_readOwn_63 (by decide) ?_
    have hC := c_X8_goes l D g m0 sc0 rd0 nw0 tr0 di0 ke0 ik0 cp0 cn0 be0 H.size rf ss n_9 n_10 lo ac 0
    obtain ⟨v_12, ev_12⟩ : ∃ z, z = (f_X8_goes n_10 lo 0) := ⟨_, rfl⟩
    rw [← ev_12] at hC
    refine k_ai (wr := [(sc0, .inl (g 0, 120, .inl sc)), (rd0, .inl (g 0, 748, .inl rw))]) (w2 := [(m0, .inr (8, [.int rf, .ref sc0, .int (nI ss), .int (nI n_9), .int n_10, .int v_12.2, .ref rd0, .ref nw0, .ref tr0, .ref di0, .int (nI ac), .ref ke0, .ref ik0, .ref cp0, .ref cn0, .ref be0])), (sc0, .inl (g 0, 120, .inl sc)), (rd0, .inl (g 0, 748, .inl rw))]) (va_runV (As := [.int 0]) (rest := []) ⟨hx, hb, hml, hown, hts⟩ hC (cwV 1 hts gX8_readOwn_X8_goes rfl rfl rfl (by decide +kernel) (k_lvl (by omega) (by decide))) (kPV hP hD hK hS hA hE [0] rfl (by decide) 0 8 rfl rfl rfl) rfl rfl hl.1 rfl (lv_room (Nat.le_of_ble_eq_true rfl)) dX8_readOwn_64 ⟨Nat.le_of_ble_eq_true rfl, Nat.le_of_ble_eq_true rfl⟩) hP hD hS hA [0] [1, 2] [2, 0, 1] rfl rfl (by decide) (by decide) rfl (by decide) (fun H locs hP hD hS => ?_)
    refine k_top (y := 0) (by rw [ev_12]; exact goes_0 _ _) ?_
    refine lv_if_eq (tgt := 85) hx hb dX8_readOwn_67 (by decide) (fun _ => ?_) (fun c_13 => absurd c_13 (by decide))
    have en_10 : n_10 = (kUi ss n_7 sc n_8 9) := kn_10
    subst en_10
    have en_9 : n_9 = (kUs ss n_7 sc n_8 9) := kn_9
    subst en_9
    have en_8 : n_8 = (kUi ss n_5 sc n_6 9) := kn_8
    subst en_8
    have en_7 : n_7 = (kUs ss n_5 sc n_6 9) := kn_7
    subst en_7
    have en_6 : n_6 = (kUi ss n_3 sc n_4 9) := kn_6
    subst en_6
    have en_5 : n_5 = (kUs ss n_3 sc n_4 9) := kn_5
    subst en_5
    have en_4 : n_4 = (kUi ss n_1 sc n_2 9) := kn_4
    subst en_4
    have en_3 : n_3 = (kUs ss n_1 sc n_2 9) := kn_3
    subst en_3
    have en_2 : n_2 = (kAccG ig (kDb ss sp sc 0 9)) := kn_2
    subst en_2
    have en_1 : n_1 = (kAccS sp ig (kDb ss sp sc 0 9)) := kn_1
    subst en_1
    have hE2 : (f_X8_readOwn ss sp ig lo sc rw) = (v_12.2, rw) := by
      subst ev_12
      have hd3001 : d_3001 = (kDr ss sp sc ig 0 9).toNatClampNeg := khd3001
      subst hd3001
      exact (if_pos c_11).trans (rfl)
    subst hQ
    exact k_rv hx hb hr hlocks hP hD hS dX8_readOwn_85 (by rw [hE2])
  · refine lv_iload_n hx hb dX8_readOwn_47 rfl (lv_at hl 3 rfl) ?_
    refine lv_iload_n hx hb dX8_readOwn_48 rfl (lv_at hl 2 rfl) ?_
    refine lv_icmp_gt (tgt := 63) hx hb dX8_readOwn_49 (by decide) (fun c_14 => ?_) (fun c_14 => ?_)
    · refine lv_iconst (v := 0) hx hb dX8_readOwn_63 (by decide) ?_
      have hC := c_X8_goes l D g m0 sc0 rd0 nw0 tr0 di0 ke0 ik0 cp0 cn0 be0 H.size rf ss n_9 n_10 lo ac 0
      obtain ⟨v_15, ev_15⟩ : ∃ z, z = (f_X8_goes n_10 lo 0) := ⟨_, rfl⟩
      rw [← ev_15] at hC
      refine k_ai (wr := [(sc0, .inl (g 0, 120, .inl sc)), (rd0, .inl (g 0, 748, .inl rw))]) (w2 := [(m0, .inr (8, [.int rf, .ref sc0, .int (nI ss), .int (nI n_9), .int n_10, .int v_15.2, .ref rd0, .ref nw0, .ref tr0, .ref di0, .int (nI ac), .ref ke0, .ref ik0, .ref cp0, .ref cn0, .ref be0])), (sc0, .inl (g 0, 120, .inl sc)), (rd0, .inl (g 0, 748, .inl rw))]) (va_runV (As := [.int 0]) (rest := []) ⟨hx, hb, hml, hown, hts⟩ hC (cwV 1 hts gX8_readOwn_X8_goes rfl rfl rfl (by decide +kernel) (k_lvl (by omega) (by decide))) (kPV hP hD hK hS hA hE [0] rfl (by decide) 0 8 rfl rfl rfl) rfl rfl hl.1 rfl (lv_room (Nat.le_of_ble_eq_true rfl)) dX8_readOwn_64 ⟨Nat.le_of_ble_eq_true rfl, Nat.le_of_ble_eq_true rfl⟩) hP hD hS hA [0] [1, 2] [2, 0, 1] rfl rfl (by decide) (by decide) rfl (by decide) (fun H locs hP hD hS => ?_)
      refine k_top (y := 0) (by rw [ev_15]; exact goes_0 _ _) ?_
      refine lv_if_eq (tgt := 85) hx hb dX8_readOwn_67 (by decide) (fun _ => ?_) (fun c_16 => absurd c_16 (by decide))
      have en_10 : n_10 = (kUi ss n_7 sc n_8 9) := kn_10
      subst en_10
      have en_9 : n_9 = (kUs ss n_7 sc n_8 9) := kn_9
      subst en_9
      have en_8 : n_8 = (kUi ss n_5 sc n_6 9) := kn_8
      subst en_8
      have en_7 : n_7 = (kUs ss n_5 sc n_6 9) := kn_7
      subst en_7
      have en_6 : n_6 = (kUi ss n_3 sc n_4 9) := kn_6
      subst en_6
      have en_5 : n_5 = (kUs ss n_3 sc n_4 9) := kn_5
      subst en_5
      have en_4 : n_4 = (kUi ss n_1 sc n_2 9) := kn_4
      subst en_4
      have en_3 : n_3 = (kUs ss n_1 sc n_2 9) := kn_3
      subst en_3
      have en_2 : n_2 = (kAccG ig (kDb ss sp sc 0 9)) := kn_2
      subst en_2
      have en_1 : n_1 = (kAccS sp ig (kDb ss sp sc 0 9)) := kn_1
      subst en_1
      have hE2 : (f_X8_readOwn ss sp ig lo sc rw) = (v_15.2, rw) := by
        subst ev_15
        have hd3001 : d_3001 = (kDr ss sp sc ig 0 9).toNatClampNeg := khd3001
        subst hd3001
        exact (if_neg c_11).trans ((if_pos c_14).trans (rfl))
      subst hQ
      exact k_rv hx hb hr hlocks hP hD hS dX8_readOwn_85 (by rw [hE2])
    · refine lv_iload hx hb dX8_readOwn_52 (lv_at hl 1 rfl) ?_
      refine lv_iload hx hb dX8_readOwn_54 (lv_at hl 0 rfl) ?_
      refine lv_icmp_gt (tgt := 63) hx hb dX8_readOwn_56 (by decide) (fun c_17 => ?_) (fun c_17 => ?_)
      · refine lv_iconst (v := 0) hx hb dX8_readOwn_63 (by decide) ?_
        have hC := c_X8_goes l D g m0 sc0 rd0 nw0 tr0 di0 ke0 ik0 cp0 cn0 be0 H.size rf ss n_9 n_10 lo ac 0
        obtain ⟨v_18, ev_18⟩ : ∃ z, z = (f_X8_goes n_10 lo 0) := ⟨_, rfl⟩
        rw [← ev_18] at hC
        refine k_ai (wr := [(sc0, .inl (g 0, 120, .inl sc)), (rd0, .inl (g 0, 748, .inl rw))]) (w2 := [(m0, .inr (8, [.int rf, .ref sc0, .int (nI ss), .int (nI n_9), .int n_10, .int v_18.2, .ref rd0, .ref nw0, .ref tr0, .ref di0, .int (nI ac), .ref ke0, .ref ik0, .ref cp0, .ref cn0, .ref be0])), (sc0, .inl (g 0, 120, .inl sc)), (rd0, .inl (g 0, 748, .inl rw))]) (va_runV (As := [.int 0]) (rest := []) ⟨hx, hb, hml, hown, hts⟩ hC (cwV 1 hts gX8_readOwn_X8_goes rfl rfl rfl (by decide +kernel) (k_lvl (by omega) (by decide))) (kPV hP hD hK hS hA hE [0] rfl (by decide) 0 8 rfl rfl rfl) rfl rfl hl.1 rfl (lv_room (Nat.le_of_ble_eq_true rfl)) dX8_readOwn_64 ⟨Nat.le_of_ble_eq_true rfl, Nat.le_of_ble_eq_true rfl⟩) hP hD hS hA [0] [1, 2] [2, 0, 1] rfl rfl (by decide) (by decide) rfl (by decide) (fun H locs hP hD hS => ?_)
        refine k_top (y := 0) (by rw [ev_18]; exact goes_0 _ _) ?_
        refine lv_if_eq (tgt := 85) hx hb dX8_readOwn_67 (by decide) (fun _ => ?_) (fun c_19 => absurd c_19 (by decide))
        have en_10 : n_10 = (kUi ss n_7 sc n_8 9) := kn_10
        subst en_10
        have en_9 : n_9 = (kUs ss n_7 sc n_8 9) := kn_9
        subst en_9
        have en_8 : n_8 = (kUi ss n_5 sc n_6 9) := kn_8
        subst en_8
        have en_7 : n_7 = (kUs ss n_5 sc n_6 9) := kn_7
        subst en_7
        have en_6 : n_6 = (kUi ss n_3 sc n_4 9) := kn_6
        subst en_6
        have en_5 : n_5 = (kUs ss n_3 sc n_4 9) := kn_5
        subst en_5
        have en_4 : n_4 = (kUi ss n_1 sc n_2 9) := kn_4
        subst en_4
        have en_3 : n_3 = (kUs ss n_1 sc n_2 9) := kn_3
        subst en_3
        have en_2 : n_2 = (kAccG ig (kDb ss sp sc 0 9)) := kn_2
        subst en_2
        have en_1 : n_1 = (kAccS sp ig (kDb ss sp sc 0 9)) := kn_1
        subst en_1
        have hE2 : (f_X8_readOwn ss sp ig lo sc rw) = (v_18.2, rw) := by
          subst ev_18
          have hd3001 : d_3001 = (kDr ss sp sc ig 0 9).toNatClampNeg := khd3001
          subst hd3001
          exact (if_neg c_11).trans ((if_neg c_14).trans ((if_pos c_17).trans (rfl)))
        subst hQ
        exact k_rv hx hb hr hlocks hP hD hS dX8_readOwn_85 (by rw [hE2])
      · refine lv_iconst (v := 1) hx hb dX8_readOwn_59 (by decide) ?_
        refine lv_goto (tgt := 64) hx hb dX8_readOwn_60 (by decide) ?_
        have hC := c_X8_goes l D g m0 sc0 rd0 nw0 tr0 di0 ke0 ik0 cp0 cn0 be0 H.size rf ss n_9 n_10 lo ac 1
        obtain ⟨v_20, ev_20⟩ : ∃ z, z = (f_X8_goes n_10 lo 1) := ⟨_, rfl⟩
        rw [← ev_20] at hC
        refine k_ai (wr := [(sc0, .inl (g 0, 120, .inl sc)), (rd0, .inl (g 0, 748, .inl rw))]) (w2 := [(m0, .inr (8, [.int rf, .ref sc0, .int (nI ss), .int (nI n_9), .int n_10, .int v_20.2, .ref rd0, .ref nw0, .ref tr0, .ref di0, .int (nI ac), .ref ke0, .ref ik0, .ref cp0, .ref cn0, .ref be0])), (sc0, .inl (g 0, 120, .inl sc)), (rd0, .inl (g 0, 748, .inl rw))]) (va_runV (As := [.int 1]) (rest := []) ⟨hx, hb, hml, hown, hts⟩ hC (cwV 1 hts gX8_readOwn_X8_goes rfl rfl rfl (by decide +kernel) (k_lvl (by omega) (by decide))) (kPV hP hD hK hS hA hE [0] rfl (by decide) 0 8 rfl rfl rfl) rfl rfl hl.1 rfl (lv_room (Nat.le_of_ble_eq_true rfl)) dX8_readOwn_64 ⟨Nat.le_of_ble_eq_true rfl, Nat.le_of_ble_eq_true rfl⟩) hP hD hS hA [0] [1, 2] [2, 0, 1] rfl rfl (by decide) (by decide) rfl (by decide) (fun H locs hP hD hS => ?_)
        refine k_top (y := v_20.1) (rfl) ?_
        refine lv_if_eq (tgt := 85) hx hb dX8_readOwn_67 (by decide) (fun c_21 => ?_) (fun c_21 => ?_)
        · have en_10 : n_10 = (kUi ss n_7 sc n_8 9) := kn_10
          subst en_10
          have en_9 : n_9 = (kUs ss n_7 sc n_8 9) := kn_9
          subst en_9
          have en_8 : n_8 = (kUi ss n_5 sc n_6 9) := kn_8
          subst en_8
          have en_7 : n_7 = (kUs ss n_5 sc n_6 9) := kn_7
          subst en_7
          have en_6 : n_6 = (kUi ss n_3 sc n_4 9) := kn_6
          subst en_6
          have en_5 : n_5 = (kUs ss n_3 sc n_4 9) := kn_5
          subst en_5
          have en_4 : n_4 = (kUi ss n_1 sc n_2 9) := kn_4
          subst en_4
          have en_3 : n_3 = (kUs ss n_1 sc n_2 9) := kn_3
          subst en_3
          have en_2 : n_2 = (kAccG ig (kDb ss sp sc 0 9)) := kn_2
          subst en_2
          have en_1 : n_1 = (kAccS sp ig (kDb ss sp sc 0 9)) := kn_1
          subst en_1
          have hE2 : (f_X8_readOwn ss sp ig lo sc rw) = (v_20.2, rw) := by
            subst ev_20
            have hd3001 : d_3001 = (kDr ss sp sc ig 0 9).toNatClampNeg := khd3001
            subst hd3001
            exact (if_neg c_11).trans ((if_neg c_14).trans ((if_neg c_17).trans ((if_pos c_21).trans (rfl))))
          subst hQ
          exact k_rv hx hb hr hlocks hP hD hS dX8_readOwn_85 (by rw [hE2])
        · refine lv_aload_n hx hb dX8_readOwn_70 rfl (lv_at hl 5 rfl) ?_
          refine va_get (D := D) (ci := 8) (v := .ref rd0) (C := RX8) (T := TX8) (N := 16) hx hb hts (fun w h => (List.mem_cons_of_mem _ (List.mem_append_right _ h))) hown hK hP 0 rfl rfl 6 (by decide) (hts _ qX8_readOwn_0) (fun _ h9 => h9) rfl dX8_readOwn_71 ?_
          refine lv_iconst (v := 0) hx hb dX8_readOwn_74 (by decide) ?_
          refine lv_iload_n hx hb dX8_readOwn_75 rfl (lv_at hl 4 rfl) ?_
          refine lv_iload_n hx hb dX8_readOwn_76 rfl (lv_at hl 3 rfl) ?_
          refine lv_iload_n hx hb dX8_readOwn_77 rfl (lv_at hl 2 rfl) ?_
          refine lv_iload hx hb dX8_readOwn_78 (lv_at hl 1 rfl) ?_
          refine lv_iload hx hb dX8_readOwn_80 (lv_at hl 0 rfl) ?_
          refine k_av (wr := [(m0, .inr (8, [.int rf, .ref sc0, .int (nI ss), .int (nI n_9), .int n_10, .int v_20.2, .ref rd0, .ref nw0, .ref tr0, .ref di0, .int (nI ac), .ref ke0, .ref ik0, .ref cp0, .ref cn0, .ref be0])), (sc0, .inl (g 0, 120, .inl sc))]) (w2 := [(m0, .inr (8, [.int rf, .ref sc0, .int (nI ss), .int (nI n_9), .int n_10, .int v_20.2, .ref rd0, .ref nw0, .ref tr0, .ref di0, .int (nI ac), .ref ke0, .ref ik0, .ref cp0, .ref cn0, .ref be0])), (sc0, .inl (g 0, 120, .inl sc)), (rd0, .inl (g 0, 748, .inl (f_X8_promise rw 0 d_3001 (kSv ss n_1 sc n_2 9) (kSv ss n_3 sc n_4 9) (kSv ss n_5 sc n_6 9) (kSv ss n_7 sc n_8 9))))]) (va_runS (As := [.ref rd0, .int 0, .int (nI d_3001), .int (kSv ss n_1 sc n_2 9), .int (kSv ss n_3 sc n_4 9), .int (kSv ss n_5 sc n_6 9), .int (kSv ss n_7 sc n_8 9)]) (rest := []) ⟨hx, hb, hml, hown, hts⟩ (c_X8_promise l D g rd0 H.size rw 0 d_3001 (kSv ss n_1 sc n_2 9) (kSv ss n_3 sc n_4 9) (kSv ss n_5 sc n_6 9) (kSv ss n_7 sc n_8 9) (by omega) (by omega)) (va_cwS 7 hts gX8_readOwn_X8_promise rfl rfl rfl (by decide +kernel) (k_lvl (by omega) (by decide))) (kPS hP hD hK hS hA hE [2] rfl (by decide)) rfl rfl hl.1 rfl (lv_room (Nat.le_of_ble_eq_true rfl)) dX8_readOwn_82 ⟨Nat.le_of_ble_eq_true rfl, Nat.le_of_ble_eq_true rfl⟩) hP hD hS hA [2] [0, 1] [0, 1, 2] rfl rfl (by decide) (by decide) rfl (by decide) (fun H locs hP hD hS => ?_)
          have en_10 : n_10 = (kUi ss n_7 sc n_8 9) := kn_10
          subst en_10
          have en_9 : n_9 = (kUs ss n_7 sc n_8 9) := kn_9
          subst en_9
          have en_8 : n_8 = (kUi ss n_5 sc n_6 9) := kn_8
          subst en_8
          have en_7 : n_7 = (kUs ss n_5 sc n_6 9) := kn_7
          subst en_7
          have en_6 : n_6 = (kUi ss n_3 sc n_4 9) := kn_6
          subst en_6
          have en_5 : n_5 = (kUs ss n_3 sc n_4 9) := kn_5
          subst en_5
          have en_4 : n_4 = (kUi ss n_1 sc n_2 9) := kn_4
          subst en_4
          have en_3 : n_3 = (kUs ss n_1 sc n_2 9) := kn_3
          subst en_3
          have en_2 : n_2 = (kAccG ig (kDb ss sp sc 0 9)) := kn_2
          subst en_2
          have en_1 : n_1 = (kAccS sp ig (kDb ss sp sc 0 9)) := kn_1
          subst en_1
          have hE2 : (f_X8_readOwn ss sp ig lo sc rw) = (v_20.2, (f_X8_promise rw 0 d_3001 (kSv ss (kAccS sp ig (kDb ss sp sc 0 9)) sc (kAccG ig (kDb ss sp sc 0 9)) 9) (kSv ss (kUs ss (kAccS sp ig (kDb ss sp sc 0 9)) sc (kAccG ig (kDb ss sp sc 0 9)) 9) sc (kUi ss (kAccS sp ig (kDb ss sp sc 0 9)) sc (kAccG ig (kDb ss sp sc 0 9)) 9) 9) (kSv ss (kUs ss (kUs ss (kAccS sp ig (kDb ss sp sc 0 9)) sc (kAccG ig (kDb ss sp sc 0 9)) 9) sc (kUi ss (kAccS sp ig (kDb ss sp sc 0 9)) sc (kAccG ig (kDb ss sp sc 0 9)) 9) 9) sc (kUi ss (kUs ss (kAccS sp ig (kDb ss sp sc 0 9)) sc (kAccG ig (kDb ss sp sc 0 9)) 9) sc (kUi ss (kAccS sp ig (kDb ss sp sc 0 9)) sc (kAccG ig (kDb ss sp sc 0 9)) 9) 9) 9) (kSv ss (kUs ss (kUs ss (kUs ss (kAccS sp ig (kDb ss sp sc 0 9)) sc (kAccG ig (kDb ss sp sc 0 9)) 9) sc (kUi ss (kAccS sp ig (kDb ss sp sc 0 9)) sc (kAccG ig (kDb ss sp sc 0 9)) 9) 9) sc (kUi ss (kUs ss (kAccS sp ig (kDb ss sp sc 0 9)) sc (kAccG ig (kDb ss sp sc 0 9)) 9) sc (kUi ss (kAccS sp ig (kDb ss sp sc 0 9)) sc (kAccG ig (kDb ss sp sc 0 9)) 9) 9) 9) sc (kUi ss (kUs ss (kUs ss (kAccS sp ig (kDb ss sp sc 0 9)) sc (kAccG ig (kDb ss sp sc 0 9)) 9) sc (kUi ss (kAccS sp ig (kDb ss sp sc 0 9)) sc (kAccG ig (kDb ss sp sc 0 9)) 9) 9) sc (kUi ss (kUs ss (kAccS sp ig (kDb ss sp sc 0 9)) sc (kAccG ig (kDb ss sp sc 0 9)) 9) sc (kUi ss (kAccS sp ig (kDb ss sp sc 0 9)) sc (kAccG ig (kDb ss sp sc 0 9)) 9) 9) 9) 9))) := by
            subst ev_20
            have hd3001 : d_3001 = (kDr ss sp sc ig 0 9).toNatClampNeg := khd3001
            subst hd3001
            exact (if_neg c_11).trans ((if_neg c_14).trans ((if_neg c_17).trans ((if_neg c_21).trans (rfl))))
          subst hQ
          exact k_rv hx hb hr hlocks hP hD hS dX8_readOwn_85 (by rw [hE2])
def f_X8_readDrop (ss : Nat) (sp : Nat) (ig : Int32) (lo : Int32) (sc : Nat → Int32) (rw : Nat → Int32) : Int32 × (Nat → Int32) :=
  if (f_X8_isRead rw (nI (kDr ss sp sc ig 0 9).toNatClampNeg)) = 0 then
    ((f_X8_goes (kAccG ig (kDb ss sp sc 0 9)) lo 0).2, rw)
  else
    if (f_X8_hasContract rw 0 (kDr ss sp sc ig 0 9).toNatClampNeg) = 0 then
      ((f_X8_goes (kAccG ig (kDb ss sp sc 0 9)) lo 0).2, rw)
    else
      if (f_X8_goes (kAccG ig (kDb ss sp sc 0 9)) lo 1).1 = 0 then
        ((f_X8_goes (kAccG ig (kDb ss sp sc 0 9)) lo 1).2, rw)
      else
        ((f_X8_goes (kAccG ig (kDb ss sp sc 0 9)) lo 1).2, (upd rw (81 + 5 * (10 * 0 + (kDr ss sp sc ig 0 9).toNatClampNeg) + 0) 0))
theorem qX8_readDrop_0 : Cond.fieldLink RX8 13 "BlameChainsModel" "read" "[I" ∈ wsX8_readDrop := (List.mem_cons_of_mem _ (List.mem_append_left _ (List.mem_append_left _ (List.mem_of_getElem? (i := 0) rfl))))
set_option maxHeartbeats 4000000 in
set_option maxRecDepth 100000 in
theorem c_X8_readDrop (l : Launch) (D : va_G) (g : Nat → Nat) (m0 sc0 rd0 nw0 tr0 di0 ke0 ik0 cp0 cn0 be0 : Nat) (sz : Nat) (rf : Int32) (ss : Nat) (sp : Nat) (ig : Int32) (lo : Int32) (ac : Nat) (sc : Nat → Int32) (rw : Nat → Int32) (hss : ss ≤ 120) (hsp : sp ≤ 800) : kMv l D g yX8_readDrop wsX8_readDrop 3 0 0 [.ref m0] [(m0, .inr (8, [.int rf, .ref sc0, .int (nI ss), .int (nI sp), .int ig, .int lo, .ref rd0, .ref nw0, .ref tr0, .ref di0, .int (nI ac), .ref ke0, .ref ik0, .ref cp0, .ref cn0, .ref be0])), (sc0, .inl (g 0, 120, .inl sc)), (rd0, .inl (g 0, 748, .inl rw))] sz [(m0, .inr (8, [.int rf, .ref sc0, .int (nI ss), .int (nI (kAccS sp ig (kDb ss sp sc 0 9))), .int (kAccG ig (kDb ss sp sc 0 9)), .int ((f_X8_readDrop ss sp ig lo sc rw).1), .ref rd0, .ref nw0, .ref tr0, .ref di0, .int (nI ac), .ref ke0, .ref ik0, .ref cp0, .ref cn0, .ref be0])), (sc0, .inl (g 0, 120, .inl sc)), (rd0, .inl (g 0, 748, .inl ((f_X8_readDrop ss sp ig lo sc rw).2)))] := by
  refine k_enter (nm := "readDrop") (own := RX8) (bytes := cX8_readDrop) (maxL := 2) (ret := none) (Qf := fun A => kQv D [(m0, .inr (8, [.int rf, .ref sc0, .int (nI ss), .int (nI (kAccS sp ig (kDb ss sp sc 0 9))), .int (kAccG ig (kDb ss sp sc 0 9)), .int ((f_X8_readDrop ss sp ig lo sc rw).1), .ref rd0, .ref nw0, .ref tr0, .ref di0, .int (nI ac), .ref ke0, .ref ik0, .ref cp0, .ref cn0, .ref be0])), (sc0, .inl (g 0, 120, .inl sc)), (rd0, .inl (g 0, 748, .inl ((f_X8_readDrop ss sp ig lo sc rw).2)))] A) (by decide) rfl rfl rfl (Nat.le_of_ble_eq_true rfl) ?_
  rintro pp ee s mm below meth cc A ls args Q H locs hQ ⟨hx, hb, hr, hml, hown, hts, hlocks, hin⟩ hP hK hD hA hS hE hl
  have hl : lv_has ls 2 [(0, .ref m0)] := hl
  refine lv_aload_n hx hb dX8_readDrop_0 rfl (lv_at hl 0 rfl) ?_
  refine lv_iconst (v := 0) hx hb dX8_readDrop_1 (by decide) ?_
  refine lv_bipush (v := 9) hx hb dX8_readDrop_2 (by decide) ?_
  have hC := c_X8_digit l D g m0 sc0 rd0 nw0 tr0 di0 ke0 ik0 cp0 cn0 be0 H.size rf ss sp ig lo ac sc 0 9 (by omega) (by omega)
  obtain ⟨n_1, en_1⟩ : ∃ z, z = (kAccS sp ig (kDb ss sp sc 0 9)) := ⟨_, rfl⟩
  rw [← en_1] at hC
  have hbn_1 : n_1 ≤ sp + 1 := by rw [en_1]; exact kAccS_le _ _ _
  have kn_1 : kEq n_1 (kAccS sp ig (kDb ss sp sc 0 9)) := en_1
  clear en_1
  obtain ⟨n_2, en_2⟩ : ∃ z, z = (kAccG ig (kDb ss sp sc 0 9)) := ⟨_, rfl⟩
  rw [← en_2] at hC
  have kn_2 : kEq n_2 (kAccG ig (kDb ss sp sc 0 9)) := en_2
  clear en_2
  refine k_ai (wr := [(rd0, .inl (g 0, 748, .inl rw))]) (w2 := [(m0, .inr (8, [.int rf, .ref sc0, .int (nI ss), .int (nI n_1), .int n_2, .int lo, .ref rd0, .ref nw0, .ref tr0, .ref di0, .int (nI ac), .ref ke0, .ref ik0, .ref cp0, .ref cn0, .ref be0])), (sc0, .inl (g 0, 120, .inl sc)), (rd0, .inl (g 0, 748, .inl rw))]) (va_runV (As := [.int 0, .int 9]) (rest := []) ⟨hx, hb, hml, hown, hts⟩ hC (cwV 2 hts gX8_readDrop_X8_digit rfl rfl rfl (by decide +kernel) (k_lvl (by omega) (by decide))) (kPV hP hD hK hS hA hE [0, 1] rfl (by decide) 0 8 rfl rfl rfl) rfl rfl hl.1 rfl (lv_room (Nat.le_of_ble_eq_true rfl)) dX8_readDrop_4 ⟨Nat.le_of_ble_eq_true rfl, Nat.le_of_ble_eq_true rfl⟩) hP hD hS hA [0, 1] [2] [1, 2, 0] rfl rfl (by decide) (by decide) rfl (by decide) (fun H locs hP hD hS => ?_)
  obtain ⟨d_3001, hd3001⟩ : ∃ z, z = (kDr ss sp sc ig 0 9).toNatClampNeg := ⟨_, rfl⟩
  have hde3001 : (kDr ss sp sc ig 0 9) = nI d_3001 := by rw [hd3001]; exact (kDr_N ss sp sc ig 9).1
  have hdl3001 : d_3001 ≤ 9 := by rw [hd3001]; exact (kDr_N ss sp sc ig 9).2
  have khd3001 : kEq d_3001 ((kDr ss sp sc ig 0 9).toNatClampNeg) := hd3001
  clear hd3001
  refine k_top (y := nI d_3001) hde3001 ?_
  refine lv_istore_n (lv' := [(1, .int (nI d_3001)), (0, .ref m0)]) hx hb dX8_readDrop_7 rfl hl (by decide) rfl (fun ls hl => ?_)
  refine lv_aload_n hx hb dX8_readDrop_8 rfl (lv_at hl 1 rfl) ?_
  refine lv_aload_n hx hb dX8_readDrop_9 rfl (lv_at hl 1 rfl) ?_
  refine lv_iload_n hx hb dX8_readDrop_10 rfl (lv_at hl 0 rfl) ?_
  refine k_ai (wr := [(sc0, .inl (g 0, 120, .inl sc))]) (w2 := [(m0, .inr (8, [.int rf, .ref sc0, .int (nI ss), .int (nI n_1), .int n_2, .int lo, .ref rd0, .ref nw0, .ref tr0, .ref di0, .int (nI ac), .ref ke0, .ref ik0, .ref cp0, .ref cn0, .ref be0])), (sc0, .inl (g 0, 120, .inl sc)), (rd0, .inl (g 0, 748, .inl rw))]) (va_runV (As := [.int (nI d_3001)]) (rest := [.ref m0]) ⟨hx, hb, hml, hown, hts⟩ (c_X8_isRead l D g m0 sc0 rd0 nw0 tr0 di0 ke0 ik0 cp0 cn0 be0 H.size rf ss n_1 n_2 lo ac rw (nI d_3001)) (cwV 1 hts gX8_readDrop_X8_isRead rfl rfl rfl (by decide +kernel) (k_lvl (by omega) (by decide))) (kPV hP hD hK hS hA hE [0, 2] rfl (by decide) 0 8 rfl rfl rfl) rfl rfl hl.1 rfl (lv_room (Nat.le_of_ble_eq_true rfl)) dX8_readDrop_11 ⟨Nat.le_of_ble_eq_true rfl, Nat.le_of_ble_eq_true rfl⟩) hP hD hS hA [0, 2] [1] [1, 0, 2] rfl rfl (by decide) (by decide) rfl (by decide) (fun H locs hP hD hS => ?_)
  refine lv_if_eq (tgt := 33) hx hb dX8_readDrop_14 (by decide) (fun c_3 => ?_) (fun c_3 => ?_)
  · refine lv_iconst (v := 0) hx hb dX8_readDrop_33 (by decide) ?_
    have hC := c_X8_goes l D g m0 sc0 rd0 nw0 tr0 di0 ke0 ik0 cp0 cn0 be0 H.size rf ss n_1 n_2 lo ac 0
    obtain ⟨v_4, ev_4⟩ : ∃ z, z = (f_X8_goes n_2 lo 0) := ⟨_, rfl⟩
    rw [← ev_4] at hC
    refine k_ai (wr := [(sc0, .inl (g 0, 120, .inl sc)), (rd0, .inl (g 0, 748, .inl rw))]) (w2 := [(m0, .inr (8, [.int rf, .ref sc0, .int (nI ss), .int (nI n_1), .int n_2, .int v_4.2, .ref rd0, .ref nw0, .ref tr0, .ref di0, .int (nI ac), .ref ke0, .ref ik0, .ref cp0, .ref cn0, .ref be0])), (sc0, .inl (g 0, 120, .inl sc)), (rd0, .inl (g 0, 748, .inl rw))]) (va_runV (As := [.int 0]) (rest := []) ⟨hx, hb, hml, hown, hts⟩ hC (cwV 1 hts gX8_readDrop_X8_goes rfl rfl rfl (by decide +kernel) (k_lvl (by omega) (by decide))) (kPV hP hD hK hS hA hE [0] rfl (by decide) 0 8 rfl rfl rfl) rfl rfl hl.1 rfl (lv_room (Nat.le_of_ble_eq_true rfl)) dX8_readDrop_34 ⟨Nat.le_of_ble_eq_true rfl, Nat.le_of_ble_eq_true rfl⟩) hP hD hS hA [0] [1, 2] [2, 0, 1] rfl rfl (by decide) (by decide) rfl (by decide) (fun H locs hP hD hS => ?_)
    refine k_top (y := 0) (by rw [ev_4]; exact goes_0 _ _) ?_
    refine lv_if_eq (tgt := 52) hx hb dX8_readDrop_37 (by decide) (fun _ => ?_) (fun c_5 => absurd c_5 (by decide))
    have en_2 : n_2 = (kAccG ig (kDb ss sp sc 0 9)) := kn_2
    subst en_2
    have en_1 : n_1 = (kAccS sp ig (kDb ss sp sc 0 9)) := kn_1
    subst en_1
    have hE2 : (f_X8_readDrop ss sp ig lo sc rw) = (v_4.2, rw) := by
      subst ev_4
      have hd3001 : d_3001 = (kDr ss sp sc ig 0 9).toNatClampNeg := khd3001
      subst hd3001
      exact (if_pos c_3).trans (rfl)
    subst hQ
    exact k_rv hx hb hr hlocks hP hD hS dX8_readDrop_52 (by rw [hE2])
  · refine lv_aload_n hx hb dX8_readDrop_17 rfl (lv_at hl 1 rfl) ?_
    refine va_get (D := D) (ci := 8) (v := .ref rd0) (C := RX8) (T := TX8) (N := 16) hx hb hts (fun w h => (List.mem_cons_of_mem _ (List.mem_append_right _ h))) hown hK hP 0 rfl rfl 6 (by decide) (hts _ qX8_readDrop_0) (fun _ h9 => h9) rfl dX8_readDrop_18 ?_
    refine lv_iconst (v := 0) hx hb dX8_readDrop_21 (by decide) ?_
    refine lv_iload_n hx hb dX8_readDrop_22 rfl (lv_at hl 0 rfl) ?_
    refine k_ai (wr := [(m0, .inr (8, [.int rf, .ref sc0, .int (nI ss), .int (nI n_1), .int n_2, .int lo, .ref rd0, .ref nw0, .ref tr0, .ref di0, .int (nI ac), .ref ke0, .ref ik0, .ref cp0, .ref cn0, .ref be0])), (sc0, .inl (g 0, 120, .inl sc))]) (w2 := [(m0, .inr (8, [.int rf, .ref sc0, .int (nI ss), .int (nI n_1), .int n_2, .int lo, .ref rd0, .ref nw0, .ref tr0, .ref di0, .int (nI ac), .ref ke0, .ref ik0, .ref cp0, .ref cn0, .ref be0])), (sc0, .inl (g 0, 120, .inl sc)), (rd0, .inl (g 0, 748, .inl rw))]) (va_runS (As := [.ref rd0, .int 0, .int (nI d_3001)]) (rest := [.ref m0]) ⟨hx, hb, hml, hown, hts⟩ (c_X8_hasContract l D g rd0 H.size rw 0 d_3001 (by omega) (by omega)) (va_cwS 3 hts gX8_readDrop_X8_hasContract rfl rfl rfl (by decide +kernel) (k_lvl (by omega) (by decide))) (kPS hP hD hK hS hA hE [2] rfl (by decide)) rfl rfl hl.1 rfl (lv_room (Nat.le_of_ble_eq_true rfl)) dX8_readDrop_23 ⟨Nat.le_of_ble_eq_true rfl, Nat.le_of_ble_eq_true rfl⟩) hP hD hS hA [2] [0, 1] [0, 1, 2] rfl rfl (by decide) (by decide) rfl (by decide) (fun H locs hP hD hS => ?_)
    refine lv_if_eq (tgt := 33) hx hb dX8_readDrop_26 (by decide) (fun c_6 => ?_) (fun c_6 => ?_)
    · refine lv_iconst (v := 0) hx hb dX8_readDrop_33 (by decide) ?_
      have hC := c_X8_goes l D g m0 sc0 rd0 nw0 tr0 di0 ke0 ik0 cp0 cn0 be0 H.size rf ss n_1 n_2 lo ac 0
      obtain ⟨v_7, ev_7⟩ : ∃ z, z = (f_X8_goes n_2 lo 0) := ⟨_, rfl⟩
      rw [← ev_7] at hC
      refine k_ai (wr := [(sc0, .inl (g 0, 120, .inl sc)), (rd0, .inl (g 0, 748, .inl rw))]) (w2 := [(m0, .inr (8, [.int rf, .ref sc0, .int (nI ss), .int (nI n_1), .int n_2, .int v_7.2, .ref rd0, .ref nw0, .ref tr0, .ref di0, .int (nI ac), .ref ke0, .ref ik0, .ref cp0, .ref cn0, .ref be0])), (sc0, .inl (g 0, 120, .inl sc)), (rd0, .inl (g 0, 748, .inl rw))]) (va_runV (As := [.int 0]) (rest := []) ⟨hx, hb, hml, hown, hts⟩ hC (cwV 1 hts gX8_readDrop_X8_goes rfl rfl rfl (by decide +kernel) (k_lvl (by omega) (by decide))) (kPV hP hD hK hS hA hE [0] rfl (by decide) 0 8 rfl rfl rfl) rfl rfl hl.1 rfl (lv_room (Nat.le_of_ble_eq_true rfl)) dX8_readDrop_34 ⟨Nat.le_of_ble_eq_true rfl, Nat.le_of_ble_eq_true rfl⟩) hP hD hS hA [0] [1, 2] [2, 0, 1] rfl rfl (by decide) (by decide) rfl (by decide) (fun H locs hP hD hS => ?_)
      refine k_top (y := 0) (by rw [ev_7]; exact goes_0 _ _) ?_
      refine lv_if_eq (tgt := 52) hx hb dX8_readDrop_37 (by decide) (fun _ => ?_) (fun c_8 => absurd c_8 (by decide))
      have en_2 : n_2 = (kAccG ig (kDb ss sp sc 0 9)) := kn_2
      subst en_2
      have en_1 : n_1 = (kAccS sp ig (kDb ss sp sc 0 9)) := kn_1
      subst en_1
      have hE2 : (f_X8_readDrop ss sp ig lo sc rw) = (v_7.2, rw) := by
        subst ev_7
        have hd3001 : d_3001 = (kDr ss sp sc ig 0 9).toNatClampNeg := khd3001
        subst hd3001
        exact (if_neg c_3).trans ((if_pos c_6).trans (rfl))
      subst hQ
      exact k_rv hx hb hr hlocks hP hD hS dX8_readDrop_52 (by rw [hE2])
    · refine lv_iconst (v := 1) hx hb dX8_readDrop_29 (by decide) ?_
      refine lv_goto (tgt := 34) hx hb dX8_readDrop_30 (by decide) ?_
      have hC := c_X8_goes l D g m0 sc0 rd0 nw0 tr0 di0 ke0 ik0 cp0 cn0 be0 H.size rf ss n_1 n_2 lo ac 1
      obtain ⟨v_9, ev_9⟩ : ∃ z, z = (f_X8_goes n_2 lo 1) := ⟨_, rfl⟩
      rw [← ev_9] at hC
      refine k_ai (wr := [(sc0, .inl (g 0, 120, .inl sc)), (rd0, .inl (g 0, 748, .inl rw))]) (w2 := [(m0, .inr (8, [.int rf, .ref sc0, .int (nI ss), .int (nI n_1), .int n_2, .int v_9.2, .ref rd0, .ref nw0, .ref tr0, .ref di0, .int (nI ac), .ref ke0, .ref ik0, .ref cp0, .ref cn0, .ref be0])), (sc0, .inl (g 0, 120, .inl sc)), (rd0, .inl (g 0, 748, .inl rw))]) (va_runV (As := [.int 1]) (rest := []) ⟨hx, hb, hml, hown, hts⟩ hC (cwV 1 hts gX8_readDrop_X8_goes rfl rfl rfl (by decide +kernel) (k_lvl (by omega) (by decide))) (kPV hP hD hK hS hA hE [0] rfl (by decide) 0 8 rfl rfl rfl) rfl rfl hl.1 rfl (lv_room (Nat.le_of_ble_eq_true rfl)) dX8_readDrop_34 ⟨Nat.le_of_ble_eq_true rfl, Nat.le_of_ble_eq_true rfl⟩) hP hD hS hA [0] [1, 2] [2, 0, 1] rfl rfl (by decide) (by decide) rfl (by decide) (fun H locs hP hD hS => ?_)
      refine k_top (y := v_9.1) (rfl) ?_
      refine lv_if_eq (tgt := 52) hx hb dX8_readDrop_37 (by decide) (fun c_10 => ?_) (fun c_10 => ?_)
      · have en_2 : n_2 = (kAccG ig (kDb ss sp sc 0 9)) := kn_2
        subst en_2
        have en_1 : n_1 = (kAccS sp ig (kDb ss sp sc 0 9)) := kn_1
        subst en_1
        have hE2 : (f_X8_readDrop ss sp ig lo sc rw) = (v_9.2, rw) := by
          subst ev_9
          have hd3001 : d_3001 = (kDr ss sp sc ig 0 9).toNatClampNeg := khd3001
          subst hd3001
          exact (if_neg c_3).trans ((if_neg c_6).trans ((if_pos c_10).trans (rfl)))
        subst hQ
        exact k_rv hx hb hr hlocks hP hD hS dX8_readDrop_52 (by rw [hE2])
      · refine lv_aload_n hx hb dX8_readDrop_40 rfl (lv_at hl 1 rfl) ?_
        refine va_get (D := D) (ci := 8) (v := .ref rd0) (C := RX8) (T := TX8) (N := 16) hx hb hts (fun w h => (List.mem_cons_of_mem _ (List.mem_append_right _ h))) hown hK hP 0 rfl rfl 6 (by decide) (hts _ qX8_readDrop_0) (fun _ h9 => h9) rfl dX8_readDrop_41 ?_
        refine lv_iconst (v := 0) hx hb dX8_readDrop_44 (by decide) ?_
        refine lv_iload_n hx hb dX8_readDrop_45 rfl (lv_at hl 0 rfl) ?_
        refine lv_iconst (v := 0) hx hb dX8_readDrop_46 (by decide) ?_
        refine k_ai (wr := [(m0, .inr (8, [.int rf, .ref sc0, .int (nI ss), .int (nI n_1), .int n_2, .int v_9.2, .ref rd0, .ref nw0, .ref tr0, .ref di0, .int (nI ac), .ref ke0, .ref ik0, .ref cp0, .ref cn0, .ref be0])), (sc0, .inl (g 0, 120, .inl sc)), (rd0, .inl (g 0, 748, .inl rw))]) (w2 := [(m0, .inr (8, [.int rf, .ref sc0, .int (nI ss), .int (nI n_1), .int n_2, .int v_9.2, .ref rd0, .ref nw0, .ref tr0, .ref di0, .int (nI ac), .ref ke0, .ref ik0, .ref cp0, .ref cn0, .ref be0])), (sc0, .inl (g 0, 120, .inl sc)), (rd0, .inl (g 0, 748, .inl rw))]) (va_runS (As := [.int 0, .int (nI d_3001), .int 0]) (rest := [.ref rd0]) ⟨hx, hb, hml, hown, hts⟩ (c_X8_contractAt l D g H.size 0 d_3001 0) (va_cwS 3 hts gX8_readDrop_X8_contractAt rfl rfl rfl (by decide +kernel) (k_lvl (by omega) (by decide))) (kPS hP hD hK hS hA hE [] rfl (by decide)) rfl rfl hl.1 rfl (lv_room (Nat.le_of_ble_eq_true rfl)) dX8_readDrop_47 ⟨Nat.le_of_ble_eq_true rfl, Nat.le_of_ble_eq_true rfl⟩) hP hD hS hA [] [0, 1, 2] [0, 1, 2] rfl rfl (by decide) (by decide) rfl (by decide) (fun H locs hP hD hS => ?_)
        refine lv_iconst (v := 0) hx hb dX8_readDrop_50 (by decide) ?_
        refine va_iast (i := (nI (81 + 5 * (10 * 0 + d_3001) + 0))) (x := 0) hx hb hK hP hD hS 2 0 rfl rfl (vp_in_nI (n := (81 + 5 * (10 * 0 + d_3001) + 0)) (by omega) (by omega)) dX8_readDrop_51 (fun H locs hP hD hS => ?_)
        rw [nI_clamp (n := (81 + 5 * (10 * 0 + d_3001) + 0)) (by omega)] at hP hD
        have hP : va_P D vwCl [(m0, .inr (8, [.int rf, .ref sc0, .int (nI ss), .int (nI n_1), .int n_2, .int v_9.2, .ref rd0, .ref nw0, .ref tr0, .ref di0, .int (nI ac), .ref ke0, .ref ik0, .ref cp0, .ref cn0, .ref be0])), (sc0, .inl (g 0, 120, .inl sc)), (rd0, .inl (g 0, 748, .inl (upd rw (81 + 5 * (10 * 0 + d_3001) + 0) 0)))] H := hP
        have hD : va_D A [(m0, .inr (8, [.int rf, .ref sc0, .int (nI ss), .int (nI n_1), .int n_2, .int v_9.2, .ref rd0, .ref nw0, .ref tr0, .ref di0, .int (nI ac), .ref ke0, .ref ik0, .ref cp0, .ref cn0, .ref be0])), (sc0, .inl (g 0, 120, .inl sc)), (rd0, .inl (g 0, 748, .inl (upd rw (81 + 5 * (10 * 0 + d_3001) + 0) 0)))] := hD
        have en_2 : n_2 = (kAccG ig (kDb ss sp sc 0 9)) := kn_2
        subst en_2
        have en_1 : n_1 = (kAccS sp ig (kDb ss sp sc 0 9)) := kn_1
        subst en_1
        have hE2 : (f_X8_readDrop ss sp ig lo sc rw) = (v_9.2, (upd rw (81 + 5 * (10 * 0 + d_3001) + 0) 0)) := by
          subst ev_9
          have hd3001 : d_3001 = (kDr ss sp sc ig 0 9).toNatClampNeg := khd3001
          subst hd3001
          exact (if_neg c_3).trans ((if_neg c_6).trans ((if_neg c_10).trans (rfl)))
        subst hQ
        exact k_rv hx hb hr hlocks hP hD hS dX8_readDrop_52 (by rw [hE2])
