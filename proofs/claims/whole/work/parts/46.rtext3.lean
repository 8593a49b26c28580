-- MODULE: the reference, its text, 3
noncomputable section
/-- an equation that omega doesn't look at -/
def kEq {α : Type} (a b : α) : Prop := a = b
/-- a value that nothing unfolds -/
def hid {α : Type} (a : α) : α := Classical.choose (⟨a, rfl⟩ : ∃ z, z = a)
theorem hid_eq {α : Type} (a : α) : hid a = a := Classical.choose_spec (⟨a, rfl⟩ : ∃ z, z = a)
def h_X8_callIn := hid f_X8_callIn
theorem h_X8_callIn_eq : h_X8_callIn = f_X8_callIn := hid_eq _
theorem c_X8_callInH (l : Launch) (D : va_G) (g : Nat → Nat) (m0 r0 sc0 rd0 nw0 tr0 di0 ke0 ik0 cp0 cn0 be0 : Nat) (sz : Nat) (rf : Int32) (ss : Nat) (sp : Nat) (ig : Int32) (lo : Int32) (ac : Nat) (cp : Nat → Int32) (cn : Nat → Int32) (rw : Nat → Int32) (pa : Nat) (x : Int32) (hpa : pa < 10) (hR : rNx rw) : kMi l D g yX8_callIn wsX8_callIn 5 0 0 [.ref m0, .ref r0, .int (nI pa), .int x] [(m0, .inr (8, [.int rf, .ref sc0, .int (nI ss), .int (nI sp), .int ig, .int lo, .ref rd0, .ref nw0, .ref tr0, .ref di0, .int (nI ac), .ref ke0, .ref ik0, .ref cp0, .ref cn0, .ref be0])), (cp0, .inl (g 0, 10, .inl cp)), (cn0, .inl (g 0, 10, .inl cn)), (r0, .inl (g 0, 748, .inl rw))] sz ((h_X8_callIn cp cn rw pa x).1) [(m0, .inr (8, [.int rf, .ref sc0, .int (nI ss), .int (nI sp), .int ig, .int lo, .ref rd0, .ref nw0, .ref tr0, .ref di0, .int (nI ac), .ref ke0, .ref ik0, .ref cp0, .ref cn0, .ref be0])), (cp0, .inl (g 0, 10, .inl ((h_X8_callIn cp cn rw pa x).2.2.1))), (cn0, .inl (g 0, 10, .inl ((h_X8_callIn cp cn rw pa x).2.2.2))), (r0, .inl (g 0, 748, .inl ((h_X8_callIn cp cn rw pa x).2.1)))] := by
  rw [h_X8_callIn_eq]
  exact c_X8_callIn l D g m0 r0 sc0 rd0 nw0 tr0 di0 ke0 ik0 cp0 cn0 be0 sz rf ss sp ig lo ac cp cn rw pa x hpa hR
theorem in_09 {x : Int32} (h : ¬ f_X8_in (Int32.toInt64 x) 0 9 = 0) : ¬ x < 0 ∧ ¬ 10 ≤ x := by
  unfold f_X8_in at h
  have e : (Int32.toInt64 x).toInt = x.toInt := Int32.toInt_toInt64 x
  have e0 : (0 : Int64).toInt = 0 := by decide
  have e9 : (9 : Int64).toInt = 9 := by decide
  have f0 : (0 : Int32).toInt = 0 := by decide
  have f10 : (10 : Int32).toInt = 10 := by decide
  by_cases h1 : (Int32.toInt64 x) < 0
  · rw [if_pos h1] at h; exact absurd rfl h
  · rw [if_neg h1] at h
    by_cases h2 : 9 < Int32.toInt64 x
    · rw [if_pos h2] at h; exact absurd rfl h
    · refine ⟨fun q => h1 (Int64.lt_iff_toInt_lt.mpr ?_), fun q => h2 (Int64.lt_iff_toInt_lt.mpr ?_)⟩
      · have q1 := Int32.lt_iff_toInt_lt.mp q
        omega
      · have q1 := Int32.le_iff_toInt_le.mp q
        omega
theorem kDr_N (ss sp : Nat) (sc : Nat → Int32) (ig hi9 : Int32) : kDr ss sp sc ig 0 hi9 = nI (kDr ss sp sc ig 0 hi9).toNatClampNeg ∧ (kDr ss sp sc ig 0 hi9).toNatClampNeg ≤ 9 := by
  unfold kDr
  by_cases h1 : kAccG ig (kDb ss sp sc 0 hi9) = 0
  · rw [if_pos h1]
    decide
  · rw [if_neg h1]
    have h2 : ¬ kDb ss sp sc 0 hi9 = 0 := by
      intro h3
      apply h1
      unfold kAccG
      by_cases h4 : ig = 0
      · rw [if_pos h4]
      · rw [if_neg h4, if_pos h3]
    have h3 : ¬ f_X8_in (Int32.toInt64 (kDv ss sp sc)) 0 9 = 0 := by
      intro h4
      apply h2
      unfold kDb
      rw [if_pos h4]
    obtain ⟨h5, h6⟩ := in_09 h3
    exact ⟨k_cl h5, by have := k_clt (M := 10) (n := 10) (by decide) h5 h6; omega⟩
theorem goes_0 (ig lo : Int32) : (f_X8_goes ig lo 0).1 = 0 := by
  by_cases h : ig = 0 <;> simp [f_X8_goes, h]
/-- a signed number: its value, whether the text is good then, the place behind it -/
def tS : Nat → Nat → (Nat → Int32) → Int32 → Int32 → Int32 × Int32 × Nat := hid (fun ss sp sc ig mt => (kSv ss sp sc ig mt, kUi ss sp sc ig mt, kUs ss sp sc ig mt))
theorem tS_eq (ss sp : Nat) (sc : Nat → Int32) (ig mt : Int32) : tS ss sp sc ig mt = (kSv ss sp sc ig mt, kUi ss sp sc ig mt, kUs ss sp sc ig mt) := by
  unfold tS
  rw [hid_eq]
theorem tS_le (ss sp : Nat) (sc : Nat → Int32) (ig mt : Int32) : (tS ss sp sc ig mt).2.2 ≤ sp + 3 := by
  rw [tS_eq]
  exact kUs_le ss sp sc ig mt
/-- a digit likewise -/
def tD : Nat → Nat → (Nat → Int32) → Int32 → Nat × Int32 × Nat := hid (fun ss sp sc ig => ((kDr ss sp sc ig 0 9).toNatClampNeg, kAccG ig (kDb ss sp sc 0 9), kAccS sp ig (kDb ss sp sc 0 9)))
theorem tD_eq (ss sp : Nat) (sc : Nat → Int32) (ig : Int32) : tD ss sp sc ig = ((kDr ss sp sc ig 0 9).toNatClampNeg, kAccG ig (kDb ss sp sc 0 9), kAccS sp ig (kDb ss sp sc 0 9)) := by
  unfold tD
  rw [hid_eq]
theorem tD_9 (ss sp : Nat) (sc : Nat → Int32) (ig : Int32) : (tD ss sp sc ig).1 ≤ 9 := by
  rw [tD_eq]
  exact (kDr_N ss sp sc ig 9).2
theorem tD_le (ss sp : Nat) (sc : Nat → Int32) (ig : Int32) : (tD ss sp sc ig).2.2 ≤ sp + 1 := by
  rw [tD_eq]
  exact kAccS_le _ _ _
/-- a sign of the text that is taken, or not -/
def tA : Nat → Int32 → Int32 → Int32 × Nat := hid (fun sp ig b9 => (kAccG ig b9, kAccS sp ig b9))
theorem tA_eq (sp : Nat) (ig b9 : Int32) : tA sp ig b9 = (kAccG ig b9, kAccS sp ig b9) := by
  unfold tA
  rw [hid_eq]
theorem tA_le (sp : Nat) (ig b9 : Int32) : (tA sp ig b9).2 ≤ sp + 1 := by
  rw [tA_eq]
  exact kAccS_le _ _ _
theorem c_X8_signedT (l : Launch) (D : va_G) (g : Nat → Nat) (m0 sc0 rd0 nw0 tr0 di0 ke0 ik0 cp0 cn0 be0 : Nat) (sz : Nat) (rf : Int32) (ss : Nat) (sp : Nat) (ig : Int32) (lo : Int32) (ac : Nat) (sc : Nat → Int32) (mt : Int32) (hss : ss ≤ 120) (hsp : sp ≤ 900) : kMi l D g yX8_signed wsX8_signed 3 0 0 [.ref m0, .int mt] [(m0, .inr (8, [.int rf, .ref sc0, .int (nI ss), .int (nI sp), .int ig, .int lo, .ref rd0, .ref nw0, .ref tr0, .ref di0, .int (nI ac), .ref ke0, .ref ik0, .ref cp0, .ref cn0, .ref be0])), (sc0, .inl (g 0, 120, .inl sc))] sz ((tS ss sp sc ig mt).1) [(m0, .inr (8, [.int rf, .ref sc0, .int (nI ss), .int (nI ((tS ss sp sc ig mt).2.2)), .int ((tS ss sp sc ig mt).2.1), .int lo, .ref rd0, .ref nw0, .ref tr0, .ref di0, .int (nI ac), .ref ke0, .ref ik0, .ref cp0, .ref cn0, .ref be0])), (sc0, .inl (g 0, 120, .inl sc))] := by
  rw [tS_eq]
  exact c_X8_signed l D g m0 sc0 rd0 nw0 tr0 di0 ke0 ik0 cp0 cn0 be0 sz rf ss sp ig lo ac sc mt hss hsp
theorem c_X8_digitT (l : Launch) (D : va_G) (g : Nat → Nat) (m0 sc0 rd0 nw0 tr0 di0 ke0 ik0 cp0 cn0 be0 : Nat) (sz : Nat) (rf : Int32) (ss : Nat) (sp : Nat) (ig : Int32) (lo : Int32) (ac : Nat) (sc : Nat → Int32) (hss : ss ≤ 120) (hsp : sp ≤ 1000) : kMi l D g yX8_digit wsX8_digit 2 0 0 [.ref m0, .int 0, .int 9] [(m0, .inr (8, [.int rf, .ref sc0, .int (nI ss), .int (nI sp), .int ig, .int lo, .ref rd0, .ref nw0, .ref tr0, .ref di0, .int (nI ac), .ref ke0, .ref ik0, .ref cp0, .ref cn0, .ref be0])), (sc0, .inl (g 0, 120, .inl sc))] sz (nI ((tD ss sp sc ig).1)) [(m0, .inr (8, [.int rf, .ref sc0, .int (nI ss), .int (nI ((tD ss sp sc ig).2.2)), .int ((tD ss sp sc ig).2.1), .int lo, .ref rd0, .ref nw0, .ref tr0, .ref di0, .int (nI ac), .ref ke0, .ref ik0, .ref cp0, .ref cn0, .ref be0])), (sc0, .inl (g 0, 120, .inl sc))] := by
  have h := c_X8_digit l D g m0 sc0 rd0 nw0 tr0 di0 ke0 ik0 cp0 cn0 be0 sz rf ss sp ig lo ac sc 0 9 hss hsp
  rw [(kDr_N ss sp sc ig 9).1] at h
  rw [tD_eq]
  exact h
theorem c_X8_acceptT (l : Launch) (D : va_G) (g : Nat → Nat) (m0 sc0 rd0 nw0 tr0 di0 ke0 ik0 cp0 cn0 be0 : Nat) (sz : Nat) (rf : Int32) (ss : Nat) (sp : Nat) (ig : Int32) (lo : Int32) (ac : Nat) (b9 : Int32) (hsp : sp ≤ 2000) : kMv l D g yX8_accept wsX8_accept 1 0 0 [.ref m0, .int b9] [(m0, .inr (8, [.int rf, .ref sc0, .int (nI ss), .int (nI sp), .int ig, .int lo, .ref rd0, .ref nw0, .ref tr0, .ref di0, .int (nI ac), .ref ke0, .ref ik0, .ref cp0, .ref cn0, .ref be0]))] sz [(m0, .inr (8, [.int rf, .ref sc0, .int (nI ss), .int (nI ((tA sp ig b9).2)), .int ((tA sp ig b9).1), .int lo, .ref rd0, .ref nw0, .ref tr0, .ref di0, .int (nI ac), .ref ke0, .ref ik0, .ref cp0, .ref cn0, .ref be0]))] := by
  rw [tA_eq]
  exact c_X8_accept l D g m0 sc0 rd0 nw0 tr0 di0 ke0 ik0 cp0 cn0 be0 sz rf ss sp ig lo ac b9 hsp
def f_X8_readPart (ss : Nat) (sp : Nat) (ig : Int32) (lo : Int32) (sc : Nat → Int32) (rw : Nat → Int32) (mn : Nat) : Int32 × Nat × Int32 × (Nat → Int32) :=
  let v_1 := (tS ss sp sc ig 0)
  let v_2 := (tS ss v_1.2.2 sc v_1.2.1 9)
  let v_4 := (f_X8_goes v_2.2.1 lo 0)
  let v_6 := (f_X8_goes v_2.2.1 lo 1)
  if 10 ≤ mn then
    (v_2.2.1, v_2.2.2, v_4.2, rw)
  else
    if v_6.1 = 0 then
      (v_2.2.1, v_2.2.2, v_6.2, rw)
    else
      (v_2.2.1, v_2.2.2, v_6.2, (f_X8_addIn rw v_1.1 v_2.1 mn))
theorem qX8_readPart_0 : Cond.fieldLink RX8 13 "BlameChainsModel" "read" "[I" ∈ wsX8_readPart := (List.mem_cons_of_mem _ (List.mem_append_left _ (List.mem_append_left _ (List.mem_of_getElem? (i := 0) rfl))))
set_option maxHeartbeats 4000000 in
set_option maxRecDepth 100000 in
theorem c_X8_readPart (l : Launch) (D : va_G) (g : Nat → Nat) (m0 sc0 rd0 nw0 tr0 di0 ke0 ik0 cp0 cn0 be0 : Nat) (sz : Nat) (rf : Int32) (ss : Nat) (sp : Nat) (ig : Int32) (lo : Int32) (ac : Nat) (sc : Nat → Int32) (rw : Nat → Int32) (mn : Nat) (hss : ss ≤ 120) (hsp : sp ≤ 800) (hmn : rw 0 = nI mn) (hm9 : mn ≤ 10) : kMv l D g yX8_readPart wsX8_readPart 4 0 0 [.ref m0] [(m0, .inr (8, [.int rf, .ref sc0, .int (nI ss), .int (nI sp), .int ig, .int lo, .ref rd0, .ref nw0, .ref tr0, .ref di0, .int (nI ac), .ref ke0, .ref ik0, .ref cp0, .ref cn0, .ref be0])), (sc0, .inl (g 0, 120, .inl sc)), (rd0, .inl (g 0, 748, .inl rw))] sz [(m0, .inr (8, [.int rf, .ref sc0, .int (nI ss), .int (nI ((f_X8_readPart ss sp ig lo sc rw mn).2.1)), .int ((f_X8_readPart ss sp ig lo sc rw mn).1), .int ((f_X8_readPart ss sp ig lo sc rw mn).2.2.1), .ref rd0, .ref nw0, .ref tr0, .ref di0, .int (nI ac), .ref ke0, .ref ik0, .ref cp0, .ref cn0, .ref be0])), (sc0, .inl (g 0, 120, .inl sc)), (rd0, .inl (g 0, 748, .inl ((f_X8_readPart ss sp ig lo sc rw mn).2.2.2)))] := by
  refine k_enter (nm := "readPart") (own := RX8) (bytes := cX8_readPart) (maxL := 3) (ret := none) (Qf := fun A => kQv D [(m0, .inr (8, [.int rf, .ref sc0, .int (nI ss), .int (nI ((f_X8_readPart ss sp ig lo sc rw mn).2.1)), .int ((f_X8_readPart ss sp ig lo sc rw mn).1), .int ((f_X8_readPart ss sp ig lo sc rw mn).2.2.1), .ref rd0, .ref nw0, .ref tr0, .ref di0, .int (nI ac), .ref ke0, .ref ik0, .ref cp0, .ref cn0, .ref be0])), (sc0, .inl (g 0, 120, .inl sc)), (rd0, .inl (g 0, 748, .inl ((f_X8_readPart ss sp ig lo sc rw mn).2.2.2)))] A) (by decide) rfl rfl rfl (Nat.le_of_ble_eq_true rfl) ?_
  rintro pp ee s mm below meth cc A ls args Q H locs hQ ⟨hx, hb, hr, hml, hown, hts, hlocks, hin⟩ hP hK hD hA hS hE hl
  have hl : lv_has ls 3 [(0, .ref m0)] := hl
  refine lv_aload_n hx hb dX8_readPart_0 rfl (lv_at hl 0 rfl) ?_
  refine lv_iconst (v := 0) hx hb dX8_readPart_1 (by decide) ?_
  have hC := c_X8_signedT l D g m0 sc0 rd0 nw0 tr0 di0 ke0 ik0 cp0 cn0 be0 H.size rf ss sp ig lo ac sc 0 (by omega) (by omega)
  obtain ⟨v_1, ev_1⟩ : ∃ z, z = (tS ss sp sc ig 0) := ⟨_, rfl⟩
  rw [← ev_1] at hC
  have hsv_1_0 : (tS ss sp sc ig 0).2.2 ≤ sp + 3 := tS_le ss sp sc ig 0
  rw [← ev_1] at hsv_1_0
  have kev_1 : kEq v_1 (tS ss sp sc ig 0) := ev_1
  clear ev_1
  refine k_ai (wr := [(rd0, .inl (g 0, 748, .inl rw))]) (w2 := [(m0, .inr (8, [.int rf, .ref sc0, .int (nI ss), .int (nI v_1.2.2), .int v_1.2.1, .int lo, .ref rd0, .ref nw0, .ref tr0, .ref di0, .int (nI ac), .ref ke0, .ref ik0, .ref cp0, .ref cn0, .ref be0])), (sc0, .inl (g 0, 120, .inl sc)), (rd0, .inl (g 0, 748, .inl rw))]) (va_runV (As := [.int 0]) (rest := []) ⟨hx, hb, hml, hown, hts⟩ hC (cwV 1 hts gX8_readPart_X8_signed rfl rfl rfl (by decide +kernel) (k_lvl (by omega) (by decide))) (kPV hP hD hK hS hA hE [0, 1] rfl (by decide) 0 8 rfl rfl rfl) rfl rfl hl.1 rfl (lv_room (Nat.le_of_ble_eq_true rfl)) dX8_readPart_2 ⟨Nat.le_of_ble_eq_true rfl, Nat.le_of_ble_eq_true rfl⟩) hP hD hS hA [0, 1] [2] [1, 2, 0] rfl rfl (by decide) (by decide) rfl (by decide) (fun H locs hP hD hS => ?_)
  refine lv_istore_n (lv' := [(1, .int v_1.1), (0, .ref m0)]) hx hb dX8_readPart_5 rfl hl (by decide) rfl (fun ls hl => ?_)
  refine lv_aload_n hx hb dX8_readPart_6 rfl (lv_at hl 1 rfl) ?_
  refine lv_bipush (v := 9) hx hb dX8_readPart_7 (by decide) ?_
  have hC := c_X8_signedT l D g m0 sc0 rd0 nw0 tr0 di0 ke0 ik0 cp0 cn0 be0 H.size rf ss v_1.2.2 v_1.2.1 lo ac sc 9 (by omega) (by omega)
  obtain ⟨v_2, ev_2⟩ : ∃ z, z = (tS ss v_1.2.2 sc v_1.2.1 9) := ⟨_, rfl⟩
  rw [← ev_2] at hC
  have hsv_2_0 : (tS ss v_1.2.2 sc v_1.2.1 9).2.2 ≤ v_1.2.2 + 3 := tS_le ss v_1.2.2 sc v_1.2.1 9
  rw [← ev_2] at hsv_2_0
  have kev_2 : kEq v_2 (tS ss v_1.2.2 sc v_1.2.1 9) := ev_2
  clear ev_2
  refine k_ai (wr := [(rd0, .inl (g 0, 748, .inl rw))]) (w2 := [(m0, .inr (8, [.int rf, .ref sc0, .int (nI ss), .int (nI v_2.2.2), .int v_2.2.1, .int lo, .ref rd0, .ref nw0, .ref tr0, .ref di0, .int (nI ac), .ref ke0, .ref ik0, .ref cp0, .ref cn0, .ref be0])), (sc0, .inl (g 0, 120, .inl sc)), (rd0, .inl (g 0, 748, .inl rw))]) (va_runV (As := [.int 9]) (rest := []) ⟨hx, hb, hml, hown, hts⟩ hC (cwV 1 hts gX8_readPart_X8_signed rfl rfl rfl (by decide +kernel) (k_lvl (by omega) (by decide))) (kPV hP hD hK hS hA hE [0, 1] rfl (by decide) 0 8 rfl rfl rfl) rfl rfl hl.1 rfl (lv_room (Nat.le_of_ble_eq_true rfl)) dX8_readPart_9 ⟨Nat.le_of_ble_eq_true rfl, Nat.le_of_ble_eq_true rfl⟩) hP hD hS hA [0, 1] [2] [1, 2, 0] rfl rfl (by decide) (by decide) rfl (by decide) (fun H locs hP hD hS => ?_)
  refine lv_istore_n (lv' := [(2, .int v_2.1), (1, .int v_1.1), (0, .ref m0)]) hx hb dX8_readPart_12 rfl hl (by decide) rfl (fun ls hl => ?_)
  refine lv_aload_n hx hb dX8_readPart_13 rfl (lv_at hl 2 rfl) ?_
  refine lv_aload_n hx hb dX8_readPart_14 rfl (lv_at hl 2 rfl) ?_
  refine va_get (D := D) (ci := 8) (v := .ref rd0) (C := RX8) (T := TX8) (N := 16) hx hb hts (fun w h => (List.mem_cons_of_mem _ (List.mem_append_right _ h))) hown hK hP 0 rfl rfl 6 (by decide) (hts _ qX8_readPart_0) (fun _ h9 => h9) rfl dX8_readPart_15 ?_
  refine lv_iconst (v := 0) hx hb dX8_readPart_18 (by decide) ?_
  refine va_iald (i := 0) hx hb hK hP 2 0 rfl rfl (vp_in_nI (n := 0) (by decide) (by decide)) dX8_readPart_19 ?_
  refine k_top (y := (rw 0)) rfl ?_
  refine k_top (y := (nI mn)) (hmn) ?_
  refine lv_bipush (v := 10) hx hb dX8_readPart_20 (by decide) ?_
  refine lv_icmp_ge (tgt := 29) hx hb dX8_readPart_22 (by decide) (fun c_3 => ?_) (fun c_3 => ?_)
  · have c_3 : 10 ≤ mn := (nI_leI (a := 10) (b := mn) (by omega) (by omega)).mp c_3
    refine lv_iconst (v := 0) hx hb dX8_readPart_29 (by decide) ?_
    have hC := c_X8_goes l D g m0 sc0 rd0 nw0 tr0 di0 ke0 ik0 cp0 cn0 be0 H.size rf ss v_2.2.2 v_2.2.1 lo ac 0
    obtain ⟨v_4, ev_4⟩ : ∃ z, z = (f_X8_goes v_2.2.1 lo 0) := ⟨_, rfl⟩
    rw [← ev_4] at hC
    have kev_4 : kEq v_4 (f_X8_goes v_2.2.1 lo 0) := ev_4
    clear ev_4
    refine k_ai (wr := [(sc0, .inl (g 0, 120, .inl sc)), (rd0, .inl (g 0, 748, .inl rw))]) (w2 := [(m0, .inr (8, [.int rf, .ref sc0, .int (nI ss), .int (nI v_2.2.2), .int v_2.2.1, .int v_4.2, .ref rd0, .ref nw0, .ref tr0, .ref di0, .int (nI ac), .ref ke0, .ref ik0, .ref cp0, .ref cn0, .ref be0])), (sc0, .inl (g 0, 120, .inl sc)), (rd0, .inl (g 0, 748, .inl rw))]) (va_runV (As := [.int 0]) (rest := []) ⟨hx, hb, hml, hown, hts⟩ hC (cwV 1 hts gX8_readPart_X8_goes rfl rfl rfl (by decide +kernel) (k_lvl (by omega) (by decide))) (kPV hP hD hK hS hA hE [0] rfl (by decide) 0 8 rfl rfl rfl) rfl rfl hl.1 rfl (lv_room (Nat.le_of_ble_eq_true rfl)) dX8_readPart_30 ⟨Nat.le_of_ble_eq_true rfl, Nat.le_of_ble_eq_true rfl⟩) hP hD hS hA [0] [1, 2] [2, 0, 1] rfl rfl (by decide) (by decide) rfl (by decide) (fun H locs hP hD hS => ?_)
    refine k_top (y := 0) (by rw [show v_4 = (f_X8_goes v_2.2.1 lo 0) from kev_4]; exact goes_0 _ _) ?_
    refine lv_if_eq (tgt := 45) hx hb dX8_readPart_33 (by decide) (fun _ => ?_) (fun c_5 => absurd c_5 (by decide))
    have ev_4 : (f_X8_goes v_2.2.1 lo 0) = v_4 := Eq.symm kev_4
    have ev_2 : (tS ss v_1.2.2 sc v_1.2.1 9) = v_2 := Eq.symm kev_2
    have ev_1 : (tS ss sp sc ig 0) = v_1 := Eq.symm kev_1
    have hE2 : (f_X8_readPart ss sp ig lo sc rw mn) = (v_2.2.1, v_2.2.2, v_4.2, rw) := by
      subst ev_4
      subst ev_2
      subst ev_1
      exact (if_pos c_3).trans (rfl)
    subst hQ
    exact k_rv hx hb hr hlocks hP hD hS dX8_readPart_45 (by rw [hE2])
  · have c_3 : ¬ (10 ≤ mn) := fun h9 => c_3 ((nI_leI (a := 10) (b := mn) (by omega) (by omega)).mpr h9)
    refine lv_iconst (v := 1) hx hb dX8_readPart_25 (by decide) ?_
    refine lv_goto (tgt := 30) hx hb dX8_readPart_26 (by decide) ?_
    have hC := c_X8_goes l D g m0 sc0 rd0 nw0 tr0 di0 ke0 ik0 cp0 cn0 be0 H.size rf ss v_2.2.2 v_2.2.1 lo ac 1
    obtain ⟨v_6, ev_6⟩ : ∃ z, z = (f_X8_goes v_2.2.1 lo 1) := ⟨_, rfl⟩
    rw [← ev_6] at hC
    have kev_6 : kEq v_6 (f_X8_goes v_2.2.1 lo 1) := ev_6
    clear ev_6
    refine k_ai (wr := [(sc0, .inl (g 0, 120, .inl sc)), (rd0, .inl (g 0, 748, .inl rw))]) (w2 := [(m0, .inr (8, [.int rf, .ref sc0, .int (nI ss), .int (nI v_2.2.2), .int v_2.2.1, .int v_6.2, .ref rd0, .ref nw0, .ref tr0, .ref di0, .int (nI ac), .ref ke0, .ref ik0, .ref cp0, .ref cn0, .ref be0])), (sc0, .inl (g 0, 120, .inl sc)), (rd0, .inl (g 0, 748, .inl rw))]) (va_runV (As := [.int 1]) (rest := []) ⟨hx, hb, hml, hown, hts⟩ hC (cwV 1 hts gX8_readPart_X8_goes rfl rfl rfl (by decide +kernel) (k_lvl (by omega) (by decide))) (kPV hP hD hK hS hA hE [0] rfl (by decide) 0 8 rfl rfl rfl) rfl rfl hl.1 rfl (lv_room (Nat.le_of_ble_eq_true rfl)) dX8_readPart_30 ⟨Nat.le_of_ble_eq_true rfl, Nat.le_of_ble_eq_true rfl⟩) hP hD hS hA [0] [1, 2] [2, 0, 1] rfl rfl (by decide) (by decide) rfl (by decide) (fun H locs hP hD hS => ?_)
    refine k_top (y := v_6.1) (rfl) ?_
    refine lv_if_eq (tgt := 45) hx hb dX8_readPart_33 (by decide) (fun c_7 => ?_) (fun c_7 => ?_)
    · have ev_6 : (f_X8_goes v_2.2.1 lo 1) = v_6 := Eq.symm kev_6
      have ev_2 : (tS ss v_1.2.2 sc v_1.2.1 9) = v_2 := Eq.symm kev_2
      have ev_1 : (tS ss sp sc ig 0) = v_1 := Eq.symm kev_1
      have hE2 : (f_X8_readPart ss sp ig lo sc rw mn) = (v_2.2.1, v_2.2.2, v_6.2, rw) := by
        subst ev_6
        subst ev_2
        subst ev_1
        exact (if_neg c_3).trans ((if_pos c_7).trans (rfl))
      subst hQ
      exact k_rv hx hb hr hlocks hP hD hS dX8_readPart_45 (by rw [hE2])
    · refine lv_aload_n hx hb dX8_readPart_36 rfl (lv_at hl 2 rfl) ?_
      refine va_get (D := D) (ci := 8) (v := .ref rd0) (C := RX8) (T := TX8) (N := 16) hx hb hts (fun w h => (List.mem_cons_of_mem _ (List.mem_append_right _ h))) hown hK hP 0 rfl rfl 6 (by decide) (hts _ qX8_readPart_0) (fun _ h9 => h9) rfl dX8_readPart_37 ?_
      refine lv_iload_n hx hb dX8_readPart_40 rfl (lv_at hl 1 rfl) ?_
      refine lv_iload_n hx hb dX8_readPart_41 rfl (lv_at hl 0 rfl) ?_
      refine k_av (wr := [(m0, .inr (8, [.int rf, .ref sc0, .int (nI ss), .int (nI v_2.2.2), .int v_2.2.1, .int v_6.2, .ref rd0, .ref nw0, .ref tr0, .ref di0, .int (nI ac), .ref ke0, .ref ik0, .ref cp0, .ref cn0, .ref be0])), (sc0, .inl (g 0, 120, .inl sc))]) (w2 := [(m0, .inr (8, [.int rf, .ref sc0, .int (nI ss), .int (nI v_2.2.2), .int v_2.2.1, .int v_6.2, .ref rd0, .ref nw0, .ref tr0, .ref di0, .int (nI ac), .ref ke0, .ref ik0, .ref cp0, .ref cn0, .ref be0])), (sc0, .inl (g 0, 120, .inl sc)), (rd0, .inl (g 0, 748, .inl (f_X8_addIn rw v_1.1 v_2.1 mn)))]) (va_runS (As := [.ref rd0, .int v_1.1, .int v_2.1]) (rest := []) ⟨hx, hb, hml, hown, hts⟩ (c_X8_addIn l D g rd0 H.size rw v_1.1 v_2.1 mn hmn (by omega)) (va_cwS 3 hts gX8_readPart_X8_addIn rfl rfl rfl (by decide +kernel) (k_lvl (by omega) (by decide))) (kPS hP hD hK hS hA hE [2] rfl (by decide)) rfl rfl hl.1 rfl (lv_room (Nat.le_of_ble_eq_true rfl)) dX8_readPart_42 ⟨Nat.le_of_ble_eq_true rfl, Nat.le_of_ble_eq_true rfl⟩) hP hD hS hA [2] [0, 1] [0, 1, 2] rfl rfl (by decide) (by decide) rfl (by decide) (fun H locs hP hD hS => ?_)
      have ev_6 : (f_X8_goes v_2.2.1 lo 1) = v_6 := Eq.symm kev_6
      have ev_2 : (tS ss v_1.2.2 sc v_1.2.1 9) = v_2 := Eq.symm kev_2
      have ev_1 : (tS ss sp sc ig 0) = v_1 := Eq.symm kev_1
      have hE2 : (f_X8_readPart ss sp ig lo sc rw mn) = (v_2.2.1, v_2.2.2, v_6.2, (f_X8_addIn rw v_1.1 v_2.1 mn)) := by
        subst ev_6
        subst ev_2
        subst ev_1
        exact (if_neg c_3).trans ((if_neg c_7).trans (rfl))
      subst hQ
      exact k_rv hx hb hr hlocks hP hD hS dX8_readPart_45 (by rw [hE2])
def f_X8_readChain (ss : Nat) (sp : Nat) (ig : Int32) (lo : Int32) (sc : Nat → Int32) (rw : Nat → Int32) : Int32 × Nat × Int32 × (Nat → Int32) :=
  let v_1 := (tD ss sp sc ig)
  let v_2 := (tD ss v_1.2.2 sc v_1.2.1)
  let v_3 := (tS ss v_2.2.2 sc v_2.2.1 9)
  let v_5 := (f_X8_goes v_3.2.1 lo 0)
  let v_8 := (f_X8_goes v_3.2.1 lo 0)
  let v_10 := (f_X8_goes v_3.2.1 lo 1)
  if (f_X8_isRead rw (nI v_1.1)) = 0 then
    (v_3.2.1, v_3.2.2, v_5.2, rw)
  else
    if v_1.1 ≤ v_2.1 then
      (v_3.2.1, v_3.2.2, v_8.2, rw)
    else
      if v_10.1 = 0 then
        (v_3.2.1, v_3.2.2, v_10.2, rw)
      else
        (v_3.2.1, v_3.2.2, v_10.2, (f_X8_chainIn rw v_1.1 (nI v_2.1) v_3.1))
theorem qX8_readChain_0 : Cond.fieldLink RX8 13 "BlameChainsModel" "read" "[I" ∈ wsX8_readChain := (List.mem_cons_of_mem _ (List.mem_append_left _ (List.mem_append_left _ (List.mem_of_getElem? (i := 0) rfl))))
set_option maxHeartbeats 4000000 in
set_option maxRecDepth 100000 in
theorem c_X8_readChain (l : Launch) (D : va_G) (g : Nat → Nat) (m0 sc0 rd0 nw0 tr0 di0 ke0 ik0 cp0 cn0 be0 : Nat) (sz : Nat) (rf : Int32) (ss : Nat) (sp : Nat) (ig : Int32) (lo : Int32) (ac : Nat) (sc : Nat → Int32) (rw : Nat → Int32) (hss : ss ≤ 120) (hsp : sp ≤ 800) : kMv l D g yX8_readChain wsX8_readChain 4 0 0 [.ref m0] [(m0, .inr (8, [.int rf, .ref sc0, .int (nI ss), .int (nI sp), .int ig, .int lo, .ref rd0, .ref nw0, .ref tr0, .ref di0, .int (nI ac), .ref ke0, .ref ik0, .ref cp0, .ref cn0, .ref be0])), (sc0, .inl (g 0, 120, .inl sc)), (rd0, .inl (g 0, 748, .inl rw))] sz [(m0, .inr (8, [.int rf, .ref sc0, .int (nI ss), .int (nI ((f_X8_readChain ss sp ig lo sc rw).2.1)), .int ((f_X8_readChain ss sp ig lo sc rw).1), .int ((f_X8_readChain ss sp ig lo sc rw).2.2.1), .ref rd0, .ref nw0, .ref tr0, .ref di0, .int (nI ac), .ref ke0, .ref ik0, .ref cp0, .ref cn0, .ref be0])), (sc0, .inl (g 0, 120, .inl sc)), (rd0, .inl (g 0, 748, .inl ((f_X8_readChain ss sp ig lo sc rw).2.2.2)))] := by
  refine k_enter (nm := "readChain") (own := RX8) (bytes := cX8_readChain) (maxL := 4) (ret := none) (Qf := fun A => kQv D [(m0, .inr (8, [.int rf, .ref sc0, .int (nI ss), .int (nI ((f_X8_readChain ss sp ig lo sc rw).2.1)), .int ((f_X8_readChain ss sp ig lo sc rw).1), .int ((f_X8_readChain ss sp ig lo sc rw).2.2.1), .ref rd0, .ref nw0, .ref tr0, .ref di0, .int (nI ac), .ref ke0, .ref ik0, .ref cp0, .ref cn0, .ref be0])), (sc0, .inl (g 0, 120, .inl sc)), (rd0, .inl (g 0, 748, .inl ((f_X8_readChain ss sp ig lo sc rw).2.2.2)))] A) (by decide) rfl rfl rfl (Nat.le_of_ble_eq_true rfl) ?_
  rintro pp ee s mm below meth cc A ls args Q H locs hQ ⟨hx, hb, hr, hml, hown, hts, hlocks, hin⟩ hP hK hD hA hS hE hl
  have hl : lv_has ls 4 [(0, .ref m0)] := hl
  refine lv_aload_n hx hb dX8_readChain_0 rfl (lv_at hl 0 rfl) ?_
  refine lv_iconst (v := 0) hx hb dX8_readChain_1 (by decide) ?_
  refine lv_bipush (v := 9) hx hb dX8_readChain_2 (by decide) ?_
  have hC := c_X8_digitT l D g m0 sc0 rd0 nw0 tr0 di0 ke0 ik0 cp0 cn0 be0 H.size rf ss sp ig lo ac sc (by omega) (by omega)
  obtain ⟨v_1, ev_1⟩ : ∃ z, z = (tD ss sp sc ig) := ⟨_, rfl⟩
  rw [← ev_1] at hC
  have hsv_1_0 : (tD ss sp sc ig).1 ≤ 9 := tD_9 ss sp sc ig
  rw [← ev_1] at hsv_1_0
  have hsv_1_1 : (tD ss sp sc ig).2.2 ≤ sp + 1 := tD_le ss sp sc ig
  rw [← ev_1] at hsv_1_1
  have kev_1 : kEq v_1 (tD ss sp sc ig) := ev_1
  clear ev_1
  refine k_ai (wr := [(rd0, .inl (g 0, 748, .inl rw))]) (w2 := [(m0, .inr (8, [.int rf, .ref sc0, .int (nI ss), .int (nI v_1.2.2), .int v_1.2.1, .int lo, .ref rd0, .ref nw0, .ref tr0, .ref di0, .int (nI ac), .ref ke0, .ref ik0, .ref cp0, .ref cn0, .ref be0])), (sc0, .inl (g 0, 120, .inl sc)), (rd0, .inl (g 0, 748, .inl rw))]) (va_runV (As := [.int 0, .int 9]) (rest := []) ⟨hx, hb, hml, hown, hts⟩ hC (cwV 2 hts gX8_readChain_X8_digit rfl rfl rfl (by decide +kernel) (k_lvl (by omega) (by decide))) (kPV hP hD hK hS hA hE [0, 1] rfl (by decide) 0 8 rfl rfl rfl) rfl rfl hl.1 rfl (lv_room (Nat.le_of_ble_eq_true rfl)) dX8_readChain_4 ⟨Nat.le_of_ble_eq_true rfl, Nat.le_of_ble_eq_true rfl⟩) hP hD hS hA [0, 1] [2] [1, 2, 0] rfl rfl (by decide) (by decide) rfl (by decide) (fun H locs hP hD hS => ?_)
  refine lv_istore_n (lv' := [(1, .int (nI v_1.1)), (0, .ref m0)]) hx hb dX8_readChain_7 rfl hl (by decide) rfl (fun ls hl => ?_)
  refine lv_aload_n hx hb dX8_readChain_8 rfl (lv_at hl 1 rfl) ?_
  refine lv_iconst (v := 0) hx hb dX8_readChain_9 (by decide) ?_
  refine lv_bipush (v := 9) hx hb dX8_readChain_10 (by decide) ?_
  have hC := c_X8_digitT l D g m0 sc0 rd0 nw0 tr0 di0 ke0 ik0 cp0 cn0 be0 H.size rf ss v_1.2.2 v_1.2.1 lo ac sc (by omega) (by omega)
  obtain ⟨v_2, ev_2⟩ : ∃ z, z = (tD ss v_1.2.2 sc v_1.2.1) := ⟨_, rfl⟩
  rw [← ev_2] at hC
  have hsv_2_0 : (tD ss v_1.2.2 sc v_1.2.1).1 ≤ 9 := tD_9 ss v_1.2.2 sc v_1.2.1
  rw [← ev_2] at hsv_2_0
  have hsv_2_1 : (tD ss v_1.2.2 sc v_1.2.1).2.2 ≤ v_1.2.2 + 1 := tD_le ss v_1.2.2 sc v_1.2.1
  rw [← ev_2] at hsv_2_1
  have kev_2 : kEq v_2 (tD ss v_1.2.2 sc v_1.2.1) := ev_2
  clear ev_2
  refine k_ai (wr := [(rd0, .inl (g 0, 748, .inl rw))]) (w2 := [(m0, .inr (8, [.int rf, .ref sc0, .int (nI ss), .int (nI v_2.2.2), .int v_2.2.1, .int lo, .ref rd0, .ref nw0, .ref tr0, .ref di0, .int (nI ac), .ref ke0, .ref ik0, .ref cp0, .ref cn0, .ref be0])), (sc0, .inl (g 0, 120, .inl sc)), (rd0, .inl (g 0, 748, .inl rw))]) (va_runV (As := [.int 0, .int 9]) (rest := []) ⟨hx, hb, hml, hown, hts⟩ hC (cwV 2 hts gX8_readChain_X8_digit rfl rfl rfl (by decide +kernel) (k_lvl (by omega) (by decide))) (kPV hP hD hK hS hA hE [0, 1] rfl (by decide) 0 8 rfl rfl rfl) rfl rfl hl.1 rfl (lv_room (Nat.le_of_ble_eq_true rfl)) dX8_readChain_12 ⟨Nat.le_of_ble_eq_true rfl, Nat.le_of_ble_eq_true rfl⟩) hP hD hS hA [0, 1] [2] [1, 2, 0] rfl rfl (by decide) (by decide) rfl (by decide) (fun H locs hP hD hS => ?_)
  refine lv_istore_n (lv' := [(2, .int (nI v_2.1)), (1, .int (nI v_1.1)), (0, .ref m0)]) hx hb dX8_readChain_15 rfl hl (by decide) rfl (fun ls hl => ?_)
  refine lv_aload_n hx hb dX8_readChain_16 rfl (lv_at hl 2 rfl) ?_
  refine lv_bipush (v := 9) hx hb dX8_readChain_17 (by decide) ?_
  have hC := c_X8_signedT l D g m0 sc0 rd0 nw0 tr0 di0 ke0 ik0 cp0 cn0 be0 H.size rf ss v_2.2.2 v_2.2.1 lo ac sc 9 (by omega) (by omega)
  obtain ⟨v_3, ev_3⟩ : ∃ z, z = (tS ss v_2.2.2 sc v_2.2.1 9) := ⟨_, rfl⟩
  rw [← ev_3] at hC
  have hsv_3_0 : (tS ss v_2.2.2 sc v_2.2.1 9).2.2 ≤ v_2.2.2 + 3 := tS_le ss v_2.2.2 sc v_2.2.1 9
  rw [← ev_3] at hsv_3_0
  have kev_3 : kEq v_3 (tS ss v_2.2.2 sc v_2.2.1 9) := ev_3
  clear ev_3
  refine k_ai (wr := [(rd0, .inl (g 0, 748, .inl rw))]) (w2 := [(m0, .inr (8, [.int rf, .ref sc0, .int (nI ss), .int (nI v_3.2.2), .int v_3.2.1, .int lo, .ref rd0, .ref nw0, .ref tr0, .ref di0, .int (nI ac), .ref ke0, .ref ik0, .ref cp0, .ref cn0, .ref be0])), (sc0, .inl (g 0, 120, .inl sc)), (rd0, .inl (g 0, 748, .inl rw))]) (va_runV (As := [.int 9]) (rest := []) ⟨hx, hb, hml, hown, hts⟩ hC (cwV 1 hts gX8_readChain_X8_signed rfl rfl rfl (by decide +kernel) (k_lvl (by omega) (by decide))) (kPV hP hD hK hS hA hE [0, 1] rfl (by decide) 0 8 rfl rfl rfl) rfl rfl hl.1 rfl (lv_room (Nat.le_of_ble_eq_true rfl)) dX8_readChain_19 ⟨Nat.le_of_ble_eq_true rfl, Nat.le_of_ble_eq_true rfl⟩) hP hD hS hA [0, 1] [2] [1, 2, 0] rfl rfl (by decide) (by decide) rfl (by decide) (fun H locs hP hD hS => ?_)
  refine lv_istore_n (lv' := [(3, .int v_3.1), (2, .int (nI v_2.1)), (1, .int (nI v_1.1)), (0, .ref m0)]) hx hb dX8_readChain_22 rfl hl (by decide) rfl (fun ls hl => ?_)
  refine lv_aload_n hx hb dX8_readChain_23 rfl (lv_at hl 3 rfl) ?_
  refine lv_aload_n hx hb dX8_readChain_24 rfl (lv_at hl 3 rfl) ?_
  refine lv_iload_n hx hb dX8_readChain_25 rfl (lv_at hl 2 rfl) ?_
  refine k_ai (wr := [(sc0, .inl (g 0, 120, .inl sc))]) (w2 := [(m0, .inr (8, [.int rf, .ref sc0, .int (nI ss), .int (nI v_3.2.2), .int v_3.2.1, .int lo, .ref rd0, .ref nw0, .ref tr0, .ref di0, .int (nI ac), .ref ke0, .ref ik0, .ref cp0, .ref cn0, .ref be0])), (sc0, .inl (g 0, 120, .inl sc)), (rd0, .inl (g 0, 748, .inl rw))]) (va_runV (As := [.int (nI v_1.1)]) (rest := [.ref m0]) ⟨hx, hb, hml, hown, hts⟩ (c_X8_isRead l D g m0 sc0 rd0 nw0 tr0 di0 ke0 ik0 cp0 cn0 be0 H.size rf ss v_3.2.2 v_3.2.1 lo ac rw (nI v_1.1)) (cwV 1 hts gX8_readChain_X8_isRead rfl rfl rfl (by decide +kernel) (k_lvl (by omega) (by decide))) (kPV hP hD hK hS hA hE [0, 2] rfl (by decide) 0 8 rfl rfl rfl) rfl rfl hl.1 rfl (lv_room (Nat.le_of_ble_eq_true rfl)) dX8_readChain_26 ⟨Nat.le_of_ble_eq_true rfl, Nat.le_of_ble_eq_true rfl⟩) hP hD hS hA [0, 2] [1] [1, 0, 2] rfl rfl (by decide) (by decide) rfl (by decide) (fun H locs hP hD hS => ?_)
  refine lv_if_eq (tgt := 41) hx hb dX8_readChain_29 (by decide) (fun c_4 => ?_) (fun c_4 => ?_)
  · refine lv_iconst (v := 0) hx hb dX8_readChain_41 (by decide) ?_
    have hC := c_X8_goes l D g m0 sc0 rd0 nw0 tr0 di0 ke0 ik0 cp0 cn0 be0 H.size rf ss v_3.2.2 v_3.2.1 lo ac 0
    obtain ⟨v_5, ev_5⟩ : ∃ z, z = (f_X8_goes v_3.2.1 lo 0) := ⟨_, rfl⟩
    rw [← ev_5] at hC
    have kev_5 : kEq v_5 (f_X8_goes v_3.2.1 lo 0) := ev_5
    clear ev_5
    refine k_ai (wr := [(sc0, .inl (g 0, 120, .inl sc)), (rd0, .inl (g 0, 748, .inl rw))]) (w2 := [(m0, .inr (8, [.int rf, .ref sc0, .int (nI ss), .int (nI v_3.2.2), .int v_3.2.1, .int v_5.2, .ref rd0, .ref nw0, .ref tr0, .ref di0, .int (nI ac), .ref ke0, .ref ik0, .ref cp0, .ref cn0, .ref be0])), (sc0, .inl (g 0, 120, .inl sc)), (rd0, .inl (g 0, 748, .inl rw))]) (va_runV (As := [.int 0]) (rest := []) ⟨hx, hb, hml, hown, hts⟩ hC (cwV 1 hts gX8_readChain_X8_goes rfl rfl rfl (by decide +kernel) (k_lvl (by omega) (by decide))) (kPV hP hD hK hS hA hE [0] rfl (by decide) 0 8 rfl rfl rfl) rfl rfl hl.1 rfl (lv_room (Nat.le_of_ble_eq_true rfl)) dX8_readChain_42 ⟨Nat.le_of_ble_eq_true rfl, Nat.le_of_ble_eq_true rfl⟩) hP hD hS hA [0] [1, 2] [2, 0, 1] rfl rfl (by decide) (by decide) rfl (by decide) (fun H locs hP hD hS => ?_)
    refine k_top (y := 0) (by rw [show v_5 = (f_X8_goes v_3.2.1 lo 0) from kev_5]; exact goes_0 _ _) ?_
    refine lv_if_eq (tgt := 58) hx hb dX8_readChain_45 (by decide) (fun _ => ?_) (fun c_6 => absurd c_6 (by decide))
    have ev_5 : (f_X8_goes v_3.2.1 lo 0) = v_5 := Eq.symm kev_5
    have ev_3 : (tS ss v_2.2.2 sc v_2.2.1 9) = v_3 := Eq.symm kev_3
    have ev_2 : (tD ss v_1.2.2 sc v_1.2.1) = v_2 := Eq.symm kev_2
    have ev_1 : (tD ss sp sc ig) = v_1 := Eq.symm kev_1
    have hE2 : (f_X8_readChain ss sp ig lo sc rw) = (v_3.2.1, v_3.2.2, v_5.2, rw) := by
      subst ev_5
      subst ev_3
      subst ev_2
      subst ev_1
      exact (if_pos c_4).trans (rfl)
    subst hQ
    exact k_rv hx hb hr hlocks hP hD hS dX8_readChain_58 (by rw [hE2])
  · refine lv_iload_n hx hb dX8_readChain_32 rfl (lv_at hl 1 rfl) ?_
    refine lv_iload_n hx hb dX8_readChain_33 rfl (lv_at hl 2 rfl) ?_
    refine lv_icmp_ge (tgt := 41) hx hb dX8_readChain_34 (by decide) (fun c_7 => ?_) (fun c_7 => ?_)
    · have c_7 : v_1.1 ≤ v_2.1 := (nI_leI (a := v_1.1) (b := v_2.1) (by omega) (by omega)).mp c_7
      refine lv_iconst (v := 0) hx hb dX8_readChain_41 (by decide) ?_
      have hC := c_X8_goes l D g m0 sc0 rd0 nw0 tr0 di0 ke0 ik0 cp0 cn0 be0 H.size rf ss v_3.2.2 v_3.2.1 lo ac 0
      obtain ⟨v_8, ev_8⟩ : ∃ z, z = (f_X8_goes v_3.2.1 lo 0) := ⟨_, rfl⟩
      rw [← ev_8] at hC
      have kev_8 : kEq v_8 (f_X8_goes v_3.2.1 lo 0) := ev_8
      clear ev_8
      refine k_ai (wr := [(sc0, .inl (g 0, 120, .inl sc)), (rd0, .inl (g 0, 748, .inl rw))]) (w2 := [(m0, .inr (8, [.int rf, .ref sc0, .int (nI ss), .int (nI v_3.2.2), .int v_3.2.1, .int v_8.2, .ref rd0, .ref nw0, .ref tr0, .ref di0, .int (nI ac), .ref ke0, .ref ik0, .ref cp0, .ref cn0, .ref be0])), (sc0, .inl (g 0, 120, .inl sc)), (rd0, .inl (g 0, 748, .inl rw))]) (va_runV (As := [.int 0]) (rest := []) ⟨hx, hb, hml, hown, hts⟩ hC (cwV 1 hts gX8_readChain_X8_goes rfl rfl rfl (by decide +kernel) (k_lvl (by omega) (by decide))) (kPV hP hD hK hS hA hE [0] rfl (by decide) 0 8 rfl rfl rfl) rfl rfl hl.1 rfl (lv_room (Nat.le_of_ble_eq_true rfl)) dX8_readChain_42 ⟨Nat.le_of_ble_eq_true rfl, Nat.le_of_ble_eq_true rfl⟩) hP hD hS hA [0] [1, 2] [2, 0, 1] rfl rfl (by decide) (by decide) rfl (by decide) (fun H locs hP hD hS => ?_)
      refine k_top (y := 0) (by rw [show v_8 = (f_X8_goes v_3.2.1 lo 0) from kev_8]; exact goes_0 _ _) ?_
      refine lv_if_eq (tgt := 58) hx hb dX8_readChain_45 (by decide) (fun _ => ?_) (fun c_9 => absurd c_9 (by decide))
      have ev_8 : (f_X8_goes v_3.2.1 lo 0) = v_8 := Eq.symm kev_8
      have ev_3 : (tS ss v_2.2.2 sc v_2.2.1 9) = v_3 := Eq.symm kev_3
      have ev_2 : (tD ss v_1.2.2 sc v_1.2.1) = v_2 := Eq.symm kev_2
      have ev_1 : (tD ss sp sc ig) = v_1 := Eq.symm kev_1
      have hE2 : (f_X8_readChain ss sp ig lo sc rw) = (v_3.2.1, v_3.2.2, v_8.2, rw) := by
        subst ev_8
        subst ev_3
        subst ev_2
        subst ev_1
        exact (if_neg c_4).trans ((if_pos c_7).trans (rfl))
      subst hQ
      exact k_rv hx hb hr hlocks hP hD hS dX8_readChain_58 (by rw [hE2])
    · have c_7 : ¬ (v_1.1 ≤ v_2.1) := fun h9 => c_7 ((nI_leI (a := v_1.1) (b := v_2.1) (by omega) (by omega)).mpr h9)
      refine lv_iconst (v := 1) hx hb dX8_readChain_37 (by decide) ?_
      refine lv_goto (tgt := 42) hx hb dX8_readChain_38 (by decide) ?_
      have hC := c_X8_goes l D g m0 sc0 rd0 nw0 tr0 di0 ke0 ik0 cp0 cn0 be0 H.size rf ss v_3.2.2 v_3.2.1 lo ac 1
      obtain ⟨v_10, ev_10⟩ : ∃ z, z = (f_X8_goes v_3.2.1 lo 1) := ⟨_, rfl⟩
      rw [← ev_10] at hC
      have kev_10 : kEq v_10 (f_X8_goes v_3.2.1 lo 1) := ev_10
      clear ev_10
      refine k_ai (wr := [(sc0, .inl (g 0, 120, .inl sc)), (rd0, .inl (g 0, 748, .inl rw))]) (w2 := [(m0, .inr (8, [.int rf, .ref sc0, .int (nI ss), .int (nI v_3.2.2), .int v_3.2.1, .int v_10.2, .ref rd0, .ref nw0, .ref tr0, .ref di0, .int (nI ac), .ref ke0, .ref ik0, .ref cp0, .ref cn0, .ref be0])), (sc0, .inl (g 0, 120, .inl sc)), (rd0, .inl (g 0, 748, .inl rw))]) (va_runV (As := [.int 1]) (rest := []) ⟨hx, hb, hml, hown, hts⟩ hC (cwV 1 hts gX8_readChain_X8_goes rfl rfl rfl (by decide +kernel) (k_lvl (by omega) (by decide))) (kPV hP hD hK hS hA hE [0] rfl (by decide) 0 8 rfl rfl rfl) rfl rfl hl.1 rfl (lv_room (Nat.le_of_ble_eq_true rfl)) dX8_readChain_42 ⟨Nat.le_of_ble_eq_true rfl, Nat.le_of_ble_eq_true rfl⟩) hP hD hS hA [0] [1, 2] [2, 0, 1] rfl rfl (by decide) (by decide) rfl (by decide) (fun H locs hP hD hS => ?_)
      refine k_top (y := v_10.1) (rfl) ?_
      refine lv_if_eq (tgt := 58) hx hb dX8_readChain_45 (by decide) (fun c_11 => ?_) (fun c_11 => ?_)
      · have ev_10 : (f_X8_goes v_3.2.1 lo 1) = v_10 := Eq.symm kev_10
        have ev_3 : (tS ss v_2.2.2 sc v_2.2.1 9) = v_3 := Eq.symm kev_3
        have ev_2 : (tD ss v_1.2.2 sc v_1.2.1) = v_2 := Eq.symm kev_2
        have ev_1 : (tD ss sp sc ig) = v_1 := Eq.symm kev_1
        have hE2 : (f_X8_readChain ss sp ig lo sc rw) = (v_3.2.1, v_3.2.2, v_10.2, rw) := by
          subst ev_10
          subst ev_3
          subst ev_2
          subst ev_1
          exact (if_neg c_4).trans ((if_neg c_7).trans ((if_pos c_11).trans (rfl)))
        subst hQ
        exact k_rv hx hb hr hlocks hP hD hS dX8_readChain_58 (by rw [hE2])
      · refine lv_aload_n hx hb dX8_readChain_48 rfl (lv_at hl 3 rfl) ?_
        refine va_get (D := D) (ci := 8) (v := .ref rd0) (C := RX8) (T := TX8) (N := 16) hx hb hts (fun w h => (List.mem_cons_of_mem _ (List.mem_append_right _ h))) hown hK hP 0 rfl rfl 6 (by decide) (hts _ qX8_readChain_0) (fun _ h9 => h9) rfl dX8_readChain_49 ?_
        refine lv_iload_n hx hb dX8_readChain_52 rfl (lv_at hl 2 rfl) ?_
        refine lv_iload_n hx hb dX8_readChain_53 rfl (lv_at hl 1 rfl) ?_
        refine lv_iload_n hx hb dX8_readChain_54 rfl (lv_at hl 0 rfl) ?_
        refine k_av (wr := [(m0, .inr (8, [.int rf, .ref sc0, .int (nI ss), .int (nI v_3.2.2), .int v_3.2.1, .int v_10.2, .ref rd0, .ref nw0, .ref tr0, .ref di0, .int (nI ac), .ref ke0, .ref ik0, .ref cp0, .ref cn0, .ref be0])), (sc0, .inl (g 0, 120, .inl sc))]) (w2 := [(m0, .inr (8, [.int rf, .ref sc0, .int (nI ss), .int (nI v_3.2.2), .int v_3.2.1, .int v_10.2, .ref rd0, .ref nw0, .ref tr0, .ref di0, .int (nI ac), .ref ke0, .ref ik0, .ref cp0, .ref cn0, .ref be0])), (sc0, .inl (g 0, 120, .inl sc)), (rd0, .inl (g 0, 748, .inl (f_X8_chainIn rw v_1.1 (nI v_2.1) v_3.1)))]) (va_runS (As := [.ref rd0, .int (nI v_1.1), .int (nI v_2.1), .int v_3.1]) (rest := []) ⟨hx, hb, hml, hown, hts⟩ (c_X8_chainIn l D g rd0 H.size rw v_1.1 (nI v_2.1) v_3.1 (by omega)) (va_cwS 4 hts gX8_readChain_X8_chainIn rfl rfl rfl (by decide +kernel) (k_lvl (by omega) (by decide))) (kPS hP hD hK hS hA hE [2] rfl (by decide)) rfl rfl hl.1 rfl (lv_room (Nat.le_of_ble_eq_true rfl)) dX8_readChain_55 ⟨Nat.le_of_ble_eq_true rfl, Nat.le_of_ble_eq_true rfl⟩) hP hD hS hA [2] [0, 1] [0, 1, 2] rfl rfl (by decide) (by decide) rfl (by decide) (fun H locs hP hD hS => ?_)
        have ev_10 : (f_X8_goes v_3.2.1 lo 1) = v_10 := Eq.symm kev_10
        have ev_3 : (tS ss v_2.2.2 sc v_2.2.1 9) = v_3 := Eq.symm kev_3
        have ev_2 : (tD ss v_1.2.2 sc v_1.2.1) = v_2 := Eq.symm kev_2
        have ev_1 : (tD ss sp sc ig) = v_1 := Eq.symm kev_1
        have hE2 : (f_X8_readChain ss sp ig lo sc rw) = (v_3.2.1, v_3.2.2, v_10.2, (f_X8_chainIn rw v_1.1 (nI v_2.1) v_3.1)) := by
          subst ev_10
          subst ev_3
          subst ev_2
          subst ev_1
          exact (if_neg c_4).trans ((if_neg c_7).trans ((if_neg c_11).trans (rfl)))
        subst hQ
        exact k_rv hx hb hr hlocks hP hD hS dX8_readChain_58 (by rw [hE2])
def f_X8_readOwn (ss : Nat) (sp : Nat) (ig : Int32) (lo : Int32) (sc : Nat → Int32) (rw : Nat → Int32) : Int32 × Nat × Int32 × (Nat → Int32) :=
  let v_1 := (tD ss sp sc ig)
  let v_2 := (tS ss v_1.2.2 sc v_1.2.1 9)
  let v_3 := (tS ss v_2.2.2 sc v_2.2.1 9)
  let v_4 := (tS ss v_3.2.2 sc v_3.2.1 9)
  let v_5 := (tS ss v_4.2.2 sc v_4.2.1 9)
  let v_7 := (f_X8_goes v_5.2.1 lo 0)
  let v_10 := (f_X8_goes v_5.2.1 lo 0)
  let v_13 := (f_X8_goes v_5.2.1 lo 0)
  let v_15 := (f_X8_goes v_5.2.1 lo 1)
  if (f_X8_isRead rw (nI v_1.1)) = 0 then
    (v_5.2.1, v_5.2.2, v_7.2, rw)
  else
    if v_3.1 < v_2.1 then
      (v_5.2.1, v_5.2.2, v_10.2, rw)
    else
      if v_5.1 < v_4.1 then
        (v_5.2.1, v_5.2.2, v_13.2, rw)
      else
        if v_15.1 = 0 then
          (v_5.2.1, v_5.2.2, v_15.2, rw)
        else
          (v_5.2.1, v_5.2.2, v_15.2, (f_X8_promise rw 0 v_1.1 v_2.1 v_3.1 v_4.1 v_5.1))
theorem qX8_readOwn_0 : Cond.fieldLink RX8 13 "BlameChainsModel" "read" "[I" ∈ wsX8_readOwn := (List.mem_cons_of_mem _ (List.mem_append_left _ (List.mem_append_left _ (List.mem_of_getElem? (i := 0) rfl))))
set_option maxHeartbeats 4000000 in
set_option maxRecDepth 100000 in
theorem c_X8_readOwn (l : Launch) (D : va_G) (g : Nat → Nat) (m0 sc0 rd0 nw0 tr0 di0 ke0 ik0 cp0 cn0 be0 : Nat) (sz : Nat) (rf : Int32) (ss : Nat) (sp : Nat) (ig : Int32) (lo : Int32) (ac : Nat) (sc : Nat → Int32) (rw : Nat → Int32) (hss : ss ≤ 120) (hsp : sp ≤ 800) : kMv l D g yX8_readOwn wsX8_readOwn 4 0 0 [.ref m0] [(m0, .inr (8, [.int rf, .ref sc0, .int (nI ss), .int (nI sp), .int ig, .int lo, .ref rd0, .ref nw0, .ref tr0, .ref di0, .int (nI ac), .ref ke0, .ref ik0, .ref cp0, .ref cn0, .ref be0])), (sc0, .inl (g 0, 120, .inl sc)), (rd0, .inl (g 0, 748, .inl rw))] sz [(m0, .inr (8, [.int rf, .ref sc0, .int (nI ss), .int (nI ((f_X8_readOwn ss sp ig lo sc rw).2.1)), .int ((f_X8_readOwn ss sp ig lo sc rw).1), .int ((f_X8_readOwn ss sp ig lo sc rw).2.2.1), .ref rd0, .ref nw0, .ref tr0, .ref di0, .int (nI ac), .ref ke0, .ref ik0, .ref cp0, .ref cn0, .ref be0])), (sc0, .inl (g 0, 120, .inl sc)), (rd0, .inl (g 0, 748, .inl ((f_X8_readOwn ss sp ig lo sc rw).2.2.2)))] := by
  refine k_enter (nm := "readOwn") (own := RX8) (bytes := cX8_readOwn) (maxL := 6) (ret := none) (Qf := fun A => kQv D [(m0, .inr (8, [.int rf, .ref sc0, .int (nI ss), .int (nI ((f_X8_readOwn ss sp ig lo sc rw).2.1)), .int ((f_X8_readOwn ss sp ig lo sc rw).1), .int ((f_X8_readOwn ss sp ig lo sc rw).2.2.1), .ref rd0, .ref nw0, .ref tr0, .ref di0, .int (nI ac), .ref ke0, .ref ik0, .ref cp0, .ref cn0, .ref be0])), (sc0, .inl (g 0, 120, .inl sc)), (rd0, .inl (g 0, 748, .inl ((f_X8_readOwn ss sp ig lo sc rw).2.2.2)))] A) (by decide) rfl rfl rfl (Nat.le_of_ble_eq_true rfl) ?_
  rintro pp ee s mm below meth cc A ls args Q H locs hQ ⟨hx, hb, hr, hml, hown, hts, hlocks, hin⟩ hP hK hD hA hS hE hl
  have hl : lv_has ls 6 [(0, .ref m0)] := hl
  refine lv_aload_n hx hb dX8_readOwn_0 rfl (lv_at hl 0 rfl) ?_
  refine lv_iconst (v := 0) hx hb dX8_readOwn_1 (by decide) ?_
  refine lv_bipush (v := 9) hx hb dX8_readOwn_2 (by decide) ?_
  have hC := c_X8_digitT l D g m0 sc0 rd0 nw0 tr0 di0 ke0 ik0 cp0 cn0 be0 H.size rf ss sp ig lo ac sc (by omega) (by omega)
  obtain ⟨v_1, ev_1⟩ : ∃ z, z = (tD ss sp sc ig) := ⟨_, rfl⟩
  rw [← ev_1] at hC
  have hsv_1_0 : (tD ss sp sc ig).1 ≤ 9 := tD_9 ss sp sc ig
  rw [← ev_1] at hsv_1_0
  have hsv_1_1 : (tD ss sp sc ig).2.2 ≤ sp + 1 := tD_le ss sp sc ig
  rw [← ev_1] at hsv_1_1
  have kev_1 : kEq v_1 (tD ss sp sc ig) := ev_1
  clear ev_1
  refine k_ai (wr := [(rd0, .inl (g 0, 748, .inl rw))]) (w2 := [(m0, .inr (8, [.int rf, .ref sc0, .int (nI ss), .int (nI v_1.2.2), .int v_1.2.1, .int lo, .ref rd0, .ref nw0, .ref tr0, .ref di0, .int (nI ac), .ref ke0, .ref ik0, .ref cp0, .ref cn0, .ref be0])), (sc0, .inl (g 0, 120, .inl sc)), (rd0, .inl (g 0, 748, .inl rw))]) (va_runV (As := [.int 0, .int 9]) (rest := []) ⟨hx, hb, hml, hown, hts⟩ hC (cwV 2 hts gX8_readOwn_X8_digit rfl rfl rfl (by decide +kernel) (k_lvl (by omega) (by decide))) (kPV hP hD hK hS hA hE [0, 1] rfl (by decide) 0 8 rfl rfl rfl) rfl rfl hl.1 rfl (lv_room (Nat.le_of_ble_eq_true rfl)) dX8_readOwn_4 ⟨Nat.le_of_ble_eq_true rfl, Nat.le_of_ble_eq_true rfl⟩) hP hD hS hA [0, 1] [2] [1, 2, 0] rfl rfl (by decide) (by decide) rfl (by decide) (fun H locs hP hD hS => ?_)
  refine lv_istore_n (lv' := [(1, .int (nI v_1.1)), (0, .ref m0)]) hx hb dX8_readOwn_7 rfl hl (by decide) rfl (fun ls hl => ?_)
  refine lv_aload_n hx hb dX8_readOwn_8 rfl (lv_at hl 1 rfl) ?_
  refine lv_bipush (v := 9) hx hb dX8_readOwn_9 (by decide) ?_
  have hC := c_X8_signedT l D g m0 sc0 rd0 nw0 tr0 di0 ke0 ik0 cp0 cn0 be0 H.size rf ss v_1.2.2 v_1.2.1 lo ac sc 9 (by omega) (by omega)
  obtain ⟨v_2, ev_2⟩ : ∃ z, z = (tS ss v_1.2.2 sc v_1.2.1 9) := ⟨_, rfl⟩
  rw [← ev_2] at hC
  have hsv_2_0 : (tS ss v_1.2.2 sc v_1.2.1 9).2.2 ≤ v_1.2.2 + 3 := tS_le ss v_1.2.2 sc v_1.2.1 9
  rw [← ev_2] at hsv_2_0
  have kev_2 : kEq v_2 (tS ss v_1.2.2 sc v_1.2.1 9) := ev_2
  clear ev_2
  refine k_ai (wr := [(rd0, .inl (g 0, 748, .inl rw))]) (w2 := [(m0, .inr (8, [.int rf, .ref sc0, .int (nI ss), .int (nI v_2.2.2), .int v_2.2.1, .int lo, .ref rd0, .ref nw0, .ref tr0, .ref di0, .int (nI ac), .ref ke0, .ref ik0, .ref cp0, .ref cn0, .ref be0])), (sc0, .inl (g 0, 120, .inl sc)), (rd0, .inl (g 0, 748, .inl rw))]) (va_runV (As := [.int 9]) (rest := []) ⟨hx, hb, hml, hown, hts⟩ hC (cwV 1 hts gX8_readOwn_X8_signed rfl rfl rfl (by decide +kernel) (k_lvl (by omega) (by decide))) (kPV hP hD hK hS hA hE [0, 1] rfl (by decide) 0 8 rfl rfl rfl) rfl rfl hl.1 rfl (lv_room (Nat.le_of_ble_eq_true rfl)) dX8_readOwn_11 ⟨Nat.le_of_ble_eq_true rfl, Nat.le_of_ble_eq_true rfl⟩) hP hD hS hA [0, 1] [2] [1, 2, 0] rfl rfl (by decide) (by decide) rfl (by decide) (fun H locs hP hD hS => ?_)
  refine lv_istore_n (lv' := [(2, .int v_2.1), (1, .int (nI v_1.1)), (0, .ref m0)]) hx hb dX8_readOwn_14 rfl hl (by decide) rfl (fun ls hl => ?_)
  refine lv_aload_n hx hb dX8_readOwn_15 rfl (lv_at hl 2 rfl) ?_
  refine lv_bipush (v := 9) hx hb dX8_readOwn_16 (by decide) ?_
  have hC := c_X8_signedT l D g m0 sc0 rd0 nw0 tr0 di0 ke0 ik0 cp0 cn0 be0 H.size rf ss v_2.2.2 v_2.2.1 lo ac sc 9 (by omega) (by omega)
  obtain ⟨v_3, ev_3⟩ : ∃ z, z = (tS ss v_2.2.2 sc v_2.2.1 9) := ⟨_, rfl⟩
  rw [← ev_3] at hC
  have hsv_3_0 : (tS ss v_2.2.2 sc v_2.2.1 9).2.2 ≤ v_2.2.2 + 3 := tS_le ss v_2.2.2 sc v_2.2.1 9
  rw [← ev_3] at hsv_3_0
  have kev_3 : kEq v_3 (tS ss v_2.2.2 sc v_2.2.1 9) := ev_3
  clear ev_3
  refine k_ai (wr := [(rd0, .inl (g 0, 748, .inl rw))]) (w2 := [(m0, .inr (8, [.int rf, .ref sc0, .int (nI ss), .int (nI v_3.2.2), .int v_3.2.1, .int lo, .ref rd0, .ref nw0, .ref tr0, .ref di0, .int (nI ac), .ref ke0, .ref ik0, .ref cp0, .ref cn0, .ref be0])), (sc0, .inl (g 0, 120, .inl sc)), (rd0, .inl (g 0, 748, .inl rw))]) (va_runV (As := [.int 9]) (rest := []) ⟨hx, hb, hml, hown, hts⟩ hC (cwV 1 hts gX8_readOwn_X8_signed rfl rfl rfl (by decide +kernel) (k_lvl (by omega) (by decide))) (kPV hP hD hK hS hA hE [0, 1] rfl (by decide) 0 8 rfl rfl rfl) rfl rfl hl.1 rfl (lv_room (Nat.le_of_ble_eq_true rfl)) dX8_readOwn_18 ⟨Nat.le_of_ble_eq_true rfl, Nat.le_of_ble_eq_true rfl⟩) hP hD hS hA [0, 1] [2] [1, 2, 0] rfl rfl (by decide) (by decide) rfl (by decide) (fun H locs hP hD hS => ?_)
  refine lv_istore_n (lv' := [(3, .int v_3.1), (2, .int v_2.1), (1, .int (nI v_1.1)), (0, .ref m0)]) hx hb dX8_readOwn_21 rfl hl (by decide) rfl (fun ls hl => ?_)
  refine lv_aload_n hx hb dX8_readOwn_22 rfl (lv_at hl 3 rfl) ?_
  refine lv_bipush (v := 9) hx hb dX8_readOwn_23 (by decide) ?_
  have hC := c_X8_signedT l D g m0 sc0 rd0 nw0 tr0 di0 ke0 ik0 cp0 cn0 be0 H.size rf ss v_3.2.2 v_3.2.1 lo ac sc 9 (by omega) (by omega)
  obtain ⟨v_4, ev_4⟩ : ∃ z, z = (tS ss v_3.2.2 sc v_3.2.1 9) := ⟨_, rfl⟩
  rw [← ev_4] at hC
  have hsv_4_0 : (tS ss v_3.2.2 sc v_3.2.1 9).2.2 ≤ v_3.2.2 + 3 := tS_le ss v_3.2.2 sc v_3.2.1 9
  rw [← ev_4] at hsv_4_0
  have kev_4 : kEq v_4 (tS ss v_3.2.2 sc v_3.2.1 9) := ev_4
  clear ev_4
  refine k_ai (wr := [(rd0, .inl (g 0, 748, .inl rw))]) (w2 := [(m0, .inr (8, [.int rf, .ref sc0, .int (nI ss), .int (nI v_4.2.2), .int v_4.2.1, .int lo, .ref rd0, .ref nw0, .ref tr0, .ref di0, .int (nI ac), .ref ke0, .ref ik0, .ref cp0, .ref cn0, .ref be0])), (sc0, .inl (g 0, 120, .inl sc)), (rd0, .inl (g 0, 748, .inl rw))]) (va_runV (As := [.int 9]) (rest := []) ⟨hx, hb, hml, hown, hts⟩ hC (cwV 1 hts gX8_readOwn_X8_signed rfl rfl rfl (by decide +kernel) (k_lvl (by omega) (by decide))) (kPV hP hD hK hS hA hE [0, 1] rfl (by decide) 0 8 rfl rfl rfl) rfl rfl hl.1 rfl (lv_room (Nat.le_of_ble_eq_true rfl)) dX8_readOwn_25 ⟨Nat.le_of_ble_eq_true rfl, Nat.le_of_ble_eq_true rfl⟩) hP hD hS hA [0, 1] [2] [1, 2, 0] rfl rfl (by decide) (by decide) rfl (by decide) (fun H locs hP hD hS => ?_)
  refine lv_istore (lv' := [(4, .int v_4.1), (3, .int v_3.1), (2, .int v_2.1), (1, .int (nI v_1.1)), (0, .ref m0)]) hx hb dX8_readOwn_28 hl (by decide) rfl (fun ls hl => ?_)
  refine lv_aload_n hx hb dX8_readOwn_30 rfl (lv_at hl 4 rfl) ?_
  refine lv_bipush (v := 9) hx hb dX8_readOwn_31 (by decide) ?_
  have hC := c_X8_signedT l D g m0 sc0 rd0 nw0 tr0 di0 ke0 ik0 cp0 cn0 be0 H.size rf ss v_4.2.2 v_4.2.1 lo ac sc 9 (by omega) (by omega)
  obtain ⟨v_5, ev_5⟩ : ∃ z, z = (tS ss v_4.2.2 sc v_4.2.1 9) := ⟨_, rfl⟩
  rw [← ev_5] at hC
  have hsv_5_0 : (tS ss v_4.2.2 sc v_4.2.1 9).2.2 ≤ v_4.2.2 + 3 := tS_le ss v_4.2.2 sc v_4.2.1 9
  rw [← ev_5] at hsv_5_0
  have kev_5 : kEq v_5 (tS ss v_4.2.2 sc v_4.2.1 9) := ev_5
  clear ev_5
  refine k_ai (wr := [(rd0, .inl (g 0, 748, .inl rw))]) (w2 := [(m0, .inr (8, [.int rf, .ref sc0, .int (nI ss), .int (nI v_5.2.2), .int v_5.2.1, .int lo, .ref rd0, .ref nw0, .ref tr0, .ref di0, .int (nI ac), .ref ke0, .ref ik0, .ref cp0, .ref cn0, .ref be0])), (sc0, .inl (g 0, 120, .inl sc)), (rd0, .inl (g 0, 748, .inl rw))]) (va_runV (As := [.int 9]) (rest := []) ⟨hx, hb, hml, hown, hts⟩ hC (cwV 1 hts gX8_readOwn_X8_signed rfl rfl rfl (by decide +kernel) (k_lvl (by omega) (by decide))) (kPV hP hD hK hS hA hE [0, 1] rfl (by decide) 0 8 rfl rfl rfl) rfl rfl hl.1 rfl (lv_room (Nat.le_of_ble_eq_true rfl)) dX8_readOwn_33 ⟨Nat.le_of_ble_eq_true rfl, Nat.le_of_ble_eq_true rfl⟩) hP hD hS hA [0, 1] [2] [1, 2, 0] rfl rfl (by decide) (by decide) rfl (by decide) (fun H locs hP hD hS => ?_)
  refine lv_istore (lv' := [(5, .int v_5.1), (4, .int v_4.1), (3, .int v_3.1), (2, .int v_2.1), (1, .int (nI v_1.1)), (0, .ref m0)]) hx hb dX8_readOwn_36 hl (by decide) rfl (fun ls hl => ?_)
  refine lv_aload_n hx hb dX8_readOwn_38 rfl (lv_at hl 5 rfl) ?_
  refine lv_aload_n hx hb dX8_readOwn_39 rfl (lv_at hl 5 rfl) ?_
  refine lv_iload_n hx hb dX8_readOwn_40 rfl (lv_at hl 4 rfl) ?_
  refine k_ai (wr := [(sc0, .inl (g 0, 120, .inl sc))]) (w2 := [(m0, .inr (8, [.int rf, .ref sc0, .int (nI ss), .int (nI v_5.2.2), .int v_5.2.1, .int lo, .ref rd0, .ref nw0, .ref tr0, .ref di0, .int (nI ac), .ref ke0, .ref ik0, .ref cp0, .ref cn0, .ref be0])), (sc0, .inl (g 0, 120, .inl sc)), (rd0, .inl (g 0, 748, .inl rw))]) (va_runV (As := [.int (nI v_1.1)]) (rest := [.ref m0]) ⟨hx, hb, hml, hown, hts⟩ (c_X8_isRead l D g m0 sc0 rd0 nw0 tr0 di0 ke0 ik0 cp0 cn0 be0 H.size rf ss v_5.2.2 v_5.2.1 lo ac rw (nI v_1.1)) (cwV 1 hts gX8_readOwn_X8_isRead rfl rfl rfl (by decide +kernel) (k_lvl (by omega) (by decide))) (kPV hP hD hK hS hA hE [0, 2] rfl (by decide) 0 8 rfl rfl rfl) rfl rfl hl.1 rfl (lv_room (Nat.le_of_ble_eq_true rfl)) dX8_readOwn_41 ⟨Nat.le_of_ble_eq_true rfl, Nat.le_of_ble_eq_true rfl⟩) hP hD hS hA [0, 2] [1] [1, 0, 2] rfl rfl (by decide) (by decide) rfl (by decide) (fun H locs hP hD hS => ?_)
  refine lv_if_eq (tgt := 63) hx hb dX8_readOwn_44 (by decide) (fun c_6 => ?_) (fun c_6 => ?_)
  · refine lv_iconst (v := 0) hx hb dX8_readOwn_63 (by decide) ?_
    have hC := c_X8_goes l D g m0 sc0 rd0 nw0 tr0 di0 ke0 ik0 cp0 cn0 be0 H.size rf ss v_5.2.2 v_5.2.1 lo ac 0
    obtain ⟨v_7, ev_7⟩ : ∃ z, z = (f_X8_goes v_5.2.1 lo 0) := ⟨_, rfl⟩
    rw [← ev_7] at hC
    have kev_7 : kEq v_7 (f_X8_goes v_5.2.1 lo 0) := ev_7
    clear ev_7
    refine k_ai (wr := [(sc0, .inl (g 0, 120, .inl sc)), (rd0, .inl (g 0, 748, .inl rw))]) (w2 := [(m0, .inr (8, [.int rf, .ref sc0, .int (nI ss), .int (nI v_5.2.2), .int v_5.2.1, .int v_7.2, .ref rd0, .ref nw0, .ref tr0, .ref di0, .int (nI ac), .ref ke0, .ref ik0, .ref cp0, .ref cn0, .ref be0])), (sc0, .inl (g 0, 120, .inl sc)), (rd0, .inl (g 0, 748, .inl rw))]) (va_runV (As := [.int 0]) (rest := []) ⟨hx, hb, hml, hown, hts⟩ hC (cwV 1 hts gX8_readOwn_X8_goes rfl rfl rfl (by decide +kernel) (k_lvl (by omega) (by decide))) (kPV hP hD hK hS hA hE [0] rfl (by decide) 0 8 rfl rfl rfl) rfl rfl hl.1 rfl (lv_room (Nat.le_of_ble_eq_true rfl)) dX8_readOwn_64 ⟨Nat.le_of_ble_eq_true rfl, Nat.le_of_ble_eq_true rfl⟩) hP hD hS hA [0] [1, 2] [2, 0, 1] rfl rfl (by decide) (by decide) rfl (by decide) (fun H locs hP hD hS => ?_)
    refine k_top (y := 0) (by rw [show v_7 = (f_X8_goes v_5.2.1 lo 0) from kev_7]; exact goes_0 _ _) ?_
    refine lv_if_eq (tgt := 85) hx hb dX8_readOwn_67 (by decide) (fun _ => ?_) (fun c_8 => absurd c_8 (by decide))
    have ev_7 : (f_X8_goes v_5.2.1 lo 0) = v_7 := Eq.symm kev_7
    have ev_5 : (tS ss v_4.2.2 sc v_4.2.1 9) = v_5 := Eq.symm kev_5
    have ev_4 : (tS ss v_3.2.2 sc v_3.2.1 9) = v_4 := Eq.symm kev_4
    have ev_3 : (tS ss v_2.2.2 sc v_2.2.1 9) = v_3 := Eq.symm kev_3
    have ev_2 : (tS ss v_1.2.2 sc v_1.2.1 9) = v_2 := Eq.symm kev_2
    have ev_1 : (tD ss sp sc ig) = v_1 := Eq.symm kev_1
    have hE2 : (f_X8_readOwn ss sp ig lo sc rw) = (v_5.2.1, v_5.2.2, v_7.2, rw) := by
      subst ev_7
      subst ev_5
      subst ev_4
      subst ev_3
      subst ev_2
      subst ev_1
      exact (if_pos c_6).trans (rfl)
    subst hQ
    exact k_rv hx hb hr hlocks hP hD hS dX8_readOwn_85 (by rw [hE2])
  · refine lv_iload_n hx hb dX8_readOwn_47 rfl (lv_at hl 3 rfl) ?_
    refine lv_iload_n hx hb dX8_readOwn_48 rfl (lv_at hl 2 rfl) ?_
    refine lv_icmp_gt (tgt := 63) hx hb dX8_readOwn_49 (by decide) (fun c_9 => ?_) (fun c_9 => ?_)
    · refine lv_iconst (v := 0) hx hb dX8_readOwn_63 (by decide) ?_
      have hC := c_X8_goes l D g m0 sc0 rd0 nw0 tr0 di0 ke0 ik0 cp0 cn0 be0 H.size rf ss v_5.2.2 v_5.2.1 lo ac 0
      obtain ⟨v_10, ev_10⟩ : ∃ z, z = (f_X8_goes v_5.2.1 lo 0) := ⟨_, rfl⟩
      rw [← ev_10] at hC
      have kev_10 : kEq v_10 (f_X8_goes v_5.2.1 lo 0) := ev_10
      clear ev_10
      refine k_ai (wr := [(sc0, .inl (g 0, 120, .inl sc)), (rd0, .inl (g 0, 748, .inl rw))]) (w2 := [(m0, .inr (8, [.int rf, .ref sc0, .int (nI ss), .int (nI v_5.2.2), .int v_5.2.1, .int v_10.2, .ref rd0, .ref nw0, .ref tr0, .ref di0, .int (nI ac), .ref ke0, .ref ik0, .ref cp0, .ref cn0, .ref be0])), (sc0, .inl (g 0, 120, .inl sc)), (rd0, .inl (g 0, 748, .inl rw))]) (va_runV (As := [.int 0]) (rest := []) ⟨hx, hb, hml, hown, hts⟩ hC (cwV 1 hts gX8_readOwn_X8_goes rfl rfl rfl (by decide +kernel) (k_lvl (by omega) (by decide))) (kPV hP hD hK hS hA hE [0] rfl (by decide) 0 8 rfl rfl rfl) rfl rfl hl.1 rfl (lv_room (Nat.le_of_ble_eq_true rfl)) dX8_readOwn_64 ⟨Nat.le_of_ble_eq_true rfl, Nat.le_of_ble_eq_true rfl⟩) hP hD hS hA [0] [1, 2] [2, 0, 1] rfl rfl (by decide) (by decide) rfl (by decide) (fun H locs hP hD hS => ?_)
      refine k_top (y := 0) (by rw [show v_10 = (f_X8_goes v_5.2.1 lo 0) from kev_10]; exact goes_0 _ _) ?_
      refine lv_if_eq (tgt := 85) hx hb dX8_readOwn_67 (by decide) (fun _ => ?_) (fun c_11 => absurd c_11 (by decide))
      have ev_10 : (f_X8_goes v_5.2.1 lo 0) = v_10 := Eq.symm kev_10
      have ev_5 : (tS ss v_4.2.2 sc v_4.2.1 9) = v_5 := Eq.symm kev_5
      have ev_4 : (tS ss v_3.2.2 sc v_3.2.1 9) = v_4 := Eq.symm kev_4
      have ev_3 : (tS ss v_2.2.2 sc v_2.2.1 9) = v_3 := Eq.symm kev_3
      have ev_2 : (tS ss v_1.2.2 sc v_1.2.1 9) = v_2 := Eq.symm kev_2
      have ev_1 : (tD ss sp sc ig) = v_1 := Eq.symm kev_1
      have hE2 : (f_X8_readOwn ss sp ig lo sc rw) = (v_5.2.1, v_5.2.2, v_10.2, rw) := by
        subst ev_10
        subst ev_5
        subst ev_4
        subst ev_3
        subst ev_2
        subst ev_1
        exact (if_neg c_6).trans ((if_pos c_9).trans (rfl))
      subst hQ
      exact k_rv hx hb hr hlocks hP hD hS dX8_readOwn_85 (by rw [hE2])
    · refine lv_iload hx hb dX8_readOwn_52 (lv_at hl 1 rfl) ?_
      refine lv_iload hx hb dX8_readOwn_54 (lv_at hl 0 rfl) ?_
      refine lv_icmp_gt (tgt := 63) hx hb dX8_readOwn_56 (by decide) (fun c_12 => ?_) (fun c_12 => ?_)
      · refine lv_iconst (v := 0) hx hb dX8_readOwn_63 (by decide) ?_
        have hC := c_X8_goes l D g m0 sc0 rd0 nw0 tr0 di0 ke0 ik0 cp0 cn0 be0 H.size rf ss v_5.2.2 v_5.2.1 lo ac 0
        obtain ⟨v_13, ev_13⟩ : ∃ z, z = (f_X8_goes v_5.2.1 lo 0) := ⟨_, rfl⟩
        rw [← ev_13] at hC
        have kev_13 : kEq v_13 (f_X8_goes v_5.2.1 lo 0) := ev_13
        clear ev_13
        refine k_ai (wr := [(sc0, .inl (g 0, 120, .inl sc)), (rd0, .inl (g 0, 748, .inl rw))]) (w2 := [(m0, .inr (8, [.int rf, .ref sc0, .int (nI ss), .int (nI v_5.2.2), .int v_5.2.1, .int v_13.2, .ref rd0, .ref nw0, .ref tr0, .ref di0, .int (nI ac), .ref ke0, .ref ik0, .ref cp0, .ref cn0, .ref be0])), (sc0, .inl (g 0, 120, .inl sc)), (rd0, .inl (g 0, 748, .inl rw))]) (va_runV (As := [.int 0]) (rest := []) ⟨hx, hb, hml, hown, hts⟩ hC (cwV 1 hts gX8_readOwn_X8_goes rfl rfl rfl (by decide +kernel) (k_lvl (by omega) (by decide))) (kPV hP hD hK hS hA hE [0] rfl (by decide) 0 8 rfl rfl rfl) rfl rfl hl.1 rfl (lv_room (Nat.le_of_ble_eq_true rfl)) dX8_readOwn_64 ⟨Nat.le_of_ble_eq_true rfl, Nat.le_of_ble_eq_true rfl⟩) hP hD hS hA [0] [1, 2] [2, 0, 1] rfl rfl (by decide) (by decide) rfl (by decide) (fun H locs hP hD hS => ?_)
        refine k_top (y := 0) (by rw [show v_13 = (f_X8_goes v_5.2.1 lo 0) from kev_13]; exact goes_0 _ _) ?_
        refine lv_if_eq (tgt := 85) hx hb dX8_readOwn_67 (by decide) (fun _ => ?_) (fun c_14 => absurd c_14 (by decide))
        have ev_13 : (f_X8_goes v_5.2.1 lo 0) = v_13 := Eq.symm kev_13
        have ev_5 : (tS ss v_4.2.2 sc v_4.2.1 9) = v_5 := Eq.symm kev_5
        have ev_4 : (tS ss v_3.2.2 sc v_3.2.1 9) = v_4 := Eq.symm kev_4
        have ev_3 : (tS ss v_2.2.2 sc v_2.2.1 9) = v_3 := Eq.symm kev_3
        have ev_2 : (tS ss v_1.2.2 sc v_1.2.1 9) = v_2 := Eq.symm kev_2
        have ev_1 : (tD ss sp sc ig) = v_1 := Eq.symm kev_1
        have hE2 : (f_X8_readOwn ss sp ig lo sc rw) = (v_5.2.1, v_5.2.2, v_13.2, rw) := by
          subst ev_13
          subst ev_5
          subst ev_4
          subst ev_3
          subst ev_2
          subst ev_1
          exact (if_neg c_6).trans ((if_neg c_9).trans ((if_pos c_12).trans (rfl)))
        subst hQ
        exact k_rv hx hb hr hlocks hP hD hS dX8_readOwn_85 (by rw [hE2])
      · refine lv_iconst (v := 1) hx hb dX8_readOwn_59 (by decide) ?_
        refine lv_goto (tgt := 64) hx hb dX8_readOwn_60 (by decide) ?_
        have hC := c_X8_goes l D g m0 sc0 rd0 nw0 tr0 di0 ke0 ik0 cp0 cn0 be0 H.size rf ss v_5.2.2 v_5.2.1 lo ac 1
        obtain ⟨v_15, ev_15⟩ : ∃ z, z = (f_X8_goes v_5.2.1 lo 1) := ⟨_, rfl⟩
        rw [← ev_15] at hC
        have kev_15 : kEq v_15 (f_X8_goes v_5.2.1 lo 1) := ev_15
        clear ev_15
        refine k_ai (wr := [(sc0, .inl (g 0, 120, .inl sc)), (rd0, .inl (g 0, 748, .inl rw))]) (w2 := [(m0, .inr (8, [.int rf, .ref sc0, .int (nI ss), .int (nI v_5.2.2), .int v_5.2.1, .int v_15.2, .ref rd0, .ref nw0, .ref tr0, .ref di0, .int (nI ac), .ref ke0, .ref ik0, .ref cp0, .ref cn0, .ref be0])), (sc0, .inl (g 0, 120, .inl sc)), (rd0, .inl (g 0, 748, .inl rw))]) (va_runV (As := [.int 1]) (rest := []) ⟨hx, hb, hml, hown, hts⟩ hC (cwV 1 hts gX8_readOwn_X8_goes rfl rfl rfl (by decide +kernel) (k_lvl (by omega) (by decide))) (kPV hP hD hK hS hA hE [0] rfl (by decide) 0 8 rfl rfl rfl) rfl rfl hl.1 rfl (lv_room (Nat.le_of_ble_eq_true rfl)) dX8_readOwn_64 ⟨Nat.le_of_ble_eq_true rfl, Nat.le_of_ble_eq_true rfl⟩) hP hD hS hA [0] [1, 2] [2, 0, 1] rfl rfl (by decide) (by decide) rfl (by decide) (fun H locs hP hD hS => ?_)
        refine k_top (y := v_15.1) (rfl) ?_
        refine lv_if_eq (tgt := 85) hx hb dX8_readOwn_67 (by decide) (fun c_16 => ?_) (fun c_16 => ?_)
        · have ev_15 : (f_X8_goes v_5.2.1 lo 1) = v_15 := Eq.symm kev_15
          have ev_5 : (tS ss v_4.2.2 sc v_4.2.1 9) = v_5 := Eq.symm kev_5
          have ev_4 : (tS ss v_3.2.2 sc v_3.2.1 9) = v_4 := Eq.symm kev_4
          have ev_3 : (tS ss v_2.2.2 sc v_2.2.1 9) = v_3 := Eq.symm kev_3
          have ev_2 : (tS ss v_1.2.2 sc v_1.2.1 9) = v_2 := Eq.symm kev_2
          have ev_1 : (tD ss sp sc ig) = v_1 := Eq.symm kev_1
          have hE2 : (f_X8_readOwn ss sp ig lo sc rw) = (v_5.2.1, v_5.2.2, v_15.2, rw) := by
            subst ev_15
            subst ev_5
            subst ev_4
            subst ev_3
            subst ev_2
            subst ev_1
            exact (if_neg c_6).trans ((if_neg c_9).trans ((if_neg c_12).trans ((if_pos c_16).trans (rfl))))
          subst hQ
          exact k_rv hx hb hr hlocks hP hD hS dX8_readOwn_85 (by rw [hE2])
        · refine lv_aload_n hx hb dX8_readOwn_70 rfl (lv_at hl 5 rfl) ?_
          refine va_get (D := D) (ci := 8) (v := .ref rd0) (C := RX8) (T := TX8) (N := 16) hx hb hts (fun w h => (List.mem_cons_of_mem _ (List.mem_append_right _ h))) hown hK hP 0 rfl rfl 6 (by decide) (hts _ qX8_readOwn_0) (fun _ h9 => h9) rfl dX8_readOwn_71 ?_
          refine lv_iconst (v := 0) hx hb dX8_readOwn_74 (by decide) ?_
          refine lv_iload_n hx hb dX8_readOwn_75 rfl (lv_at hl 4 rfl) ?_
          refine lv_iload_n hx hb dX8_readOwn_76 rfl (lv_at hl 3 rfl) ?_
          refine lv_iload_n hx hb dX8_readOwn_77 rfl (lv_at hl 2 rfl) ?_
          refine lv_iload hx hb dX8_readOwn_78 (lv_at hl 1 rfl) ?_
          refine lv_iload hx hb dX8_readOwn_80 (lv_at hl 0 rfl) ?_
          refine k_av (wr := [(m0, .inr (8, [.int rf, .ref sc0, .int (nI ss), .int (nI v_5.2.2), .int v_5.2.1, .int v_15.2, .ref rd0, .ref nw0, .ref tr0, .ref di0, .int (nI ac), .ref ke0, .ref ik0, .ref cp0, .ref cn0, .ref be0])), (sc0, .inl (g 0, 120, .inl sc))]) (w2 := [(m0, .inr (8, [.int rf, .ref sc0, .int (nI ss), .int (nI v_5.2.2), .int v_5.2.1, .int v_15.2, .ref rd0, .ref nw0, .ref tr0, .ref di0, .int (nI ac), .ref ke0, .ref ik0, .ref cp0, .ref cn0, .ref be0])), (sc0, .inl (g 0, 120, .inl sc)), (rd0, .inl (g 0, 748, .inl (f_X8_promise rw 0 v_1.1 v_2.1 v_3.1 v_4.1 v_5.1)))]) (va_runS (As := [.ref rd0, .int 0, .int (nI v_1.1), .int v_2.1, .int v_3.1, .int v_4.1, .int v_5.1]) (rest := []) ⟨hx, hb, hml, hown, hts⟩ (c_X8_promise l D g rd0 H.size rw 0 v_1.1 v_2.1 v_3.1 v_4.1 v_5.1 (by omega) (by omega)) (va_cwS 7 hts gX8_readOwn_X8_promise rfl rfl rfl (by decide +kernel) (k_lvl (by omega) (by decide))) (kPS hP hD hK hS hA hE [2] rfl (by decide)) rfl rfl hl.1 rfl (lv_room (Nat.le_of_ble_eq_true rfl)) dX8_readOwn_82 ⟨Nat.le_of_ble_eq_true rfl, Nat.le_of_ble_eq_true rfl⟩) hP hD hS hA [2] [0, 1] [0, 1, 2] rfl rfl (by decide) (by decide) rfl (by decide) (fun H locs hP hD hS => ?_)
          have ev_15 : (f_X8_goes v_5.2.1 lo 1) = v_15 := Eq.symm kev_15
          have ev_5 : (tS ss v_4.2.2 sc v_4.2.1 9) = v_5 := Eq.symm kev_5
          have ev_4 : (tS ss v_3.2.2 sc v_3.2.1 9) = v_4 := Eq.symm kev_4
          have ev_3 : (tS ss v_2.2.2 sc v_2.2.1 9) = v_3 := Eq.symm kev_3
          have ev_2 : (tS ss v_1.2.2 sc v_1.2.1 9) = v_2 := Eq.symm kev_2
          have ev_1 : (tD ss sp sc ig) = v_1 := Eq.symm kev_1
          have hE2 : (f_X8_readOwn ss sp ig lo sc rw) = (v_5.2.1, v_5.2.2, v_15.2, (f_X8_promise rw 0 v_1.1 v_2.1 v_3.1 v_4.1 v_5.1)) := by
            subst ev_15
            subst ev_5
            subst ev_4
            subst ev_3
            subst ev_2
            subst ev_1
            exact (if_neg c_6).trans ((if_neg c_9).trans ((if_neg c_12).trans ((if_neg c_16).trans (rfl))))
          subst hQ
          exact k_rv hx hb hr hlocks hP hD hS dX8_readOwn_85 (by rw [hE2])
def f_X8_readDrop (ss : Nat) (sp : Nat) (ig : Int32) (lo : Int32) (sc : Nat → Int32) (rw : Nat → Int32) : Int32 × Nat × Int32 × (Nat → Int32) :=
  let v_1 := (tD ss sp sc ig)
  let v_3 := (f_X8_goes v_1.2.1 lo 0)
  let v_6 := (f_X8_goes v_1.2.1 lo 0)
  let v_8 := (f_X8_goes v_1.2.1 lo 1)
  if (f_X8_isRead rw (nI v_1.1)) = 0 then
    (v_1.2.1, v_1.2.2, v_3.2, rw)
  else
    if (f_X8_hasContract rw 0 v_1.1) = 0 then
      (v_1.2.1, v_1.2.2, v_6.2, rw)
    else
      if v_8.1 = 0 then
        (v_1.2.1, v_1.2.2, v_8.2, rw)
      else
        (v_1.2.1, v_1.2.2, v_8.2, (upd rw (81 + 5 * (10 * 0 + v_1.1) + 0) 0))
theorem qX8_readDrop_0 : Cond.fieldLink RX8 13 "BlameChainsModel" "read" "[I" ∈ wsX8_readDrop := (List.mem_cons_of_mem _ (List.mem_append_left _ (List.mem_append_left _ (List.mem_of_getElem? (i := 0) rfl))))
set_option maxHeartbeats 4000000 in
set_option maxRecDepth 100000 in
theorem c_X8_readDrop (l : Launch) (D : va_G) (g : Nat → Nat) (m0 sc0 rd0 nw0 tr0 di0 ke0 ik0 cp0 cn0 be0 : Nat) (sz : Nat) (rf : Int32) (ss : Nat) (sp : Nat) (ig : Int32) (lo : Int32) (ac : Nat) (sc : Nat → Int32) (rw : Nat → Int32) (hss : ss ≤ 120) (hsp : sp ≤ 800) : kMv l D g yX8_readDrop wsX8_readDrop 3 0 0 [.ref m0] [(m0, .inr (8, [.int rf, .ref sc0, .int (nI ss), .int (nI sp), .int ig, .int lo, .ref rd0, .ref nw0, .ref tr0, .ref di0, .int (nI ac), .ref ke0, .ref ik0, .ref cp0, .ref cn0, .ref be0])), (sc0, .inl (g 0, 120, .inl sc)), (rd0, .inl (g 0, 748, .inl rw))] sz [(m0, .inr (8, [.int rf, .ref sc0, .int (nI ss), .int (nI ((f_X8_readDrop ss sp ig lo sc rw).2.1)), .int ((f_X8_readDrop ss sp ig lo sc rw).1), .int ((f_X8_readDrop ss sp ig lo sc rw).2.2.1), .ref rd0, .ref nw0, .ref tr0, .ref di0, .int (nI ac), .ref ke0, .ref ik0, .ref cp0, .ref cn0, .ref be0])), (sc0, .inl (g 0, 120, .inl sc)), (rd0, .inl (g 0, 748, .inl ((f_X8_readDrop ss sp ig lo sc rw).2.2.2)))] := by
  refine k_enter (nm := "readDrop") (own := RX8) (bytes := cX8_readDrop) (maxL := 2) (ret := none) (Qf := fun A => kQv D [(m0, .inr (8, [.int rf, .ref sc0, .int (nI ss), .int (nI ((f_X8_readDrop ss sp ig lo sc rw).2.1)), .int ((f_X8_readDrop ss sp ig lo sc rw).1), .int ((f_X8_readDrop ss sp ig lo sc rw).2.2.1), .ref rd0, .ref nw0, .ref tr0, .ref di0, .int (nI ac), .ref ke0, .ref ik0, .ref cp0, .ref cn0, .ref be0])), (sc0, .inl (g 0, 120, .inl sc)), (rd0, .inl (g 0, 748, .inl ((f_X8_readDrop ss sp ig lo sc rw).2.2.2)))] A) (by decide) rfl rfl rfl (Nat.le_of_ble_eq_true rfl) ?_
  rintro pp ee s mm below meth cc A ls args Q H locs hQ ⟨hx, hb, hr, hml, hown, hts, hlocks, hin⟩ hP hK hD hA hS hE hl
  have hl : lv_has ls 2 [(0, .ref m0)] := hl
  refine lv_aload_n hx hb dX8_readDrop_0 rfl (lv_at hl 0 rfl) ?_
  refine lv_iconst (v := 0) hx hb dX8_readDrop_1 (by decide) ?_
  refine lv_bipush (v := 9) hx hb dX8_readDrop_2 (by decide) ?_
  have hC := c_X8_digitT l D g m0 sc0 rd0 nw0 tr0 di0 ke0 ik0 cp0 cn0 be0 H.size rf ss sp ig lo ac sc (by omega) (by omega)
  obtain ⟨v_1, ev_1⟩ : ∃ z, z = (tD ss sp sc ig) := ⟨_, rfl⟩
  rw [← ev_1] at hC
  have hsv_1_0 : (tD ss sp sc ig).1 ≤ 9 := tD_9 ss sp sc ig
  rw [← ev_1] at hsv_1_0
  have hsv_1_1 : (tD ss sp sc ig).2.2 ≤ sp + 1 := tD_le ss sp sc ig
  rw [← ev_1] at hsv_1_1
  have kev_1 : kEq v_1 (tD ss sp sc ig) := ev_1
  clear ev_1
  refine k_ai (wr := [(rd0, .inl (g 0, 748, .inl rw))]) (w2 := [(m0, .inr (8, [.int rf, .ref sc0, .int (nI ss), .int (nI v_1.2.2), .int v_1.2.1, .int lo, .ref rd0, .ref nw0, .ref tr0, .ref di0, .int (nI ac), .ref ke0, .ref ik0, .ref cp0, .ref cn0, .ref be0])), (sc0, .inl (g 0, 120, .inl sc)), (rd0, .inl (g 0, 748, .inl rw))]) (va_runV (As := [.int 0, .int 9]) (rest := []) ⟨hx, hb, hml, hown, hts⟩ hC (cwV 2 hts gX8_readDrop_X8_digit rfl rfl rfl (by decide +kernel) (k_lvl (by omega) (by decide))) (kPV hP hD hK hS hA hE [0, 1] rfl (by decide) 0 8 rfl rfl rfl) rfl rfl hl.1 rfl (lv_room (Nat.le_of_ble_eq_true rfl)) dX8_readDrop_4 ⟨Nat.le_of_ble_eq_true rfl, Nat.le_of_ble_eq_true rfl⟩) hP hD hS hA [0, 1] [2] [1, 2, 0] rfl rfl (by decide) (by decide) rfl (by decide) (fun H locs hP hD hS => ?_)
  refine lv_istore_n (lv' := [(1, .int (nI v_1.1)), (0, .ref m0)]) hx hb dX8_readDrop_7 rfl hl (by decide) rfl (fun ls hl => ?_)
  refine lv_aload_n hx hb dX8_readDrop_8 rfl (lv_at hl 1 rfl) ?_
  refine lv_aload_n hx hb dX8_readDrop_9 rfl (lv_at hl 1 rfl) ?_
  refine lv_iload_n hx hb dX8_readDrop_10 rfl (lv_at hl 0 rfl) ?_
  refine k_ai (wr := [(sc0, .inl (g 0, 120, .inl sc))]) (w2 := [(m0, .inr (8, [.int rf, .ref sc0, .int (nI ss), .int (nI v_1.2.2), .int v_1.2.1, .int lo, .ref rd0, .ref nw0, .ref tr0, .ref di0, .int (nI ac), .ref ke0, .ref ik0, .ref cp0, .ref cn0, .ref be0])), (sc0, .inl (g 0, 120, .inl sc)), (rd0, .inl (g 0, 748, .inl rw))]) (va_runV (As := [.int (nI v_1.1)]) (rest := [.ref m0]) ⟨hx, hb, hml, hown, hts⟩ (c_X8_isRead l D g m0 sc0 rd0 nw0 tr0 di0 ke0 ik0 cp0 cn0 be0 H.size rf ss v_1.2.2 v_1.2.1 lo ac rw (nI v_1.1)) (cwV 1 hts gX8_readDrop_X8_isRead rfl rfl rfl (by decide +kernel) (k_lvl (by omega) (by decide))) (kPV hP hD hK hS hA hE [0, 2] rfl (by decide) 0 8 rfl rfl rfl) rfl rfl hl.1 rfl (lv_room (Nat.le_of_ble_eq_true rfl)) dX8_readDrop_11 ⟨Nat.le_of_ble_eq_true rfl, Nat.le_of_ble_eq_true rfl⟩) hP hD hS hA [0, 2] [1] [1, 0, 2] rfl rfl (by decide) (by decide) rfl (by decide) (fun H locs hP hD hS => ?_)
  refine lv_if_eq (tgt := 33) hx hb dX8_readDrop_14 (by decide) (fun c_2 => ?_) (fun c_2 => ?_)
  · refine lv_iconst (v := 0) hx hb dX8_readDrop_33 (by decide) ?_
    have hC := c_X8_goes l D g m0 sc0 rd0 nw0 tr0 di0 ke0 ik0 cp0 cn0 be0 H.size rf ss v_1.2.2 v_1.2.1 lo ac 0
    obtain ⟨v_3, ev_3⟩ : ∃ z, z = (f_X8_goes v_1.2.1 lo 0) := ⟨_, rfl⟩
    rw [← ev_3] at hC
    have kev_3 : kEq v_3 (f_X8_goes v_1.2.1 lo 0) := ev_3
    clear ev_3
    refine k_ai (wr := [(sc0, .inl (g 0, 120, .inl sc)), (rd0, .inl (g 0, 748, .inl rw))]) (w2 := [(m0, .inr (8, [.int rf, .ref sc0, .int (nI ss), .int (nI v_1.2.2), .int v_1.2.1, .int v_3.2, .ref rd0, .ref nw0, .ref tr0, .ref di0, .int (nI ac), .ref ke0, .ref ik0, .ref cp0, .ref cn0, .ref be0])), (sc0, .inl (g 0, 120, .inl sc)), (rd0, .inl (g 0, 748, .inl rw))]) (va_runV (As := [.int 0]) (rest := []) ⟨hx, hb, hml, hown, hts⟩ hC (cwV 1 hts gX8_readDrop_X8_goes rfl rfl rfl (by decide +kernel) (k_lvl (by omega) (by decide))) (kPV hP hD hK hS hA hE [0] rfl (by decide) 0 8 rfl rfl rfl) rfl rfl hl.1 rfl (lv_room (Nat.le_of_ble_eq_true rfl)) dX8_readDrop_34 ⟨Nat.le_of_ble_eq_true rfl, Nat.le_of_ble_eq_true rfl⟩) hP hD hS hA [0] [1, 2] [2, 0, 1] rfl rfl (by decide) (by decide) rfl (by decide) (fun H locs hP hD hS => ?_)
    refine k_top (y := 0) (by rw [show v_3 = (f_X8_goes v_1.2.1 lo 0) from kev_3]; exact goes_0 _ _) ?_
    refine lv_if_eq (tgt := 52) hx hb dX8_readDrop_37 (by decide) (fun _ => ?_) (fun c_4 => absurd c_4 (by decide))
    have ev_3 : (f_X8_goes v_1.2.1 lo 0) = v_3 := Eq.symm kev_3
    have ev_1 : (tD ss sp sc ig) = v_1 := Eq.symm kev_1
    have hE2 : (f_X8_readDrop ss sp ig lo sc rw) = (v_1.2.1, v_1.2.2, v_3.2, rw) := by
      subst ev_3
      subst ev_1
      exact (if_pos c_2).trans (rfl)
    subst hQ
    exact k_rv hx hb hr hlocks hP hD hS dX8_readDrop_52 (by rw [hE2])
  · refine lv_aload_n hx hb dX8_readDrop_17 rfl (lv_at hl 1 rfl) ?_
    refine va_get (D := D) (ci := 8) (v := .ref rd0) (C := RX8) (T := TX8) (N := 16) hx hb hts (fun w h => (List.mem_cons_of_mem _ (List.mem_append_right _ h))) hown hK hP 0 rfl rfl 6 (by decide) (hts _ qX8_readDrop_0) (fun _ h9 => h9) rfl dX8_readDrop_18 ?_
    refine lv_iconst (v := 0) hx hb dX8_readDrop_21 (by decide) ?_
    refine lv_iload_n hx hb dX8_readDrop_22 rfl (lv_at hl 0 rfl) ?_
    refine k_ai (wr := [(m0, .inr (8, [.int rf, .ref sc0, .int (nI ss), .int (nI v_1.2.2), .int v_1.2.1, .int lo, .ref rd0, .ref nw0, .ref tr0, .ref di0, .int (nI ac), .ref ke0, .ref ik0, .ref cp0, .ref cn0, .ref be0])), (sc0, .inl (g 0, 120, .inl sc))]) (w2 := [(m0, .inr (8, [.int rf, .ref sc0, .int (nI ss), .int (nI v_1.2.2), .int v_1.2.1, .int lo, .ref rd0, .ref nw0, .ref tr0, .ref di0, .int (nI ac), .ref ke0, .ref ik0, .ref cp0, .ref cn0, .ref be0])), (sc0, .inl (g 0, 120, .inl sc)), (rd0, .inl (g 0, 748, .inl rw))]) (va_runS (As := [.ref rd0, .int 0, .int (nI v_1.1)]) (rest := [.ref m0]) ⟨hx, hb, hml, hown, hts⟩ (c_X8_hasContract l D g rd0 H.size rw 0 v_1.1 (by omega) (by omega)) (va_cwS 3 hts gX8_readDrop_X8_hasContract rfl rfl rfl (by decide +kernel) (k_lvl (by omega) (by decide))) (kPS hP hD hK hS hA hE [2] rfl (by decide)) rfl rfl hl.1 rfl (lv_room (Nat.le_of_ble_eq_true rfl)) dX8_readDrop_23 ⟨Nat.le_of_ble_eq_true rfl, Nat.le_of_ble_eq_true rfl⟩) hP hD hS hA [2] [0, 1] [0, 1, 2] rfl rfl (by decide) (by decide) rfl (by decide) (fun H locs hP hD hS => ?_)
    refine lv_if_eq (tgt := 33) hx hb dX8_readDrop_26 (by decide) (fun c_5 => ?_) (fun c_5 => ?_)
    · refine lv_iconst (v := 0) hx hb dX8_readDrop_33 (by decide) ?_
      have hC := c_X8_goes l D g m0 sc0 rd0 nw0 tr0 di0 ke0 ik0 cp0 cn0 be0 H.size rf ss v_1.2.2 v_1.2.1 lo ac 0
      obtain ⟨v_6, ev_6⟩ : ∃ z, z = (f_X8_goes v_1.2.1 lo 0) := ⟨_, rfl⟩
      rw [← ev_6] at hC
      have kev_6 : kEq v_6 (f_X8_goes v_1.2.1 lo 0) := ev_6
      clear ev_6
      refine k_ai (wr := [(sc0, .inl (g 0, 120, .inl sc)), (rd0, .inl (g 0, 748, .inl rw))]) (w2 := [(m0, .inr (8, [.int rf, .ref sc0, .int (nI ss), .int (nI v_1.2.2), .int v_1.2.1, .int v_6.2, .ref rd0, .ref nw0, .ref tr0, .ref di0, .int (nI ac), .ref ke0, .ref ik0, .ref cp0, .ref cn0, .ref be0])), (sc0, .inl (g 0, 120, .inl sc)), (rd0, .inl (g 0, 748, .inl rw))]) (va_runV (As := [.int 0]) (rest := []) ⟨hx, hb, hml, hown, hts⟩ hC (cwV 1 hts gX8_readDrop_X8_goes rfl rfl rfl (by decide +kernel) (k_lvl (by omega) (by decide))) (kPV hP hD hK hS hA hE [0] rfl (by decide) 0 8 rfl rfl rfl) rfl rfl hl.1 rfl (lv_room (Nat.le_of_ble_eq_true rfl)) dX8_readDrop_34 ⟨Nat.le_of_ble_eq_true rfl, Nat.le_of_ble_eq_true rfl⟩) hP hD hS hA [0] [1, 2] [2, 0, 1] rfl rfl (by decide) (by decide) rfl (by decide) (fun H locs hP hD hS => ?_)
      refine k_top (y := 0) (by rw [show v_6 = (f_X8_goes v_1.2.1 lo 0) from kev_6]; exact goes_0 _ _) ?_
      refine lv_if_eq (tgt := 52) hx hb dX8_readDrop_37 (by decide) (fun _ => ?_) (fun c_7 => absurd c_7 (by decide))
      have ev_6 : (f_X8_goes v_1.2.1 lo 0) = v_6 := Eq.symm kev_6
      have ev_1 : (tD ss sp sc ig) = v_1 := Eq.symm kev_1
      have hE2 : (f_X8_readDrop ss sp ig lo sc rw) = (v_1.2.1, v_1.2.2, v_6.2, rw) := by
        subst ev_6
        subst ev_1
        exact (if_neg c_2).trans ((if_pos c_5).trans (rfl))
      subst hQ
      exact k_rv hx hb hr hlocks hP hD hS dX8_readDrop_52 (by rw [hE2])
    · refine lv_iconst (v := 1) hx hb dX8_readDrop_29 (by decide) ?_
      refine lv_goto (tgt := 34) hx hb dX8_readDrop_30 (by decide) ?_
      have hC := c_X8_goes l D g m0 sc0 rd0 nw0 tr0 di0 ke0 ik0 cp0 cn0 be0 H.size rf ss v_1.2.2 v_1.2.1 lo ac 1
      obtain ⟨v_8, ev_8⟩ : ∃ z, z = (f_X8_goes v_1.2.1 lo 1) := ⟨_, rfl⟩
      rw [← ev_8] at hC
      have kev_8 : kEq v_8 (f_X8_goes v_1.2.1 lo 1) := ev_8
      clear ev_8
      refine k_ai (wr := [(sc0, .inl (g 0, 120, .inl sc)), (rd0, .inl (g 0, 748, .inl rw))]) (w2 := [(m0, .inr (8, [.int rf, .ref sc0, .int (nI ss), .int (nI v_1.2.2), .int v_1.2.1, .int v_8.2, .ref rd0, .ref nw0, .ref tr0, .ref di0, .int (nI ac), .ref ke0, .ref ik0, .ref cp0, .ref cn0, .ref be0])), (sc0, .inl (g 0, 120, .inl sc)), (rd0, .inl (g 0, 748, .inl rw))]) (va_runV (As := [.int 1]) (rest := []) ⟨hx, hb, hml, hown, hts⟩ hC (cwV 1 hts gX8_readDrop_X8_goes rfl rfl rfl (by decide +kernel) (k_lvl (by omega) (by decide))) (kPV hP hD hK hS hA hE [0] rfl (by decide) 0 8 rfl rfl rfl) rfl rfl hl.1 rfl (lv_room (Nat.le_of_ble_eq_true rfl)) dX8_readDrop_34 ⟨Nat.le_of_ble_eq_true rfl, Nat.le_of_ble_eq_true rfl⟩) hP hD hS hA [0] [1, 2] [2, 0, 1] rfl rfl (by decide) (by decide) rfl (by decide) (fun H locs hP hD hS => ?_)
      refine k_top (y := v_8.1) (rfl) ?_
      refine lv_if_eq (tgt := 52) hx hb dX8_readDrop_37 (by decide) (fun c_9 => ?_) (fun c_9 => ?_)
      · have ev_8 : (f_X8_goes v_1.2.1 lo 1) = v_8 := Eq.symm kev_8
        have ev_1 : (tD ss sp sc ig) = v_1 := Eq.symm kev_1
        have hE2 : (f_X8_readDrop ss sp ig lo sc rw) = (v_1.2.1, v_1.2.2, v_8.2, rw) := by
          subst ev_8
          subst ev_1
          exact (if_neg c_2).trans ((if_neg c_5).trans ((if_pos c_9).trans (rfl)))
        subst hQ
        exact k_rv hx hb hr hlocks hP hD hS dX8_readDrop_52 (by rw [hE2])
      · refine lv_aload_n hx hb dX8_readDrop_40 rfl (lv_at hl 1 rfl) ?_
        refine va_get (D := D) (ci := 8) (v := .ref rd0) (C := RX8) (T := TX8) (N := 16) hx hb hts (fun w h => (List.mem_cons_of_mem _ (List.mem_append_right _ h))) hown hK hP 0 rfl rfl 6 (by decide) (hts _ qX8_readDrop_0) (fun _ h9 => h9) rfl dX8_readDrop_41 ?_
        refine lv_iconst (v := 0) hx hb dX8_readDrop_44 (by decide) ?_
        refine lv_iload_n hx hb dX8_readDrop_45 rfl (lv_at hl 0 rfl) ?_
        refine lv_iconst (v := 0) hx hb dX8_readDrop_46 (by decide) ?_
        refine k_ai (wr := [(m0, .inr (8, [.int rf, .ref sc0, .int (nI ss), .int (nI v_1.2.2), .int v_1.2.1, .int v_8.2, .ref rd0, .ref nw0, .ref tr0, .ref di0, .int (nI ac), .ref ke0, .ref ik0, .ref cp0, .ref cn0, .ref be0])), (sc0, .inl (g 0, 120, .inl sc)), (rd0, .inl (g 0, 748, .inl rw))]) (w2 := [(m0, .inr (8, [.int rf, .ref sc0, .int (nI ss), .int (nI v_1.2.2), .int v_1.2.1, .int v_8.2, .ref rd0, .ref nw0, .ref tr0, .ref di0, .int (nI ac), .ref ke0, .ref ik0, .ref cp0, .ref cn0, .ref be0])), (sc0, .inl (g 0, 120, .inl sc)), (rd0, .inl (g 0, 748, .inl rw))]) (va_runS (As := [.int 0, .int (nI v_1.1), .int 0]) (rest := [.ref rd0]) ⟨hx, hb, hml, hown, hts⟩ (c_X8_contractAt l D g H.size 0 v_1.1 0) (va_cwS 3 hts gX8_readDrop_X8_contractAt rfl rfl rfl (by decide +kernel) (k_lvl (by omega) (by decide))) (kPS hP hD hK hS hA hE [] rfl (by decide)) rfl rfl hl.1 rfl (lv_room (Nat.le_of_ble_eq_true rfl)) dX8_readDrop_47 ⟨Nat.le_of_ble_eq_true rfl, Nat.le_of_ble_eq_true rfl⟩) hP hD hS hA [] [0, 1, 2] [0, 1, 2] rfl rfl (by decide) (by decide) rfl (by decide) (fun H locs hP hD hS => ?_)
        refine lv_iconst (v := 0) hx hb dX8_readDrop_50 (by decide) ?_
        refine va_iast (i := (nI (81 + 5 * (10 * 0 + v_1.1) + 0))) (x := 0) hx hb hK hP hD hS 2 0 rfl rfl (vp_in_nI (n := (81 + 5 * (10 * 0 + v_1.1) + 0)) (by omega) (by omega)) dX8_readDrop_51 (fun H locs hP hD hS => ?_)
        rw [nI_clamp (n := (81 + 5 * (10 * 0 + v_1.1) + 0)) (by omega)] at hP hD
        have hP : va_P D vwCl [(m0, .inr (8, [.int rf, .ref sc0, .int (nI ss), .int (nI v_1.2.2), .int v_1.2.1, .int v_8.2, .ref rd0, .ref nw0, .ref tr0, .ref di0, .int (nI ac), .ref ke0, .ref ik0, .ref cp0, .ref cn0, .ref be0])), (sc0, .inl (g 0, 120, .inl sc)), (rd0, .inl (g 0, 748, .inl (upd rw (81 + 5 * (10 * 0 + v_1.1) + 0) 0)))] H := hP
        have hD : va_D A [(m0, .inr (8, [.int rf, .ref sc0, .int (nI ss), .int (nI v_1.2.2), .int v_1.2.1, .int v_8.2, .ref rd0, .ref nw0, .ref tr0, .ref di0, .int (nI ac), .ref ke0, .ref ik0, .ref cp0, .ref cn0, .ref be0])), (sc0, .inl (g 0, 120, .inl sc)), (rd0, .inl (g 0, 748, .inl (upd rw (81 + 5 * (10 * 0 + v_1.1) + 0) 0)))] := hD
        have ev_8 : (f_X8_goes v_1.2.1 lo 1) = v_8 := Eq.symm kev_8
        have ev_1 : (tD ss sp sc ig) = v_1 := Eq.symm kev_1
        have hE2 : (f_X8_readDrop ss sp ig lo sc rw) = (v_1.2.1, v_1.2.2, v_8.2, (upd rw (81 + 5 * (10 * 0 + v_1.1) + 0) 0)) := by
          subst ev_8
          subst ev_1
          exact (if_neg c_2).trans ((if_neg c_5).trans ((if_neg c_9).trans (rfl)))
        subst hQ
        exact k_rv hx hb hr hlocks hP hD hS dX8_readDrop_52 (by rw [hE2])
def f_X8_readCall (ss : Nat) (sp : Nat) (ig : Int32) (lo : Int32) (sc : Nat → Int32) (rw : Nat → Int32) (cp : Nat → Int32) (cn : Nat → Int32) (mn : Nat) : Int32 × Nat × Int32 × (Nat → Int32) × (Nat → Int32) × (Nat → Int32) :=
  let v_1 := (tS ss sp sc ig 9)
  let v_3 := (f_X8_goes v_1.2.1 lo 0)
  let v_5 := (f_X8_goes v_1.2.1 lo 1)
  let v_7 := (h_X8_callIn cp cn rw (mn - 1) v_1.1)
  if mn ≤ 0 then
    (v_1.2.1, v_1.2.2, v_3.2, rw, cp, cn)
  else
    if v_5.1 = 0 then
      (v_1.2.1, v_1.2.2, v_5.2, rw, cp, cn)
    else
      (v_1.2.1, v_1.2.2, v_5.2, v_7.2.1, v_7.2.2.1, v_7.2.2.2)
theorem qX8_readCall_0 : Cond.fieldLink RX8 13 "BlameChainsModel" "read" "[I" ∈ wsX8_readCall := (List.mem_cons_of_mem _ (List.mem_append_left _ (List.mem_append_left _ (List.mem_of_getElem? (i := 0) rfl))))
set_option maxHeartbeats 4000000 in
set_option maxRecDepth 100000 in
theorem c_X8_readCall (l : Launch) (D : va_G) (g : Nat → Nat) (m0 sc0 rd0 nw0 tr0 di0 ke0 ik0 cp0 cn0 be0 : Nat) (sz : Nat) (rf : Int32) (ss : Nat) (sp : Nat) (ig : Int32) (lo : Int32) (ac : Nat) (sc : Nat → Int32) (rw : Nat → Int32) (cp : Nat → Int32) (cn : Nat → Int32) (mn : Nat) (hss : ss ≤ 120) (hsp : sp ≤ 800) (hmn : rw 0 = nI mn) (hm9 : mn ≤ 10) (hR : rNx rw) : kMv l D g yX8_readCall wsX8_readCall 6 0 0 [.ref m0] [(m0, .inr (8, [.int rf, .ref sc0, .int (nI ss), .int (nI sp), .int ig, .int lo, .ref rd0, .ref nw0, .ref tr0, .ref di0, .int (nI ac), .ref ke0, .ref ik0, .ref cp0, .ref cn0, .ref be0])), (sc0, .inl (g 0, 120, .inl sc)), (rd0, .inl (g 0, 748, .inl rw)), (cp0, .inl (g 0, 10, .inl cp)), (cn0, .inl (g 0, 10, .inl cn))] sz [(m0, .inr (8, [.int rf, .ref sc0, .int (nI ss), .int (nI ((f_X8_readCall ss sp ig lo sc rw cp cn mn).2.1)), .int ((f_X8_readCall ss sp ig lo sc rw cp cn mn).1), .int ((f_X8_readCall ss sp ig lo sc rw cp cn mn).2.2.1), .ref rd0, .ref nw0, .ref tr0, .ref di0, .int (nI ac), .ref ke0, .ref ik0, .ref cp0, .ref cn0, .ref be0])), (sc0, .inl (g 0, 120, .inl sc)), (rd0, .inl (g 0, 748, .inl ((f_X8_readCall ss sp ig lo sc rw cp cn mn).2.2.2.1))), (cp0, .inl (g 0, 10, .inl ((f_X8_readCall ss sp ig lo sc rw cp cn mn).2.2.2.2.1))), (cn0, .inl (g 0, 10, .inl ((f_X8_readCall ss sp ig lo sc rw cp cn mn).2.2.2.2.2)))] := by
  refine k_enter (nm := "readCall") (own := RX8) (bytes := cX8_readCall) (maxL := 2) (ret := none) (Qf := fun A => kQv D [(m0, .inr (8, [.int rf, .ref sc0, .int (nI ss), .int (nI ((f_X8_readCall ss sp ig lo sc rw cp cn mn).2.1)), .int ((f_X8_readCall ss sp ig lo sc rw cp cn mn).1), .int ((f_X8_readCall ss sp ig lo sc rw cp cn mn).2.2.1), .ref rd0, .ref nw0, .ref tr0, .ref di0, .int (nI ac), .ref ke0, .ref ik0, .ref cp0, .ref cn0, .ref be0])), (sc0, .inl (g 0, 120, .inl sc)), (rd0, .inl (g 0, 748, .inl ((f_X8_readCall ss sp ig lo sc rw cp cn mn).2.2.2.1))), (cp0, .inl (g 0, 10, .inl ((f_X8_readCall ss sp ig lo sc rw cp cn mn).2.2.2.2.1))), (cn0, .inl (g 0, 10, .inl ((f_X8_readCall ss sp ig lo sc rw cp cn mn).2.2.2.2.2)))] A) (by decide) rfl rfl rfl (Nat.le_of_ble_eq_true rfl) ?_
  rintro pp ee s mm below meth cc A ls args Q H locs hQ ⟨hx, hb, hr, hml, hown, hts, hlocks, hin⟩ hP hK hD hA hS hE hl
  have hl : lv_has ls 2 [(0, .ref m0)] := hl
  refine lv_aload_n hx hb dX8_readCall_0 rfl (lv_at hl 0 rfl) ?_
  refine lv_bipush (v := 9) hx hb dX8_readCall_1 (by decide) ?_
  have hC := c_X8_signedT l D g m0 sc0 rd0 nw0 tr0 di0 ke0 ik0 cp0 cn0 be0 H.size rf ss sp ig lo ac sc 9 (by omega) (by omega)
  obtain ⟨v_1, ev_1⟩ : ∃ z, z = (tS ss sp sc ig 9) := ⟨_, rfl⟩
  rw [← ev_1] at hC
  have hsv_1_0 : (tS ss sp sc ig 9).2.2 ≤ sp + 3 := tS_le ss sp sc ig 9
  rw [← ev_1] at hsv_1_0
  have kev_1 : kEq v_1 (tS ss sp sc ig 9) := ev_1
  clear ev_1
  refine k_ai (wr := [(rd0, .inl (g 0, 748, .inl rw)), (cp0, .inl (g 0, 10, .inl cp)), (cn0, .inl (g 0, 10, .inl cn))]) (w2 := [(m0, .inr (8, [.int rf, .ref sc0, .int (nI ss), .int (nI v_1.2.2), .int v_1.2.1, .int lo, .ref rd0, .ref nw0, .ref tr0, .ref di0, .int (nI ac), .ref ke0, .ref ik0, .ref cp0, .ref cn0, .ref be0])), (sc0, .inl (g 0, 120, .inl sc)), (rd0, .inl (g 0, 748, .inl rw)), (cp0, .inl (g 0, 10, .inl cp)), (cn0, .inl (g 0, 10, .inl cn))]) (va_runV (As := [.int 9]) (rest := []) ⟨hx, hb, hml, hown, hts⟩ hC (cwV 1 hts gX8_readCall_X8_signed rfl rfl rfl (by decide +kernel) (k_lvl (by omega) (by decide))) (kPV hP hD hK hS hA hE [0, 1] rfl (by decide) 0 8 rfl rfl rfl) rfl rfl hl.1 rfl (lv_room (Nat.le_of_ble_eq_true rfl)) dX8_readCall_3 ⟨Nat.le_of_ble_eq_true rfl, Nat.le_of_ble_eq_true rfl⟩) hP hD hS hA [0, 1] [2, 3, 4] [3, 4, 0, 1, 2] rfl rfl (by decide) (by decide) rfl (by decide) (fun H locs hP hD hS => ?_)
  refine lv_istore_n (lv' := [(1, .int v_1.1), (0, .ref m0)]) hx hb dX8_readCall_6 rfl hl (by decide) rfl (fun ls hl => ?_)
  refine lv_aload_n hx hb dX8_readCall_7 rfl (lv_at hl 1 rfl) ?_
  refine lv_aload_n hx hb dX8_readCall_8 rfl (lv_at hl 1 rfl) ?_
  refine va_get (D := D) (ci := 8) (v := .ref rd0) (C := RX8) (T := TX8) (N := 16) hx hb hts (fun w h => (List.mem_cons_of_mem _ (List.mem_append_right _ h))) hown hK hP 0 rfl rfl 6 (by decide) (hts _ qX8_readCall_0) (fun _ h9 => h9) rfl dX8_readCall_9 ?_
  refine lv_iconst (v := 0) hx hb dX8_readCall_12 (by decide) ?_
  refine va_iald (i := 0) hx hb hK hP 2 0 rfl rfl (vp_in_nI (n := 0) (by decide) (by decide)) dX8_readCall_13 ?_
  refine k_top (y := (rw 0)) rfl ?_
  refine k_top (y := (nI mn)) (hmn) ?_
  refine lv_if_le (tgt := 21) hx hb dX8_readCall_14 (by decide) (fun c_2 => ?_) (fun c_2 => ?_)
  · have c_2 : mn ≤ 0 := (nI_leI (a := mn) (b := 0) (by omega) (by omega)).mp c_2
    refine lv_iconst (v := 0) hx hb dX8_readCall_21 (by decide) ?_
    have hC := c_X8_goes l D g m0 sc0 rd0 nw0 tr0 di0 ke0 ik0 cp0 cn0 be0 H.size rf ss v_1.2.2 v_1.2.1 lo ac 0
    obtain ⟨v_3, ev_3⟩ : ∃ z, z = (f_X8_goes v_1.2.1 lo 0) := ⟨_, rfl⟩
    rw [← ev_3] at hC
    have kev_3 : kEq v_3 (f_X8_goes v_1.2.1 lo 0) := ev_3
    clear ev_3
    refine k_ai (wr := [(sc0, .inl (g 0, 120, .inl sc)), (rd0, .inl (g 0, 748, .inl rw)), (cp0, .inl (g 0, 10, .inl cp)), (cn0, .inl (g 0, 10, .inl cn))]) (w2 := [(m0, .inr (8, [.int rf, .ref sc0, .int (nI ss), .int (nI v_1.2.2), .int v_1.2.1, .int v_3.2, .ref rd0, .ref nw0, .ref tr0, .ref di0, .int (nI ac), .ref ke0, .ref ik0, .ref cp0, .ref cn0, .ref be0])), (sc0, .inl (g 0, 120, .inl sc)), (rd0, .inl (g 0, 748, .inl rw)), (cp0, .inl (g 0, 10, .inl cp)), (cn0, .inl (g 0, 10, .inl cn))]) (va_runV (As := [.int 0]) (rest := []) ⟨hx, hb, hml, hown, hts⟩ hC (cwV 1 hts gX8_readCall_X8_goes rfl rfl rfl (by decide +kernel) (k_lvl (by omega) (by decide))) (kPV hP hD hK hS hA hE [0] rfl (by decide) 0 8 rfl rfl rfl) rfl rfl hl.1 rfl (lv_room (Nat.le_of_ble_eq_true rfl)) dX8_readCall_22 ⟨Nat.le_of_ble_eq_true rfl, Nat.le_of_ble_eq_true rfl⟩) hP hD hS hA [0] [1, 2, 3, 4] [4, 0, 1, 2, 3] rfl rfl (by decide) (by decide) rfl (by decide) (fun H locs hP hD hS => ?_)
    refine k_top (y := 0) (by rw [show v_3 = (f_X8_goes v_1.2.1 lo 0) from kev_3]; exact goes_0 _ _) ?_
    refine lv_if_eq (tgt := 46) hx hb dX8_readCall_25 (by decide) (fun _ => ?_) (fun c_4 => absurd c_4 (by decide))
    have ev_3 : (f_X8_goes v_1.2.1 lo 0) = v_3 := Eq.symm kev_3
    have ev_1 : (tS ss sp sc ig 9) = v_1 := Eq.symm kev_1
    have hE2 : (f_X8_readCall ss sp ig lo sc rw cp cn mn) = (v_1.2.1, v_1.2.2, v_3.2, rw, cp, cn) := by
      subst ev_3
      subst ev_1
      exact (if_pos c_2).trans (rfl)
    subst hQ
    exact k_rv hx hb hr hlocks hP hD hS dX8_readCall_46 (by rw [hE2])
  · have c_2 : ¬ (mn ≤ 0) := fun h9 => c_2 ((nI_leI (a := mn) (b := 0) (by omega) (by omega)).mpr h9)
    refine lv_iconst (v := 1) hx hb dX8_readCall_17 (by decide) ?_
    refine lv_goto (tgt := 22) hx hb dX8_readCall_18 (by decide) ?_
    have hC := c_X8_goes l D g m0 sc0 rd0 nw0 tr0 di0 ke0 ik0 cp0 cn0 be0 H.size rf ss v_1.2.2 v_1.2.1 lo ac 1
    obtain ⟨v_5, ev_5⟩ : ∃ z, z = (f_X8_goes v_1.2.1 lo 1) := ⟨_, rfl⟩
    rw [← ev_5] at hC
    have kev_5 : kEq v_5 (f_X8_goes v_1.2.1 lo 1) := ev_5
    clear ev_5
    refine k_ai (wr := [(sc0, .inl (g 0, 120, .inl sc)), (rd0, .inl (g 0, 748, .inl rw)), (cp0, .inl (g 0, 10, .inl cp)), (cn0, .inl (g 0, 10, .inl cn))]) (w2 := [(m0, .inr (8, [.int rf, .ref sc0, .int (nI ss), .int (nI v_1.2.2), .int v_1.2.1, .int v_5.2, .ref rd0, .ref nw0, .ref tr0, .ref di0, .int (nI ac), .ref ke0, .ref ik0, .ref cp0, .ref cn0, .ref be0])), (sc0, .inl (g 0, 120, .inl sc)), (rd0, .inl (g 0, 748, .inl rw)), (cp0, .inl (g 0, 10, .inl cp)), (cn0, .inl (g 0, 10, .inl cn))]) (va_runV (As := [.int 1]) (rest := []) ⟨hx, hb, hml, hown, hts⟩ hC (cwV 1 hts gX8_readCall_X8_goes rfl rfl rfl (by decide +kernel) (k_lvl (by omega) (by decide))) (kPV hP hD hK hS hA hE [0] rfl (by decide) 0 8 rfl rfl rfl) rfl rfl hl.1 rfl (lv_room (Nat.le_of_ble_eq_true rfl)) dX8_readCall_22 ⟨Nat.le_of_ble_eq_true rfl, Nat.le_of_ble_eq_true rfl⟩) hP hD hS hA [0] [1, 2, 3, 4] [4, 0, 1, 2, 3] rfl rfl (by decide) (by decide) rfl (by decide) (fun H locs hP hD hS => ?_)
    refine k_top (y := v_5.1) (rfl) ?_
    refine lv_if_eq (tgt := 46) hx hb dX8_readCall_25 (by decide) (fun c_6 => ?_) (fun c_6 => ?_)
    · have ev_5 : (f_X8_goes v_1.2.1 lo 1) = v_5 := Eq.symm kev_5
      have ev_1 : (tS ss sp sc ig 9) = v_1 := Eq.symm kev_1
      have hE2 : (f_X8_readCall ss sp ig lo sc rw cp cn mn) = (v_1.2.1, v_1.2.2, v_5.2, rw, cp, cn) := by
        subst ev_5
        subst ev_1
        exact (if_neg c_2).trans ((if_pos c_6).trans (rfl))
      subst hQ
      exact k_rv hx hb hr hlocks hP hD hS dX8_readCall_46 (by rw [hE2])
    · refine lv_aload_n hx hb dX8_readCall_28 rfl (lv_at hl 1 rfl) ?_
      refine lv_aload_n hx hb dX8_readCall_29 rfl (lv_at hl 1 rfl) ?_
      refine va_get (D := D) (ci := 8) (v := .ref rd0) (C := RX8) (T := TX8) (N := 16) hx hb hts (fun w h => (List.mem_cons_of_mem _ (List.mem_append_right _ h))) hown hK hP 0 rfl rfl 6 (by decide) (hts _ qX8_readCall_0) (fun _ h9 => h9) rfl dX8_readCall_30 ?_
      refine lv_aload_n hx hb dX8_readCall_33 rfl (lv_at hl 1 rfl) ?_
      refine va_get (D := D) (ci := 8) (v := .ref rd0) (C := RX8) (T := TX8) (N := 16) hx hb hts (fun w h => (List.mem_cons_of_mem _ (List.mem_append_right _ h))) hown hK hP 0 rfl rfl 6 (by decide) (hts _ qX8_readCall_0) (fun _ h9 => h9) rfl dX8_readCall_34 ?_
      refine lv_iconst (v := 0) hx hb dX8_readCall_37 (by decide) ?_
      refine va_iald (i := 0) hx hb hK hP 2 0 rfl rfl (vp_in_nI (n := 0) (by decide) (by decide)) dX8_readCall_38 ?_
      refine k_top (y := (rw 0)) rfl ?_
      refine k_top (y := (nI mn)) (hmn) ?_
      refine lv_iconst (v := 1) hx hb dX8_readCall_39 (by decide) ?_
      refine lv_isub hx hb dX8_readCall_40 ?_
      refine k_top (y := (nI (mn - 1))) (pk_sub (a := mn) (b := 1) (by omega)) ?_
      refine lv_iload_n hx hb dX8_readCall_41 rfl (lv_at hl 0 rfl) ?_
      have hC := c_X8_callInH l D g m0 rd0 sc0 rd0 nw0 tr0 di0 ke0 ik0 cp0 cn0 be0 H.size rf ss v_1.2.2 v_1.2.1 v_5.2 ac cp cn rw (mn - 1) v_1.1 (by omega) hR
      obtain ⟨v_7, ev_7⟩ : ∃ z, z = (h_X8_callIn cp cn rw (mn - 1) v_1.1) := ⟨_, rfl⟩
      rw [← ev_7] at hC
      have kev_7 : kEq v_7 (h_X8_callIn cp cn rw (mn - 1) v_1.1) := ev_7
      clear ev_7
      refine k_ai (wr := [(sc0, .inl (g 0, 120, .inl sc))]) (w2 := [(m0, .inr (8, [.int rf, .ref sc0, .int (nI ss), .int (nI v_1.2.2), .int v_1.2.1, .int v_5.2, .ref rd0, .ref nw0, .ref tr0, .ref di0, .int (nI ac), .ref ke0, .ref ik0, .ref cp0, .ref cn0, .ref be0])), (sc0, .inl (g 0, 120, .inl sc)), (rd0, .inl (g 0, 748, .inl v_7.2.1)), (cp0, .inl (g 0, 10, .inl v_7.2.2.1)), (cn0, .inl (g 0, 10, .inl v_7.2.2.2))]) (va_runV (As := [.ref rd0, .int (nI (mn - 1)), .int v_1.1]) (rest := []) ⟨hx, hb, hml, hown, hts⟩ hC (cwV 3 hts gX8_readCall_X8_callIn rfl rfl rfl (by decide +kernel) (k_lvl (by omega) (by decide))) (kPV hP hD hK hS hA hE [0, 3, 4, 2] rfl (by decide) 0 8 rfl rfl rfl) rfl rfl hl.1 rfl (lv_room (Nat.le_of_ble_eq_true rfl)) dX8_readCall_42 ⟨Nat.le_of_ble_eq_true rfl, Nat.le_of_ble_eq_true rfl⟩) hP hD hS hA [0, 3, 4, 2] [1] [1, 0, 4, 2, 3] rfl rfl (by decide) (by decide) rfl (by decide) (fun H locs hP hD hS => ?_)
      refine lv_pop hx hb dX8_readCall_45 rfl ?_
      have ev_7 : (h_X8_callIn cp cn rw (mn - 1) v_1.1) = v_7 := Eq.symm kev_7
      have ev_5 : (f_X8_goes v_1.2.1 lo 1) = v_5 := Eq.symm kev_5
      have ev_1 : (tS ss sp sc ig 9) = v_1 := Eq.symm kev_1
      have hE2 : (f_X8_readCall ss sp ig lo sc rw cp cn mn) = (v_1.2.1, v_1.2.2, v_5.2, v_7.2.1, v_7.2.2.1, v_7.2.2.2) := by
        subst ev_7
        subst ev_5
        subst ev_1
        exact (if_neg c_2).trans ((if_neg c_6).trans (rfl))
      subst hQ
      exact k_rv hx hb hr hlocks hP hD hS dX8_readCall_46 (by rw [hE2])
def h_X8_readPart := hid f_X8_readPart
theorem h_X8_readPart_eq : h_X8_readPart = f_X8_readPart := hid_eq _
theorem c_X8_readPartH (l : Launch) (D : va_G) (g : Nat → Nat) (m0 sc0 rd0 nw0 tr0 di0 ke0 ik0 cp0 cn0 be0 : Nat) (sz : Nat) (rf : Int32) (ss : Nat) (sp : Nat) (ig : Int32) (lo : Int32) (ac : Nat) (sc : Nat → Int32) (rw : Nat → Int32) (mn : Nat) (hss : ss ≤ 120) (hsp : sp ≤ 800) (hmn : rw 0 = nI mn) (hm9 : mn ≤ 10) : kMv l D g yX8_readPart wsX8_readPart 4 0 0 [.ref m0] [(m0, .inr (8, [.int rf, .ref sc0, .int (nI ss), .int (nI sp), .int ig, .int lo, .ref rd0, .ref nw0, .ref tr0, .ref di0, .int (nI ac), .ref ke0, .ref ik0, .ref cp0, .ref cn0, .ref be0])), (sc0, .inl (g 0, 120, .inl sc)), (rd0, .inl (g 0, 748, .inl rw))] sz [(m0, .inr (8, [.int rf, .ref sc0, .int (nI ss), .int (nI ((h_X8_readPart ss sp ig lo sc rw mn).2.1)), .int ((h_X8_readPart ss sp ig lo sc rw mn).1), .int ((h_X8_readPart ss sp ig lo sc rw mn).2.2.1), .ref rd0, .ref nw0, .ref tr0, .ref di0, .int (nI ac), .ref ke0, .ref ik0, .ref cp0, .ref cn0, .ref be0])), (sc0, .inl (g 0, 120, .inl sc)), (rd0, .inl (g 0, 748, .inl ((h_X8_readPart ss sp ig lo sc rw mn).2.2.2)))] := by
  rw [h_X8_readPart_eq]
  exact c_X8_readPart l D g m0 sc0 rd0 nw0 tr0 di0 ke0 ik0 cp0 cn0 be0 sz rf ss sp ig lo ac sc rw mn hss hsp hmn hm9
def h_X8_readChain := hid f_X8_readChain
theorem h_X8_readChain_eq : h_X8_readChain = f_X8_readChain := hid_eq _
theorem c_X8_readChainH (l : Launch) (D : va_G) (g : Nat → Nat) (m0 sc0 rd0 nw0 tr0 di0 ke0 ik0 cp0 cn0 be0 : Nat) (sz : Nat) (rf : Int32) (ss : Nat) (sp : Nat) (ig : Int32) (lo : Int32) (ac : Nat) (sc : Nat → Int32) (rw : Nat → Int32) (hss : ss ≤ 120) (hsp : sp ≤ 800) : kMv l D g yX8_readChain wsX8_readChain 4 0 0 [.ref m0] [(m0, .inr (8, [.int rf, .ref sc0, .int (nI ss), .int (nI sp), .int ig, .int lo, .ref rd0, .ref nw0, .ref tr0, .ref di0, .int (nI ac), .ref ke0, .ref ik0, .ref cp0, .ref cn0, .ref be0])), (sc0, .inl (g 0, 120, .inl sc)), (rd0, .inl (g 0, 748, .inl rw))] sz [(m0, .inr (8, [.int rf, .ref sc0, .int (nI ss), .int (nI ((h_X8_readChain ss sp ig lo sc rw).2.1)), .int ((h_X8_readChain ss sp ig lo sc rw).1), .int ((h_X8_readChain ss sp ig lo sc rw).2.2.1), .ref rd0, .ref nw0, .ref tr0, .ref di0, .int (nI ac), .ref ke0, .ref ik0, .ref cp0, .ref cn0, .ref be0])), (sc0, .inl (g 0, 120, .inl sc)), (rd0, .inl (g 0, 748, .inl ((h_X8_readChain ss sp ig lo sc rw).2.2.2)))] := by
  rw [h_X8_readChain_eq]
  exact c_X8_readChain l D g m0 sc0 rd0 nw0 tr0 di0 ke0 ik0 cp0 cn0 be0 sz rf ss sp ig lo ac sc rw hss hsp
def h_X8_readOwn := hid f_X8_readOwn
theorem h_X8_readOwn_eq : h_X8_readOwn = f_X8_readOwn := hid_eq _
theorem c_X8_readOwnH (l : Launch) (D : va_G) (g : Nat → Nat) (m0 sc0 rd0 nw0 tr0 di0 ke0 ik0 cp0 cn0 be0 : Nat) (sz : Nat) (rf : Int32) (ss : Nat) (sp : Nat) (ig : Int32) (lo : Int32) (ac : Nat) (sc : Nat → Int32) (rw : Nat → Int32) (hss : ss ≤ 120) (hsp : sp ≤ 800) : kMv l D g yX8_readOwn wsX8_readOwn 4 0 0 [.ref m0] [(m0, .inr (8, [.int rf, .ref sc0, .int (nI ss), .int (nI sp), .int ig, .int lo, .ref rd0, .ref nw0, .ref tr0, .ref di0, .int (nI ac), .ref ke0, .ref ik0, .ref cp0, .ref cn0, .ref be0])), (sc0, .inl (g 0, 120, .inl sc)), (rd0, .inl (g 0, 748, .inl rw))] sz [(m0, .inr (8, [.int rf, .ref sc0, .int (nI ss), .int (nI ((h_X8_readOwn ss sp ig lo sc rw).2.1)), .int ((h_X8_readOwn ss sp ig lo sc rw).1), .int ((h_X8_readOwn ss sp ig lo sc rw).2.2.1), .ref rd0, .ref nw0, .ref tr0, .ref di0, .int (nI ac), .ref ke0, .ref ik0, .ref cp0, .ref cn0, .ref be0])), (sc0, .inl (g 0, 120, .inl sc)), (rd0, .inl (g 0, 748, .inl ((h_X8_readOwn ss sp ig lo sc rw).2.2.2)))] := by
  rw [h_X8_readOwn_eq]
  exact c_X8_readOwn l D g m0 sc0 rd0 nw0 tr0 di0 ke0 ik0 cp0 cn0 be0 sz rf ss sp ig lo ac sc rw hss hsp
def h_X8_readDrop := hid f_X8_readDrop
theorem h_X8_readDrop_eq : h_X8_readDrop = f_X8_readDrop := hid_eq _
theorem c_X8_readDropH (l : Launch) (D : va_G) (g : Nat → Nat) (m0 sc0 rd0 nw0 tr0 di0 ke0 ik0 cp0 cn0 be0 : Nat) (sz : Nat) (rf : Int32) (ss : Nat) (sp : Nat) (ig : Int32) (lo : Int32) (ac : Nat) (sc : Nat → Int32) (rw : Nat → Int32) (hss : ss ≤ 120) (hsp : sp ≤ 800) : kMv l D g yX8_readDrop wsX8_readDrop 3 0 0 [.ref m0] [(m0, .inr (8, [.int rf, .ref sc0, .int (nI ss), .int (nI sp), .int ig, .int lo, .ref rd0, .ref nw0, .ref tr0, .ref di0, .int (nI ac), .ref ke0, .ref ik0, .ref cp0, .ref cn0, .ref be0])), (sc0, .inl (g 0, 120, .inl sc)), (rd0, .inl (g 0, 748, .inl rw))] sz [(m0, .inr (8, [.int rf, .ref sc0, .int (nI ss), .int (nI ((h_X8_readDrop ss sp ig lo sc rw).2.1)), .int ((h_X8_readDrop ss sp ig lo sc rw).1), .int ((h_X8_readDrop ss sp ig lo sc rw).2.2.1), .ref rd0, .ref nw0, .ref tr0, .ref di0, .int (nI ac), .ref ke0, .ref ik0, .ref cp0, .ref cn0, .ref be0])), (sc0, .inl (g 0, 120, .inl sc)), (rd0, .inl (g 0, 748, .inl ((h_X8_readDrop ss sp ig lo sc rw).2.2.2)))] := by
  rw [h_X8_readDrop_eq]
  exact c_X8_readDrop l D g m0 sc0 rd0 nw0 tr0 di0 ke0 ik0 cp0 cn0 be0 sz rf ss sp ig lo ac sc rw hss hsp
def h_X8_readCall := hid f_X8_readCall
theorem h_X8_readCall_eq : h_X8_readCall = f_X8_readCall := hid_eq _
theorem c_X8_readCallH (l : Launch) (D : va_G) (g : Nat → Nat) (m0 sc0 rd0 nw0 tr0 di0 ke0 ik0 cp0 cn0 be0 : Nat) (sz : Nat) (rf : Int32) (ss : Nat) (sp : Nat) (ig : Int32) (lo : Int32) (ac : Nat) (sc : Nat → Int32) (rw : Nat → Int32) (cp : Nat → Int32) (cn : Nat → Int32) (mn : Nat) (hss : ss ≤ 120) (hsp : sp ≤ 800) (hmn : rw 0 = nI mn) (hm9 : mn ≤ 10) (hR : rNx rw) : kMv l D g yX8_readCall wsX8_readCall 6 0 0 [.ref m0] [(m0, .inr (8, [.int rf, .ref sc0, .int (nI ss), .int (nI sp), .int ig, .int lo, .ref rd0, .ref nw0, .ref tr0, .ref di0, .int (nI ac), .ref ke0, .ref ik0, .ref cp0, .ref cn0, .ref be0])), (sc0, .inl (g 0, 120, .inl sc)), (rd0, .inl (g 0, 748, .inl rw)), (cp0, .inl (g 0, 10, .inl cp)), (cn0, .inl (g 0, 10, .inl cn))] sz [(m0, .inr (8, [.int rf, .ref sc0, .int (nI ss), .int (nI ((h_X8_readCall ss sp ig lo sc rw cp cn mn).2.1)), .int ((h_X8_readCall ss sp ig lo sc rw cp cn mn).1), .int ((h_X8_readCall ss sp ig lo sc rw cp cn mn).2.2.1), .ref rd0, .ref nw0, .ref tr0, .ref di0, .int (nI ac), .ref ke0, .ref ik0, .ref cp0, .ref cn0, .ref be0])), (sc0, .inl (g 0, 120, .inl sc)), (rd0, .inl (g 0, 748, .inl ((h_X8_readCall ss sp ig lo sc rw cp cn mn).2.2.2.1))), (cp0, .inl (g 0, 10, .inl ((h_X8_readCall ss sp ig lo sc rw cp cn mn).2.2.2.2.1))), (cn0, .inl (g 0, 10, .inl ((h_X8_readCall ss sp ig lo sc rw cp cn mn).2.2.2.2.2)))] := by
  rw [h_X8_readCall_eq]
  exact c_X8_readCall l D g m0 sc0 rd0 nw0 tr0 di0 ke0 ik0 cp0 cn0 be0 sz rf ss sp ig lo ac sc rw cp cn mn hss hsp hmn hm9 hR
def f_X8_readCommand (ss : Nat) (sp : Nat) (ig : Int32) (lo : Int32) (sc : Nat → Int32) (rw : Nat → Int32) (cp : Nat → Int32) (cn : Nat → Int32) (mn : Nat) : Int32 × Nat × Int32 × (Nat → Int32) × (Nat → Int32) × (Nat → Int32) :=
  let v_2 := (tA sp ig 1)
  let v_5 := (h_X8_readPart ss v_2.2 v_2.1 lo sc rw mn)
  let v_7 := (tA sp ig 1)
  let v_11 := (h_X8_readChain ss v_7.2 v_7.1 lo sc rw)
  let v_13 := (tA sp ig 1)
  let v_18 := (h_X8_readOwn ss v_13.2 v_13.1 lo sc rw)
  let v_20 := (tA sp ig 1)
  let v_26 := (h_X8_readCall ss v_20.2 v_20.1 lo sc rw cp cn mn)
  let v_28 := (tA sp ig 0)
  let v_34 := (h_X8_readDrop ss v_28.2 v_28.1 lo sc rw)
  let v_35 := (tA sp ig 1)
  let v_41 := (h_X8_readDrop ss v_35.2 v_35.1 lo sc rw)
  if (sc sp) = 110 then
    if v_2.1 = 0 then
      (v_2.1, v_2.2, lo, rw, cp, cn)
    else
      (v_5.1, v_5.2.1, v_5.2.2.1, v_5.2.2.2, cp, cn)
  else
    if (sc sp) = 115 then
      if v_7.1 = 0 then
        (v_7.1, v_7.2, lo, rw, cp, cn)
      else
        (v_11.1, v_11.2.1, v_11.2.2.1, v_11.2.2.2, cp, cn)
    else
      if (sc sp) = 111 then
        if v_13.1 = 0 then
          (v_13.1, v_13.2, lo, rw, cp, cn)
        else
          (v_18.1, v_18.2.1, v_18.2.2.1, v_18.2.2.2, cp, cn)
      else
        if (sc sp) = 107 then
          if v_20.1 = 0 then
            (v_20.1, v_20.2, lo, rw, cp, cn)
          else
            (v_26.1, v_26.2.1, v_26.2.2.1, v_26.2.2.2.1, v_26.2.2.2.2.1, v_26.2.2.2.2.2)
        else
          if (sc sp) = 120 then
            if v_35.1 = 0 then
              (v_35.1, v_35.2, lo, rw, cp, cn)
            else
              (v_41.1, v_41.2.1, v_41.2.2.1, v_41.2.2.2, cp, cn)
          else
            if v_28.1 = 0 then
              (v_28.1, v_28.2, lo, rw, cp, cn)
            else
              (v_34.1, v_34.2.1, v_34.2.2.1, v_34.2.2.2, cp, cn)
theorem qX8_readCommand_0 : Cond.fieldLink RX8 7 "BlameChainsModel" "script" "[I" ∈ wsX8_readCommand := (List.mem_cons_of_mem _ (List.mem_append_left _ (List.mem_append_left _ (List.mem_of_getElem? (i := 0) rfl))))
theorem qX8_readCommand_1 : Cond.fieldLink RX8 112 "BlameChainsModel" "spot" "I" ∈ wsX8_readCommand := (List.mem_cons_of_mem _ (List.mem_append_left _ (List.mem_append_left _ (List.mem_of_getElem? (i := 1) rfl))))
theorem qX8_readCommand_2 : Cond.fieldLink RX8 115 "BlameChainsModel" "isGood" "Z" ∈ wsX8_readCommand := (List.mem_cons_of_mem _ (List.mem_append_left _ (List.mem_append_left _ (List.mem_of_getElem? (i := 2) rfl))))
set_option maxHeartbeats 4000000 in
set_option maxRecDepth 100000 in
theorem c_X8_readCommand (l : Launch) (D : va_G) (g : Nat → Nat) (m0 sc0 rd0 nw0 tr0 di0 ke0 ik0 cp0 cn0 be0 : Nat) (sz : Nat) (rf : Int32) (ss : Nat) (sp : Nat) (ig : Int32) (lo : Int32) (ac : Nat) (sc : Nat → Int32) (rw : Nat → Int32) (cp : Nat → Int32) (cn : Nat → Int32) (mn : Nat) (hss : ss ≤ 120) (hsp : sp < ss) (hmn : rw 0 = nI mn) (hm9 : mn ≤ 10) (hR : rNx rw) : kMv l D g yX8_readCommand wsX8_readCommand 7 0 0 [.ref m0] [(m0, .inr (8, [.int rf, .ref sc0, .int (nI ss), .int (nI sp), .int ig, .int lo, .ref rd0, .ref nw0, .ref tr0, .ref di0, .int (nI ac), .ref ke0, .ref ik0, .ref cp0, .ref cn0, .ref be0])), (sc0, .inl (g 0, 120, .inl sc)), (rd0, .inl (g 0, 748, .inl rw)), (cp0, .inl (g 0, 10, .inl cp)), (cn0, .inl (g 0, 10, .inl cn))] sz [(m0, .inr (8, [.int rf, .ref sc0, .int (nI ss), .int (nI ((f_X8_readCommand ss sp ig lo sc rw cp cn mn).2.1)), .int ((f_X8_readCommand ss sp ig lo sc rw cp cn mn).1), .int ((f_X8_readCommand ss sp ig lo sc rw cp cn mn).2.2.1), .ref rd0, .ref nw0, .ref tr0, .ref di0, .int (nI ac), .ref ke0, .ref ik0, .ref cp0, .ref cn0, .ref be0])), (sc0, .inl (g 0, 120, .inl sc)), (rd0, .inl (g 0, 748, .inl ((f_X8_readCommand ss sp ig lo sc rw cp cn mn).2.2.2.1))), (cp0, .inl (g 0, 10, .inl ((f_X8_readCommand ss sp ig lo sc rw cp cn mn).2.2.2.2.1))), (cn0, .inl (g 0, 10, .inl ((f_X8_readCommand ss sp ig lo sc rw cp cn mn).2.2.2.2.2)))] := by
  refine k_enter (nm := "readCommand") (own := RX8) (bytes := cX8_readCommand) (maxL := 2) (ret := none) (Qf := fun A => kQv D [(m0, .inr (8, [.int rf, .ref sc0, .int (nI ss), .int (nI ((f_X8_readCommand ss sp ig lo sc rw cp cn mn).2.1)), .int ((f_X8_readCommand ss sp ig lo sc rw cp cn mn).1), .int ((f_X8_readCommand ss sp ig lo sc rw cp cn mn).2.2.1), .ref rd0, .ref nw0, .ref tr0, .ref di0, .int (nI ac), .ref ke0, .ref ik0, .ref cp0, .ref cn0, .ref be0])), (sc0, .inl (g 0, 120, .inl sc)), (rd0, .inl (g 0, 748, .inl ((f_X8_readCommand ss sp ig lo sc rw cp cn mn).2.2.2.1))), (cp0, .inl (g 0, 10, .inl ((f_X8_readCommand ss sp ig lo sc rw cp cn mn).2.2.2.2.1))), (cn0, .inl (g 0, 10, .inl ((f_X8_readCommand ss sp ig lo sc rw cp cn mn).2.2.2.2.2)))] A) (by decide) rfl rfl rfl (Nat.le_of_ble_eq_true rfl) ?_
  rintro pp ee s mm below meth cc A ls args Q H locs hQ ⟨hx, hb, hr, hml, hown, hts, hlocks, hin⟩ hP hK hD hA hS hE hl
  have hl : lv_has ls 2 [(0, .ref m0)] := hl
  refine lv_aload_n hx hb dX8_readCommand_0 rfl (lv_at hl 0 rfl) ?_
  refine va_get (D := D) (ci := 8) (v := .ref sc0) (C := RX8) (T := TX8) (N := 16) hx hb hts (fun w h => (List.mem_cons_of_mem _ (List.mem_append_right _ h))) hown hK hP 0 rfl rfl 1 (by decide) (hts _ qX8_readCommand_0) (fun _ h9 => h9) rfl dX8_readCommand_1 ?_
  refine lv_aload_n hx hb dX8_readCommand_4 rfl (lv_at hl 0 rfl) ?_
  refine va_get (D := D) (ci := 8) (v := .int (nI sp)) (C := RX8) (T := TX8) (N := 16) hx hb hts (fun w h => (List.mem_cons_of_mem _ (List.mem_append_right _ h))) hown hK hP 0 rfl rfl 3 (by decide) (hts _ qX8_readCommand_1) (fun _ h9 => h9) rfl dX8_readCommand_5 ?_
  refine va_iald (i := (nI sp)) hx hb hK hP 1 0 rfl rfl (vp_in_nI (n := sp) (by omega) (by omega)) dX8_readCommand_8 ?_
  refine k_top (y := (sc sp)) (by rw [nI_clamp (by omega)]) ?_
  refine lv_istore_n (lv' := [(1, .int (sc sp)), (0, .ref m0)]) hx hb dX8_readCommand_9 rfl hl (by decide) rfl (fun ls hl => ?_)
  refine lv_aload_n hx hb dX8_readCommand_10 rfl (lv_at hl 1 rfl) ?_
  refine lv_iload_n hx hb dX8_readCommand_11 rfl (lv_at hl 0 rfl) ?_
  refine lv_bipush (v := 110) hx hb dX8_readCommand_12 (by decide) ?_
  refine lv_icmp_eq (tgt := 41) hx hb dX8_readCommand_14 (by decide) (fun c_1 => ?_) (fun c_1 => ?_)
  · refine lv_iconst (v := 1) hx hb dX8_readCommand_41 (by decide) ?_
    refine lv_goto (tgt := 46) hx hb dX8_readCommand_42 (by decide) ?_
    have hC := c_X8_acceptT l D g m0 sc0 rd0 nw0 tr0 di0 ke0 ik0 cp0 cn0 be0 H.size rf ss sp ig lo ac 1 (by omega)
    obtain ⟨v_2, ev_2⟩ : ∃ z, z = (tA sp ig 1) := ⟨_, rfl⟩
    rw [← ev_2] at hC
    have hsv_2_0 : (tA sp ig 1).2 ≤ sp + 1 := tA_le sp ig 1
    rw [← ev_2] at hsv_2_0
    have kev_2 : kEq v_2 (tA sp ig 1) := ev_2
    clear ev_2
    refine k_av (wr := [(sc0, .inl (g 0, 120, .inl sc)), (rd0, .inl (g 0, 748, .inl rw)), (cp0, .inl (g 0, 10, .inl cp)), (cn0, .inl (g 0, 10, .inl cn))]) (w2 := [(m0, .inr (8, [.int rf, .ref sc0, .int (nI ss), .int (nI v_2.2), .int v_2.1, .int lo, .ref rd0, .ref nw0, .ref tr0, .ref di0, .int (nI ac), .ref ke0, .ref ik0, .ref cp0, .ref cn0, .ref be0])), (sc0, .inl (g 0, 120, .inl sc)), (rd0, .inl (g 0, 748, .inl rw)), (cp0, .inl (g 0, 10, .inl cp)), (cn0, .inl (g 0, 10, .inl cn))]) (va_runV (As := [.int 1]) (rest := []) ⟨hx, hb, hml, hown, hts⟩ hC (cwV 1 hts gX8_readCommand_X8_accept rfl rfl rfl (by decide +kernel) (k_lvl (by omega) (by decide))) (kPV hP hD hK hS hA hE [0] rfl (by decide) 0 8 rfl rfl rfl) rfl rfl hl.1 rfl (lv_room (Nat.le_of_ble_eq_true rfl)) dX8_readCommand_46 ⟨Nat.le_of_ble_eq_true rfl, Nat.le_of_ble_eq_true rfl⟩) hP hD hS hA [0] [1, 2, 3, 4] [4, 0, 1, 2, 3] rfl rfl (by decide) (by decide) rfl (by decide) (fun H locs hP hD hS => ?_)
    refine lv_aload_n hx hb dX8_readCommand_49 rfl (lv_at hl 1 rfl) ?_
    refine va_get (D := D) (ci := 8) (v := .int v_2.1) (C := RX8) (T := TX8) (N := 16) hx hb hts (fun w h => (List.mem_cons_of_mem _ (List.mem_append_right _ h))) hown hK hP 0 rfl rfl 4 (by decide) (hts _ qX8_readCommand_2) (fun _ h9 => h9) rfl dX8_readCommand_50 ?_
    refine lv_if_ne (tgt := 57) hx hb dX8_readCommand_53 (by decide) (fun c_3 => ?_) (fun c_3 => ?_)
    · refine lv_iload_n hx hb dX8_readCommand_57 rfl (lv_at hl 0 rfl) ?_
      refine lv_bipush (v := 110) hx hb dX8_readCommand_58 (by decide) ?_
      refine lv_icmp_ne (tgt := 70) hx hb dX8_readCommand_60 (by decide) (fun c_4 => absurd c_1 c_4) (fun _ => ?_)
      refine lv_aload_n hx hb dX8_readCommand_63 rfl (lv_at hl 1 rfl) ?_
      have hC := c_X8_readPartH l D g m0 sc0 rd0 nw0 tr0 di0 ke0 ik0 cp0 cn0 be0 H.size rf ss v_2.2 v_2.1 lo ac sc rw mn (by omega) (by omega) hmn hm9
      obtain ⟨v_5, ev_5⟩ : ∃ z, z = (h_X8_readPart ss v_2.2 v_2.1 lo sc rw mn) := ⟨_, rfl⟩
      rw [← ev_5] at hC
      have kev_5 : kEq v_5 (h_X8_readPart ss v_2.2 v_2.1 lo sc rw mn) := ev_5
      clear ev_5
      refine k_av (wr := [(cp0, .inl (g 0, 10, .inl cp)), (cn0, .inl (g 0, 10, .inl cn))]) (w2 := [(m0, .inr (8, [.int rf, .ref sc0, .int (nI ss), .int (nI v_5.2.1), .int v_5.1, .int v_5.2.2.1, .ref rd0, .ref nw0, .ref tr0, .ref di0, .int (nI ac), .ref ke0, .ref ik0, .ref cp0, .ref cn0, .ref be0])), (sc0, .inl (g 0, 120, .inl sc)), (rd0, .inl (g 0, 748, .inl v_5.2.2.2)), (cp0, .inl (g 0, 10, .inl cp)), (cn0, .inl (g 0, 10, .inl cn))]) (va_runV (As := []) (rest := []) ⟨hx, hb, hml, hown, hts⟩ hC (cwV 0 hts gX8_readCommand_X8_readPart rfl rfl rfl (by decide +kernel) (k_lvl (by omega) (by decide))) (kPV hP hD hK hS hA hE [0, 1, 2] rfl (by decide) 0 8 rfl rfl rfl) rfl rfl hl.1 rfl (lv_room (Nat.le_of_ble_eq_true rfl)) dX8_readCommand_64 ⟨Nat.le_of_ble_eq_true rfl, Nat.le_of_ble_eq_true rfl⟩) hP hD hS hA [0, 1, 2] [3, 4] [2, 3, 4, 0, 1] rfl rfl (by decide) (by decide) rfl (by decide) (fun H locs hP hD hS => ?_)
      refine lv_goto (tgt := 113) hx hb dX8_readCommand_67 (by decide) ?_
      have ev_5 : (h_X8_readPart ss v_2.2 v_2.1 lo sc rw mn) = v_5 := Eq.symm kev_5
      have ev_2 : (tA sp ig 1) = v_2 := Eq.symm kev_2
      have hE2 : (f_X8_readCommand ss sp ig lo sc rw cp cn mn) = (v_5.1, v_5.2.1, v_5.2.2.1, v_5.2.2.2, cp, cn) := by
        subst ev_5
        subst ev_2
        exact (if_pos c_1).trans ((if_neg c_3).trans (rfl))
      subst hQ
      exact k_rv hx hb hr hlocks hP hD hS dX8_readCommand_113 (by rw [hE2])
    · have ev_2 : (tA sp ig 1) = v_2 := Eq.symm kev_2
      have hE2 : (f_X8_readCommand ss sp ig lo sc rw cp cn mn) = (v_2.1, v_2.2, lo, rw, cp, cn) := by
        subst ev_2
        exact (if_pos c_1).trans ((if_pos c_3).trans (rfl))
      subst hQ
      exact k_rv hx hb hr hlocks hP hD hS dX8_readCommand_56 (by rw [hE2])
  · refine lv_iload_n hx hb dX8_readCommand_17 rfl (lv_at hl 0 rfl) ?_
    refine lv_bipush (v := 115) hx hb dX8_readCommand_18 (by decide) ?_
    refine lv_icmp_eq (tgt := 41) hx hb dX8_readCommand_20 (by decide) (fun c_6 => ?_) (fun c_6 => ?_)
    · refine lv_iconst (v := 1) hx hb dX8_readCommand_41 (by decide) ?_
      refine lv_goto (tgt := 46) hx hb dX8_readCommand_42 (by decide) ?_
      have hC := c_X8_acceptT l D g m0 sc0 rd0 nw0 tr0 di0 ke0 ik0 cp0 cn0 be0 H.size rf ss sp ig lo ac 1 (by omega)
      obtain ⟨v_7, ev_7⟩ : ∃ z, z = (tA sp ig 1) := ⟨_, rfl⟩
      rw [← ev_7] at hC
      have hsv_7_0 : (tA sp ig 1).2 ≤ sp + 1 := tA_le sp ig 1
      rw [← ev_7] at hsv_7_0
      have kev_7 : kEq v_7 (tA sp ig 1) := ev_7
      clear ev_7
      refine k_av (wr := [(sc0, .inl (g 0, 120, .inl sc)), (rd0, .inl (g 0, 748, .inl rw)), (cp0, .inl (g 0, 10, .inl cp)), (cn0, .inl (g 0, 10, .inl cn))]) (w2 := [(m0, .inr (8, [.int rf, .ref sc0, .int (nI ss), .int (nI v_7.2), .int v_7.1, .int lo, .ref rd0, .ref nw0, .ref tr0, .ref di0, .int (nI ac), .ref ke0, .ref ik0, .ref cp0, .ref cn0, .ref be0])), (sc0, .inl (g 0, 120, .inl sc)), (rd0, .inl (g 0, 748, .inl rw)), (cp0, .inl (g 0, 10, .inl cp)), (cn0, .inl (g 0, 10, .inl cn))]) (va_runV (As := [.int 1]) (rest := []) ⟨hx, hb, hml, hown, hts⟩ hC (cwV 1 hts gX8_readCommand_X8_accept rfl rfl rfl (by decide +kernel) (k_lvl (by omega) (by decide))) (kPV hP hD hK hS hA hE [0] rfl (by decide) 0 8 rfl rfl rfl) rfl rfl hl.1 rfl (lv_room (Nat.le_of_ble_eq_true rfl)) dX8_readCommand_46 ⟨Nat.le_of_ble_eq_true rfl, Nat.le_of_ble_eq_true rfl⟩) hP hD hS hA [0] [1, 2, 3, 4] [4, 0, 1, 2, 3] rfl rfl (by decide) (by decide) rfl (by decide) (fun H locs hP hD hS => ?_)
      refine lv_aload_n hx hb dX8_readCommand_49 rfl (lv_at hl 1 rfl) ?_
      refine va_get (D := D) (ci := 8) (v := .int v_7.1) (C := RX8) (T := TX8) (N := 16) hx hb hts (fun w h => (List.mem_cons_of_mem _ (List.mem_append_right _ h))) hown hK hP 0 rfl rfl 4 (by decide) (hts _ qX8_readCommand_2) (fun _ h9 => h9) rfl dX8_readCommand_50 ?_
      refine lv_if_ne (tgt := 57) hx hb dX8_readCommand_53 (by decide) (fun c_8 => ?_) (fun c_8 => ?_)
      · refine lv_iload_n hx hb dX8_readCommand_57 rfl (lv_at hl 0 rfl) ?_
        refine lv_bipush (v := 110) hx hb dX8_readCommand_58 (by decide) ?_
        refine lv_icmp_ne (tgt := 70) hx hb dX8_readCommand_60 (by decide) (fun _ => ?_) (fun c_9 => absurd c_9 c_1)
        refine lv_iload_n hx hb dX8_readCommand_70 rfl (lv_at hl 0 rfl) ?_
        refine lv_bipush (v := 115) hx hb dX8_readCommand_71 (by decide) ?_
        refine lv_icmp_ne (tgt := 83) hx hb dX8_readCommand_73 (by decide) (fun c_10 => absurd c_6 c_10) (fun _ => ?_)
        refine lv_aload_n hx hb dX8_readCommand_76 rfl (lv_at hl 1 rfl) ?_
        have hC := c_X8_readChainH l D g m0 sc0 rd0 nw0 tr0 di0 ke0 ik0 cp0 cn0 be0 H.size rf ss v_7.2 v_7.1 lo ac sc rw (by omega) (by omega)
        obtain ⟨v_11, ev_11⟩ : ∃ z, z = (h_X8_readChain ss v_7.2 v_7.1 lo sc rw) := ⟨_, rfl⟩
        rw [← ev_11] at hC
        have kev_11 : kEq v_11 (h_X8_readChain ss v_7.2 v_7.1 lo sc rw) := ev_11
        clear ev_11
        refine k_av (wr := [(cp0, .inl (g 0, 10, .inl cp)), (cn0, .inl (g 0, 10, .inl cn))]) (w2 := [(m0, .inr (8, [.int rf, .ref sc0, .int (nI ss), .int (nI v_11.2.1), .int v_11.1, .int v_11.2.2.1, .ref rd0, .ref nw0, .ref tr0, .ref di0, .int (nI ac), .ref ke0, .ref ik0, .ref cp0, .ref cn0, .ref be0])), (sc0, .inl (g 0, 120, .inl sc)), (rd0, .inl (g 0, 748, .inl v_11.2.2.2)), (cp0, .inl (g 0, 10, .inl cp)), (cn0, .inl (g 0, 10, .inl cn))]) (va_runV (As := []) (rest := []) ⟨hx, hb, hml, hown, hts⟩ hC (cwV 0 hts gX8_readCommand_X8_readChain rfl rfl rfl (by decide +kernel) (k_lvl (by omega) (by decide))) (kPV hP hD hK hS hA hE [0, 1, 2] rfl (by decide) 0 8 rfl rfl rfl) rfl rfl hl.1 rfl (lv_room (Nat.le_of_ble_eq_true rfl)) dX8_readCommand_77 ⟨Nat.le_of_ble_eq_true rfl, Nat.le_of_ble_eq_true rfl⟩) hP hD hS hA [0, 1, 2] [3, 4] [2, 3, 4, 0, 1] rfl rfl (by decide) (by decide) rfl (by decide) (fun H locs hP hD hS => ?_)
        refine lv_goto (tgt := 113) hx hb dX8_readCommand_80 (by decide) ?_
        have ev_11 : (h_X8_readChain ss v_7.2 v_7.1 lo sc rw) = v_11 := Eq.symm kev_11
        have ev_7 : (tA sp ig 1) = v_7 := Eq.symm kev_7
        have hE2 : (f_X8_readCommand ss sp ig lo sc rw cp cn mn) = (v_11.1, v_11.2.1, v_11.2.2.1, v_11.2.2.2, cp, cn) := by
          subst ev_11
          subst ev_7
          exact (if_neg c_1).trans ((if_pos c_6).trans ((if_neg c_8).trans (rfl)))
        subst hQ
        exact k_rv hx hb hr hlocks hP hD hS dX8_readCommand_113 (by rw [hE2])
      · have ev_7 : (tA sp ig 1) = v_7 := Eq.symm kev_7
        have hE2 : (f_X8_readCommand ss sp ig lo sc rw cp cn mn) = (v_7.1, v_7.2, lo, rw, cp, cn) := by
          subst ev_7
          exact (if_neg c_1).trans ((if_pos c_6).trans ((if_pos c_8).trans (rfl)))
        subst hQ
        exact k_rv hx hb hr hlocks hP hD hS dX8_readCommand_56 (by rw [hE2])
    · refine lv_iload_n hx hb dX8_readCommand_23 rfl (lv_at hl 0 rfl) ?_
      refine lv_bipush (v := 111) hx hb dX8_readCommand_24 (by decide) ?_
      refine lv_icmp_eq (tgt := 41) hx hb dX8_readCommand_26 (by decide) (fun c_12 => ?_) (fun c_12 => ?_)
      · refine lv_iconst (v := 1) hx hb dX8_readCommand_41 (by decide) ?_
        refine lv_goto (tgt := 46) hx hb dX8_readCommand_42 (by decide) ?_
        have hC := c_X8_acceptT l D g m0 sc0 rd0 nw0 tr0 di0 ke0 ik0 cp0 cn0 be0 H.size rf ss sp ig lo ac 1 (by omega)
        obtain ⟨v_13, ev_13⟩ : ∃ z, z = (tA sp ig 1) := ⟨_, rfl⟩
        rw [← ev_13] at hC
        have hsv_13_0 : (tA sp ig 1).2 ≤ sp + 1 := tA_le sp ig 1
        rw [← ev_13] at hsv_13_0
        have kev_13 : kEq v_13 (tA sp ig 1) := ev_13
        clear ev_13
        refine k_av (wr := [(sc0, .inl (g 0, 120, .inl sc)), (rd0, .inl (g 0, 748, .inl rw)), (cp0, .inl (g 0, 10, .inl cp)), (cn0, .inl (g 0, 10, .inl cn))]) (w2 := [(m0, .inr (8, [.int rf, .ref sc0, .int (nI ss), .int (nI v_13.2), .int v_13.1, .int lo, .ref rd0, .ref nw0, .ref tr0, .ref di0, .int (nI ac), .ref ke0, .ref ik0, .ref cp0, .ref cn0, .ref be0])), (sc0, .inl (g 0, 120, .inl sc)), (rd0, .inl (g 0, 748, .inl rw)), (cp0, .inl (g 0, 10, .inl cp)), (cn0, .inl (g 0, 10, .inl cn))]) (va_runV (As := [.int 1]) (rest := []) ⟨hx, hb, hml, hown, hts⟩ hC (cwV 1 hts gX8_readCommand_X8_accept rfl rfl rfl (by decide +kernel) (k_lvl (by omega) (by decide))) (kPV hP hD hK hS hA hE [0] rfl (by decide) 0 8 rfl rfl rfl) rfl rfl hl.1 rfl (lv_room (Nat.le_of_ble_eq_true rfl)) dX8_readCommand_46 ⟨Nat.le_of_ble_eq_true rfl, Nat.le_of_ble_eq_true rfl⟩) hP hD hS hA [0] [1, 2, 3, 4] [4, 0, 1, 2, 3] rfl rfl (by decide) (by decide) rfl (by decide) (fun H locs hP hD hS => ?_)
        refine lv_aload_n hx hb dX8_readCommand_49 rfl (lv_at hl 1 rfl) ?_
        refine va_get (D := D) (ci := 8) (v := .int v_13.1) (C := RX8) (T := TX8) (N := 16) hx hb hts (fun w h => (List.mem_cons_of_mem _ (List.mem_append_right _ h))) hown hK hP 0 rfl rfl 4 (by decide) (hts _ qX8_readCommand_2) (fun _ h9 => h9) rfl dX8_readCommand_50 ?_
        refine lv_if_ne (tgt := 57) hx hb dX8_readCommand_53 (by decide) (fun c_14 => ?_) (fun c_14 => ?_)
        · refine lv_iload_n hx hb dX8_readCommand_57 rfl (lv_at hl 0 rfl) ?_
          refine lv_bipush (v := 110) hx hb dX8_readCommand_58 (by decide) ?_
          refine lv_icmp_ne (tgt := 70) hx hb dX8_readCommand_60 (by decide) (fun _ => ?_) (fun c_15 => absurd c_15 c_1)
          refine lv_iload_n hx hb dX8_readCommand_70 rfl (lv_at hl 0 rfl) ?_
          refine lv_bipush (v := 115) hx hb dX8_readCommand_71 (by decide) ?_
          refine lv_icmp_ne (tgt := 83) hx hb dX8_readCommand_73 (by decide) (fun _ => ?_) (fun c_16 => absurd c_16 c_6)
          refine lv_iload_n hx hb dX8_readCommand_83 rfl (lv_at hl 0 rfl) ?_
          refine lv_bipush (v := 111) hx hb dX8_readCommand_84 (by decide) ?_
          refine lv_icmp_ne (tgt := 96) hx hb dX8_readCommand_86 (by decide) (fun c_17 => absurd c_12 c_17) (fun _ => ?_)
          refine lv_aload_n hx hb dX8_readCommand_89 rfl (lv_at hl 1 rfl) ?_
          have hC := c_X8_readOwnH l D g m0 sc0 rd0 nw0 tr0 di0 ke0 ik0 cp0 cn0 be0 H.size rf ss v_13.2 v_13.1 lo ac sc rw (by omega) (by omega)
          obtain ⟨v_18, ev_18⟩ : ∃ z, z = (h_X8_readOwn ss v_13.2 v_13.1 lo sc rw) := ⟨_, rfl⟩
          rw [← ev_18] at hC
          have kev_18 : kEq v_18 (h_X8_readOwn ss v_13.2 v_13.1 lo sc rw) := ev_18
          clear ev_18
          refine k_av (wr := [(cp0, .inl (g 0, 10, .inl cp)), (cn0, .inl (g 0, 10, .inl cn))]) (w2 := [(m0, .inr (8, [.int rf, .ref sc0, .int (nI ss), .int (nI v_18.2.1), .int v_18.1, .int v_18.2.2.1, .ref rd0, .ref nw0, .ref tr0, .ref di0, .int (nI ac), .ref ke0, .ref ik0, .ref cp0, .ref cn0, .ref be0])), (sc0, .inl (g 0, 120, .inl sc)), (rd0, .inl (g 0, 748, .inl v_18.2.2.2)), (cp0, .inl (g 0, 10, .inl cp)), (cn0, .inl (g 0, 10, .inl cn))]) (va_runV (As := []) (rest := []) ⟨hx, hb, hml, hown, hts⟩ hC (cwV 0 hts gX8_readCommand_X8_readOwn rfl rfl rfl (by decide +kernel) (k_lvl (by omega) (by decide))) (kPV hP hD hK hS hA hE [0, 1, 2] rfl (by decide) 0 8 rfl rfl rfl) rfl rfl hl.1 rfl (lv_room (Nat.le_of_ble_eq_true rfl)) dX8_readCommand_90 ⟨Nat.le_of_ble_eq_true rfl, Nat.le_of_ble_eq_true rfl⟩) hP hD hS hA [0, 1, 2] [3, 4] [2, 3, 4, 0, 1] rfl rfl (by decide) (by decide) rfl (by decide) (fun H locs hP hD hS => ?_)
          refine lv_goto (tgt := 113) hx hb dX8_readCommand_93 (by decide) ?_
          have ev_18 : (h_X8_readOwn ss v_13.2 v_13.1 lo sc rw) = v_18 := Eq.symm kev_18
          have ev_13 : (tA sp ig 1) = v_13 := Eq.symm kev_13
          have hE2 : (f_X8_readCommand ss sp ig lo sc rw cp cn mn) = (v_18.1, v_18.2.1, v_18.2.2.1, v_18.2.2.2, cp, cn) := by
            subst ev_18
            subst ev_13
            exact (if_neg c_1).trans ((if_neg c_6).trans ((if_pos c_12).trans ((if_neg c_14).trans (rfl))))
          subst hQ
          exact k_rv hx hb hr hlocks hP hD hS dX8_readCommand_113 (by rw [hE2])
        · have ev_13 : (tA sp ig 1) = v_13 := Eq.symm kev_13
          have hE2 : (f_X8_readCommand ss sp ig lo sc rw cp cn mn) = (v_13.1, v_13.2, lo, rw, cp, cn) := by
            subst ev_13
            exact (if_neg c_1).trans ((if_neg c_6).trans ((if_pos c_12).trans ((if_pos c_14).trans (rfl))))
          subst hQ
          exact k_rv hx hb hr hlocks hP hD hS dX8_readCommand_56 (by rw [hE2])
      · refine lv_iload_n hx hb dX8_readCommand_29 rfl (lv_at hl 0 rfl) ?_
        refine lv_bipush (v := 107) hx hb dX8_readCommand_30 (by decide) ?_
        refine lv_icmp_eq (tgt := 41) hx hb dX8_readCommand_32 (by decide) (fun c_19 => ?_) (fun c_19 => ?_)
        · refine lv_iconst (v := 1) hx hb dX8_readCommand_41 (by decide) ?_
          refine lv_goto (tgt := 46) hx hb dX8_readCommand_42 (by decide) ?_
          have hC := c_X8_acceptT l D g m0 sc0 rd0 nw0 tr0 di0 ke0 ik0 cp0 cn0 be0 H.size rf ss sp ig lo ac 1 (by omega)
          obtain ⟨v_20, ev_20⟩ : ∃ z, z = (tA sp ig 1) := ⟨_, rfl⟩
          rw [← ev_20] at hC
          have hsv_20_0 : (tA sp ig 1).2 ≤ sp + 1 := tA_le sp ig 1
          rw [← ev_20] at hsv_20_0
          have kev_20 : kEq v_20 (tA sp ig 1) := ev_20
          clear ev_20
          refine k_av (wr := [(sc0, .inl (g 0, 120, .inl sc)), (rd0, .inl (g 0, 748, .inl rw)), (cp0, .inl (g 0, 10, .inl cp)), (cn0, .inl (g 0, 10, .inl cn))]) (w2 := [(m0, .inr (8, [.int rf, .ref sc0, .int (nI ss), .int (nI v_20.2), .int v_20.1, .int lo, .ref rd0, .ref nw0, .ref tr0, .ref di0, .int (nI ac), .ref ke0, .ref ik0, .ref cp0, .ref cn0, .ref be0])), (sc0, .inl (g 0, 120, .inl sc)), (rd0, .inl (g 0, 748, .inl rw)), (cp0, .inl (g 0, 10, .inl cp)), (cn0, .inl (g 0, 10, .inl cn))]) (va_runV (As := [.int 1]) (rest := []) ⟨hx, hb, hml, hown, hts⟩ hC (cwV 1 hts gX8_readCommand_X8_accept rfl rfl rfl (by decide +kernel) (k_lvl (by omega) (by decide))) (kPV hP hD hK hS hA hE [0] rfl (by decide) 0 8 rfl rfl rfl) rfl rfl hl.1 rfl (lv_room (Nat.le_of_ble_eq_true rfl)) dX8_readCommand_46 ⟨Nat.le_of_ble_eq_true rfl, Nat.le_of_ble_eq_true rfl⟩) hP hD hS hA [0] [1, 2, 3, 4] [4, 0, 1, 2, 3] rfl rfl (by decide) (by decide) rfl (by decide) (fun H locs hP hD hS => ?_)
          refine lv_aload_n hx hb dX8_readCommand_49 rfl (lv_at hl 1 rfl) ?_
          refine va_get (D := D) (ci := 8) (v := .int v_20.1) (C := RX8) (T := TX8) (N := 16) hx hb hts (fun w h => (List.mem_cons_of_mem _ (List.mem_append_right _ h))) hown hK hP 0 rfl rfl 4 (by decide) (hts _ qX8_readCommand_2) (fun _ h9 => h9) rfl dX8_readCommand_50 ?_
          refine lv_if_ne (tgt := 57) hx hb dX8_readCommand_53 (by decide) (fun c_21 => ?_) (fun c_21 => ?_)
          · refine lv_iload_n hx hb dX8_readCommand_57 rfl (lv_at hl 0 rfl) ?_
            refine lv_bipush (v := 110) hx hb dX8_readCommand_58 (by decide) ?_
            refine lv_icmp_ne (tgt := 70) hx hb dX8_readCommand_60 (by decide) (fun _ => ?_) (fun c_22 => absurd c_22 c_1)
            refine lv_iload_n hx hb dX8_readCommand_70 rfl (lv_at hl 0 rfl) ?_
            refine lv_bipush (v := 115) hx hb dX8_readCommand_71 (by decide) ?_
            refine lv_icmp_ne (tgt := 83) hx hb dX8_readCommand_73 (by decide) (fun _ => ?_) (fun c_23 => absurd c_23 c_6)
            refine lv_iload_n hx hb dX8_readCommand_83 rfl (lv_at hl 0 rfl) ?_
            refine lv_bipush (v := 111) hx hb dX8_readCommand_84 (by decide) ?_
            refine lv_icmp_ne (tgt := 96) hx hb dX8_readCommand_86 (by decide) (fun _ => ?_) (fun c_24 => absurd c_24 c_12)
            refine lv_iload_n hx hb dX8_readCommand_96 rfl (lv_at hl 0 rfl) ?_
            refine lv_bipush (v := 107) hx hb dX8_readCommand_97 (by decide) ?_
            refine lv_icmp_ne (tgt := 109) hx hb dX8_readCommand_99 (by decide) (fun c_25 => absurd c_19 c_25) (fun _ => ?_)
            refine lv_aload_n hx hb dX8_readCommand_102 rfl (lv_at hl 1 rfl) ?_
            have hC := c_X8_readCallH l D g m0 sc0 rd0 nw0 tr0 di0 ke0 ik0 cp0 cn0 be0 H.size rf ss v_20.2 v_20.1 lo ac sc rw cp cn mn (by omega) (by omega) hmn hm9 hR
            obtain ⟨v_26, ev_26⟩ : ∃ z, z = (h_X8_readCall ss v_20.2 v_20.1 lo sc rw cp cn mn) := ⟨_, rfl⟩
            rw [← ev_26] at hC
            have kev_26 : kEq v_26 (h_X8_readCall ss v_20.2 v_20.1 lo sc rw cp cn mn) := ev_26
            clear ev_26
            refine k_av (wr := []) (w2 := [(m0, .inr (8, [.int rf, .ref sc0, .int (nI ss), .int (nI v_26.2.1), .int v_26.1, .int v_26.2.2.1, .ref rd0, .ref nw0, .ref tr0, .ref di0, .int (nI ac), .ref ke0, .ref ik0, .ref cp0, .ref cn0, .ref be0])), (sc0, .inl (g 0, 120, .inl sc)), (rd0, .inl (g 0, 748, .inl v_26.2.2.2.1)), (cp0, .inl (g 0, 10, .inl v_26.2.2.2.2.1)), (cn0, .inl (g 0, 10, .inl v_26.2.2.2.2.2))]) (va_runV (As := []) (rest := []) ⟨hx, hb, hml, hown, hts⟩ hC (cwV 0 hts gX8_readCommand_X8_readCall rfl rfl rfl (by decide +kernel) (k_lvl (by omega) (by decide))) (kPV hP hD hK hS hA hE [0, 1, 2, 3, 4] rfl (by decide) 0 8 rfl rfl rfl) rfl rfl hl.1 rfl (lv_room (Nat.le_of_ble_eq_true rfl)) dX8_readCommand_103 ⟨Nat.le_of_ble_eq_true rfl, Nat.le_of_ble_eq_true rfl⟩) hP hD hS hA [0, 1, 2, 3, 4] [] [0, 1, 2, 3, 4] rfl rfl (by decide) (by decide) rfl (by decide) (fun H locs hP hD hS => ?_)
            refine lv_goto (tgt := 113) hx hb dX8_readCommand_106 (by decide) ?_
            have ev_26 : (h_X8_readCall ss v_20.2 v_20.1 lo sc rw cp cn mn) = v_26 := Eq.symm kev_26
            have ev_20 : (tA sp ig 1) = v_20 := Eq.symm kev_20
            have hE2 : (f_X8_readCommand ss sp ig lo sc rw cp cn mn) = (v_26.1, v_26.2.1, v_26.2.2.1, v_26.2.2.2.1, v_26.2.2.2.2.1, v_26.2.2.2.2.2) := by
              subst ev_26
              subst ev_20
              exact (if_neg c_1).trans ((if_neg c_6).trans ((if_neg c_12).trans ((if_pos c_19).trans ((if_neg c_21).trans (rfl)))))
            subst hQ
            exact k_rv hx hb hr hlocks hP hD hS dX8_readCommand_113 (by rw [hE2])
          · have ev_20 : (tA sp ig 1) = v_20 := Eq.symm kev_20
            have hE2 : (f_X8_readCommand ss sp ig lo sc rw cp cn mn) = (v_20.1, v_20.2, lo, rw, cp, cn) := by
              subst ev_20
              exact (if_neg c_1).trans ((if_neg c_6).trans ((if_neg c_12).trans ((if_pos c_19).trans ((if_pos c_21).trans (rfl)))))
            subst hQ
            exact k_rv hx hb hr hlocks hP hD hS dX8_readCommand_56 (by rw [hE2])
        · refine lv_iload_n hx hb dX8_readCommand_35 rfl (lv_at hl 0 rfl) ?_
          refine lv_bipush (v := 120) hx hb dX8_readCommand_36 (by decide) ?_
          refine lv_icmp_ne (tgt := 45) hx hb dX8_readCommand_38 (by decide) (fun c_27 => ?_) (fun c_27 => ?_)
          · refine lv_iconst (v := 0) hx hb dX8_readCommand_45 (by decide) ?_
            have hC := c_X8_acceptT l D g m0 sc0 rd0 nw0 tr0 di0 ke0 ik0 cp0 cn0 be0 H.size rf ss sp ig lo ac 0 (by omega)
            obtain ⟨v_28, ev_28⟩ : ∃ z, z = (tA sp ig 0) := ⟨_, rfl⟩
            rw [← ev_28] at hC
            have hsv_28_0 : (tA sp ig 0).2 ≤ sp + 1 := tA_le sp ig 0
            rw [← ev_28] at hsv_28_0
            have kev_28 : kEq v_28 (tA sp ig 0) := ev_28
            clear ev_28
            refine k_av (wr := [(sc0, .inl (g 0, 120, .inl sc)), (rd0, .inl (g 0, 748, .inl rw)), (cp0, .inl (g 0, 10, .inl cp)), (cn0, .inl (g 0, 10, .inl cn))]) (w2 := [(m0, .inr (8, [.int rf, .ref sc0, .int (nI ss), .int (nI v_28.2), .int v_28.1, .int lo, .ref rd0, .ref nw0, .ref tr0, .ref di0, .int (nI ac), .ref ke0, .ref ik0, .ref cp0, .ref cn0, .ref be0])), (sc0, .inl (g 0, 120, .inl sc)), (rd0, .inl (g 0, 748, .inl rw)), (cp0, .inl (g 0, 10, .inl cp)), (cn0, .inl (g 0, 10, .inl cn))]) (va_runV (As := [.int 0]) (rest := []) ⟨hx, hb, hml, hown, hts⟩ hC (cwV 1 hts gX8_readCommand_X8_accept rfl rfl rfl (by decide +kernel) (k_lvl (by omega) (by decide))) (kPV hP hD hK hS hA hE [0] rfl (by decide) 0 8 rfl rfl rfl) rfl rfl hl.1 rfl (lv_room (Nat.le_of_ble_eq_true rfl)) dX8_readCommand_46 ⟨Nat.le_of_ble_eq_true rfl, Nat.le_of_ble_eq_true rfl⟩) hP hD hS hA [0] [1, 2, 3, 4] [4, 0, 1, 2, 3] rfl rfl (by decide) (by decide) rfl (by decide) (fun H locs hP hD hS => ?_)
            refine lv_aload_n hx hb dX8_readCommand_49 rfl (lv_at hl 1 rfl) ?_
            refine va_get (D := D) (ci := 8) (v := .int v_28.1) (C := RX8) (T := TX8) (N := 16) hx hb hts (fun w h => (List.mem_cons_of_mem _ (List.mem_append_right _ h))) hown hK hP 0 rfl rfl 4 (by decide) (hts _ qX8_readCommand_2) (fun _ h9 => h9) rfl dX8_readCommand_50 ?_
            refine lv_if_ne (tgt := 57) hx hb dX8_readCommand_53 (by decide) (fun c_29 => ?_) (fun c_29 => ?_)
            · refine lv_iload_n hx hb dX8_readCommand_57 rfl (lv_at hl 0 rfl) ?_
              refine lv_bipush (v := 110) hx hb dX8_readCommand_58 (by decide) ?_
              refine lv_icmp_ne (tgt := 70) hx hb dX8_readCommand_60 (by decide) (fun _ => ?_) (fun c_30 => absurd c_30 c_1)
              refine lv_iload_n hx hb dX8_readCommand_70 rfl (lv_at hl 0 rfl) ?_
              refine lv_bipush (v := 115) hx hb dX8_readCommand_71 (by decide) ?_
              refine lv_icmp_ne (tgt := 83) hx hb dX8_readCommand_73 (by decide) (fun _ => ?_) (fun c_31 => absurd c_31 c_6)
              refine lv_iload_n hx hb dX8_readCommand_83 rfl (lv_at hl 0 rfl) ?_
              refine lv_bipush (v := 111) hx hb dX8_readCommand_84 (by decide) ?_
              refine lv_icmp_ne (tgt := 96) hx hb dX8_readCommand_86 (by decide) (fun _ => ?_) (fun c_32 => absurd c_32 c_12)
              refine lv_iload_n hx hb dX8_readCommand_96 rfl (lv_at hl 0 rfl) ?_
              refine lv_bipush (v := 107) hx hb dX8_readCommand_97 (by decide) ?_
              refine lv_icmp_ne (tgt := 109) hx hb dX8_readCommand_99 (by decide) (fun _ => ?_) (fun c_33 => absurd c_33 c_19)
              refine lv_aload_n hx hb dX8_readCommand_109 rfl (lv_at hl 1 rfl) ?_
              have hC := c_X8_readDropH l D g m0 sc0 rd0 nw0 tr0 di0 ke0 ik0 cp0 cn0 be0 H.size rf ss v_28.2 v_28.1 lo ac sc rw (by omega) (by omega)
              obtain ⟨v_34, ev_34⟩ : ∃ z, z = (h_X8_readDrop ss v_28.2 v_28.1 lo sc rw) := ⟨_, rfl⟩
              rw [← ev_34] at hC
              have kev_34 : kEq v_34 (h_X8_readDrop ss v_28.2 v_28.1 lo sc rw) := ev_34
              clear ev_34
              refine k_av (wr := [(cp0, .inl (g 0, 10, .inl cp)), (cn0, .inl (g 0, 10, .inl cn))]) (w2 := [(m0, .inr (8, [.int rf, .ref sc0, .int (nI ss), .int (nI v_34.2.1), .int v_34.1, .int v_34.2.2.1, .ref rd0, .ref nw0, .ref tr0, .ref di0, .int (nI ac), .ref ke0, .ref ik0, .ref cp0, .ref cn0, .ref be0])), (sc0, .inl (g 0, 120, .inl sc)), (rd0, .inl (g 0, 748, .inl v_34.2.2.2)), (cp0, .inl (g 0, 10, .inl cp)), (cn0, .inl (g 0, 10, .inl cn))]) (va_runV (As := []) (rest := []) ⟨hx, hb, hml, hown, hts⟩ hC (cwV 0 hts gX8_readCommand_X8_readDrop rfl rfl rfl (by decide +kernel) (k_lvl (by omega) (by decide))) (kPV hP hD hK hS hA hE [0, 1, 2] rfl (by decide) 0 8 rfl rfl rfl) rfl rfl hl.1 rfl (lv_room (Nat.le_of_ble_eq_true rfl)) dX8_readCommand_110 ⟨Nat.le_of_ble_eq_true rfl, Nat.le_of_ble_eq_true rfl⟩) hP hD hS hA [0, 1, 2] [3, 4] [2, 3, 4, 0, 1] rfl rfl (by decide) (by decide) rfl (by decide) (fun H locs hP hD hS => ?_)
              have ev_34 : (h_X8_readDrop ss v_28.2 v_28.1 lo sc rw) = v_34 := Eq.symm kev_34
              have ev_28 : (tA sp ig 0) = v_28 := Eq.symm kev_28
              have hE2 : (f_X8_readCommand ss sp ig lo sc rw cp cn mn) = (v_34.1, v_34.2.1, v_34.2.2.1, v_34.2.2.2, cp, cn) := by
                subst ev_34
                subst ev_28
                exact (if_neg c_1).trans ((if_neg c_6).trans ((if_neg c_12).trans ((if_neg c_19).trans ((if_neg c_27).trans ((if_neg c_29).trans (rfl))))))
              subst hQ
              exact k_rv hx hb hr hlocks hP hD hS dX8_readCommand_113 (by rw [hE2])
            · have ev_28 : (tA sp ig 0) = v_28 := Eq.symm kev_28
              have hE2 : (f_X8_readCommand ss sp ig lo sc rw cp cn mn) = (v_28.1, v_28.2, lo, rw, cp, cn) := by
                subst ev_28
                exact (if_neg c_1).trans ((if_neg c_6).trans ((if_neg c_12).trans ((if_neg c_19).trans ((if_neg c_27).trans ((if_pos c_29).trans (rfl))))))
              subst hQ
              exact k_rv hx hb hr hlocks hP hD hS dX8_readCommand_56 (by rw [hE2])
          · refine lv_iconst (v := 1) hx hb dX8_readCommand_41 (by decide) ?_
            refine lv_goto (tgt := 46) hx hb dX8_readCommand_42 (by decide) ?_
            have hC := c_X8_acceptT l D g m0 sc0 rd0 nw0 tr0 di0 ke0 ik0 cp0 cn0 be0 H.size rf ss sp ig lo ac 1 (by omega)
            obtain ⟨v_35, ev_35⟩ : ∃ z, z = (tA sp ig 1) := ⟨_, rfl⟩
            rw [← ev_35] at hC
            have hsv_35_0 : (tA sp ig 1).2 ≤ sp + 1 := tA_le sp ig 1
            rw [← ev_35] at hsv_35_0
            have kev_35 : kEq v_35 (tA sp ig 1) := ev_35
            clear ev_35
            refine k_av (wr := [(sc0, .inl (g 0, 120, .inl sc)), (rd0, .inl (g 0, 748, .inl rw)), (cp0, .inl (g 0, 10, .inl cp)), (cn0, .inl (g 0, 10, .inl cn))]) (w2 := [(m0, .inr (8, [.int rf, .ref sc0, .int (nI ss), .int (nI v_35.2), .int v_35.1, .int lo, .ref rd0, .ref nw0, .ref tr0, .ref di0, .int (nI ac), .ref ke0, .ref ik0, .ref cp0, .ref cn0, .ref be0])), (sc0, .inl (g 0, 120, .inl sc)), (rd0, .inl (g 0, 748, .inl rw)), (cp0, .inl (g 0, 10, .inl cp)), (cn0, .inl (g 0, 10, .inl cn))]) (va_runV (As := [.int 1]) (rest := []) ⟨hx, hb, hml, hown, hts⟩ hC (cwV 1 hts gX8_readCommand_X8_accept rfl rfl rfl (by decide +kernel) (k_lvl (by omega) (by decide))) (kPV hP hD hK hS hA hE [0] rfl (by decide) 0 8 rfl rfl rfl) rfl rfl hl.1 rfl (lv_room (Nat.le_of_ble_eq_true rfl)) dX8_readCommand_46 ⟨Nat.le_of_ble_eq_true rfl, Nat.le_of_ble_eq_true rfl⟩) hP hD hS hA [0] [1, 2, 3, 4] [4, 0, 1, 2, 3] rfl rfl (by decide) (by decide) rfl (by decide) (fun H locs hP hD hS => ?_)
            refine lv_aload_n hx hb dX8_readCommand_49 rfl (lv_at hl 1 rfl) ?_
            refine va_get (D := D) (ci := 8) (v := .int v_35.1) (C := RX8) (T := TX8) (N := 16) hx hb hts (fun w h => (List.mem_cons_of_mem _ (List.mem_append_right _ h))) hown hK hP 0 rfl rfl 4 (by decide) (hts _ qX8_readCommand_2) (fun _ h9 => h9) rfl dX8_readCommand_50 ?_
            refine lv_if_ne (tgt := 57) hx hb dX8_readCommand_53 (by decide) (fun c_36 => ?_) (fun c_36 => ?_)
            · refine lv_iload_n hx hb dX8_readCommand_57 rfl (lv_at hl 0 rfl) ?_
              refine lv_bipush (v := 110) hx hb dX8_readCommand_58 (by decide) ?_
              refine lv_icmp_ne (tgt := 70) hx hb dX8_readCommand_60 (by decide) (fun _ => ?_) (fun c_37 => absurd c_37 c_1)
              refine lv_iload_n hx hb dX8_readCommand_70 rfl (lv_at hl 0 rfl) ?_
              refine lv_bipush (v := 115) hx hb dX8_readCommand_71 (by decide) ?_
              refine lv_icmp_ne (tgt := 83) hx hb dX8_readCommand_73 (by decide) (fun _ => ?_) (fun c_38 => absurd c_38 c_6)
              refine lv_iload_n hx hb dX8_readCommand_83 rfl (lv_at hl 0 rfl) ?_
              refine lv_bipush (v := 111) hx hb dX8_readCommand_84 (by decide) ?_
              refine lv_icmp_ne (tgt := 96) hx hb dX8_readCommand_86 (by decide) (fun _ => ?_) (fun c_39 => absurd c_39 c_12)
              refine lv_iload_n hx hb dX8_readCommand_96 rfl (lv_at hl 0 rfl) ?_
              refine lv_bipush (v := 107) hx hb dX8_readCommand_97 (by decide) ?_
              refine lv_icmp_ne (tgt := 109) hx hb dX8_readCommand_99 (by decide) (fun _ => ?_) (fun c_40 => absurd c_40 c_19)
              refine lv_aload_n hx hb dX8_readCommand_109 rfl (lv_at hl 1 rfl) ?_
              have hC := c_X8_readDropH l D g m0 sc0 rd0 nw0 tr0 di0 ke0 ik0 cp0 cn0 be0 H.size rf ss v_35.2 v_35.1 lo ac sc rw (by omega) (by omega)
              obtain ⟨v_41, ev_41⟩ : ∃ z, z = (h_X8_readDrop ss v_35.2 v_35.1 lo sc rw) := ⟨_, rfl⟩
              rw [← ev_41] at hC
              have kev_41 : kEq v_41 (h_X8_readDrop ss v_35.2 v_35.1 lo sc rw) := ev_41
              clear ev_41
              refine k_av (wr := [(cp0, .inl (g 0, 10, .inl cp)), (cn0, .inl (g 0, 10, .inl cn))]) (w2 := [(m0, .inr (8, [.int rf, .ref sc0, .int (nI ss), .int (nI v_41.2.1), .int v_41.1, .int v_41.2.2.1, .ref rd0, .ref nw0, .ref tr0, .ref di0, .int (nI ac), .ref ke0, .ref ik0, .ref cp0, .ref cn0, .ref be0])), (sc0, .inl (g 0, 120, .inl sc)), (rd0, .inl (g 0, 748, .inl v_41.2.2.2)), (cp0, .inl (g 0, 10, .inl cp)), (cn0, .inl (g 0, 10, .inl cn))]) (va_runV (As := []) (rest := []) ⟨hx, hb, hml, hown, hts⟩ hC (cwV 0 hts gX8_readCommand_X8_readDrop rfl rfl rfl (by decide +kernel) (k_lvl (by omega) (by decide))) (kPV hP hD hK hS hA hE [0, 1, 2] rfl (by decide) 0 8 rfl rfl rfl) rfl rfl hl.1 rfl (lv_room (Nat.le_of_ble_eq_true rfl)) dX8_readCommand_110 ⟨Nat.le_of_ble_eq_true rfl, Nat.le_of_ble_eq_true rfl⟩) hP hD hS hA [0, 1, 2] [3, 4] [2, 3, 4, 0, 1] rfl rfl (by decide) (by decide) rfl (by decide) (fun H locs hP hD hS => ?_)
              have ev_41 : (h_X8_readDrop ss v_35.2 v_35.1 lo sc rw) = v_41 := Eq.symm kev_41
              have ev_35 : (tA sp ig 1) = v_35 := Eq.symm kev_35
              have hE2 : (f_X8_readCommand ss sp ig lo sc rw cp cn mn) = (v_41.1, v_41.2.1, v_41.2.2.1, v_41.2.2.2, cp, cn) := by
                subst ev_41
                subst ev_35
                exact (if_neg c_1).trans ((if_neg c_6).trans ((if_neg c_12).trans ((if_neg c_19).trans ((if_pos c_27).trans ((if_neg c_36).trans (rfl))))))
              subst hQ
              exact k_rv hx hb hr hlocks hP hD hS dX8_readCommand_113 (by rw [hE2])
            · have ev_35 : (tA sp ig 1) = v_35 := Eq.symm kev_35
              have hE2 : (f_X8_readCommand ss sp ig lo sc rw cp cn mn) = (v_35.1, v_35.2, lo, rw, cp, cn) := by
                subst ev_35
                exact (if_neg c_1).trans ((if_neg c_6).trans ((if_neg c_12).trans ((if_neg c_19).trans ((if_pos c_27).trans ((if_pos c_36).trans (rfl))))))
              subst hQ
              exact k_rv hx hb hr hlocks hP hD hS dX8_readCommand_56 (by rw [hE2])
def h_X8_readCommand := hid f_X8_readCommand
theorem h_X8_readCommand_eq : h_X8_readCommand = f_X8_readCommand := hid_eq _
theorem c_X8_readCommandH (l : Launch) (D : va_G) (g : Nat → Nat) (m0 sc0 rd0 nw0 tr0 di0 ke0 ik0 cp0 cn0 be0 : Nat) (sz : Nat) (rf : Int32) (ss : Nat) (sp : Nat) (ig : Int32) (lo : Int32) (ac : Nat) (sc : Nat → Int32) (rw : Nat → Int32) (cp : Nat → Int32) (cn : Nat → Int32) (mn : Nat) (hss : ss ≤ 120) (hsp : sp < ss) (hmn : rw 0 = nI mn) (hm9 : mn ≤ 10) (hR : rNx rw) : kMv l D g yX8_readCommand wsX8_readCommand 7 0 0 [.ref m0] [(m0, .inr (8, [.int rf, .ref sc0, .int (nI ss), .int (nI sp), .int ig, .int lo, .ref rd0, .ref nw0, .ref tr0, .ref di0, .int (nI ac), .ref ke0, .ref ik0, .ref cp0, .ref cn0, .ref be0])), (sc0, .inl (g 0, 120, .inl sc)), (rd0, .inl (g 0, 748, .inl rw)), (cp0, .inl (g 0, 10, .inl cp)), (cn0, .inl (g 0, 10, .inl cn))] sz [(m0, .inr (8, [.int rf, .ref sc0, .int (nI ss), .int (nI ((h_X8_readCommand ss sp ig lo sc rw cp cn mn).2.1)), .int ((h_X8_readCommand ss sp ig lo sc rw cp cn mn).1), .int ((h_X8_readCommand ss sp ig lo sc rw cp cn mn).2.2.1), .ref rd0, .ref nw0, .ref tr0, .ref di0, .int (nI ac), .ref ke0, .ref ik0, .ref cp0, .ref cn0, .ref be0])), (sc0, .inl (g 0, 120, .inl sc)), (rd0, .inl (g 0, 748, .inl ((h_X8_readCommand ss sp ig lo sc rw cp cn mn).2.2.2.1))), (cp0, .inl (g 0, 10, .inl ((h_X8_readCommand ss sp ig lo sc rw cp cn mn).2.2.2.2.1))), (cn0, .inl (g 0, 10, .inl ((h_X8_readCommand ss sp ig lo sc rw cp cn mn).2.2.2.2.2)))] := by
  rw [h_X8_readCommand_eq]
  exact c_X8_readCommand l D g m0 sc0 rd0 nw0 tr0 di0 ke0 ik0 cp0 cn0 be0 sz rf ss sp ig lo ac sc rw cp cn mn hss hsp hmn hm9 hR
end
