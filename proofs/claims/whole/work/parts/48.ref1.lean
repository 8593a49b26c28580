-- MODULE: the reference, its methods, 1
noncomputable section
theorem in_nar (v a b : Int64) : narrow .boolean (.int (f_X8_in v a b)) = .int (f_X8_in v a b) := by
  unfold f_X8_in
  repeat' split
  all_goals rfl
theorem c_X8_refused0 (l : Launch) (D : va_G) (g : Nat → Nat) (m0 sc0 rd0 nw0 tr0 di0 ke0 ik0 cp0 cn0 be0 : Nat) (sz : Nat) (rf : Int32) (ss : Nat) (sp : Nat) (ig : Int32) (lo : Int32) (ac : Nat) : kMi l D g yX8_refused wsX8_refused 1 0 0 [.ref m0, .int 0] [(m0, .inr (8, [.int rf, .ref sc0, .int (nI ss), .int (nI sp), .int ig, .int lo, .ref rd0, .ref nw0, .ref tr0, .ref di0, .int (nI ac), .ref ke0, .ref ik0, .ref cp0, .ref cn0, .ref be0]))] sz 0 [(m0, .inr (8, [.int 0, .ref sc0, .int (nI ss), .int (nI sp), .int ig, .int lo, .ref rd0, .ref nw0, .ref tr0, .ref di0, .int (nI ac), .ref ke0, .ref ik0, .ref cp0, .ref cn0, .ref be0]))] := by
  have h := c_X8_refused l D g m0 sc0 rd0 nw0 tr0 di0 ke0 ik0 cp0 cn0 be0 sz rf ss sp ig lo ac 0
  rw [show f_X8_refused 0 = (0, 0) by decide] at h
  exact h
theorem c_X8_refused1 (l : Launch) (D : va_G) (g : Nat → Nat) (m0 sc0 rd0 nw0 tr0 di0 ke0 ik0 cp0 cn0 be0 : Nat) (sz : Nat) (rf : Int32) (ss : Nat) (sp : Nat) (ig : Int32) (lo : Int32) (ac : Nat) : kMi l D g yX8_refused wsX8_refused 1 0 0 [.ref m0, .int 1] [(m0, .inr (8, [.int rf, .ref sc0, .int (nI ss), .int (nI sp), .int ig, .int lo, .ref rd0, .ref nw0, .ref tr0, .ref di0, .int (nI ac), .ref ke0, .ref ik0, .ref cp0, .ref cn0, .ref be0]))] sz 1 [(m0, .inr (8, [.int 1, .ref sc0, .int (nI ss), .int (nI sp), .int ig, .int lo, .ref rd0, .ref nw0, .ref tr0, .ref di0, .int (nI ac), .ref ke0, .ref ik0, .ref cp0, .ref cn0, .ref be0]))] := by
  have h := c_X8_refused l D g m0 sc0 rd0 nw0 tr0 di0 ke0 ik0 cp0 cn0 be0 sz rf ss sp ig lo ac 1
  rw [show f_X8_refused 1 = (1, 1) by decide] at h
  exact h
theorem c_X8_refused2 (l : Launch) (D : va_G) (g : Nat → Nat) (m0 sc0 rd0 nw0 tr0 di0 ke0 ik0 cp0 cn0 be0 : Nat) (sz : Nat) (rf : Int32) (ss : Nat) (sp : Nat) (ig : Int32) (lo : Int32) (ac : Nat) : kMi l D g yX8_refused wsX8_refused 1 0 0 [.ref m0, .int 2] [(m0, .inr (8, [.int rf, .ref sc0, .int (nI ss), .int (nI sp), .int ig, .int lo, .ref rd0, .ref nw0, .ref tr0, .ref di0, .int (nI ac), .ref ke0, .ref ik0, .ref cp0, .ref cn0, .ref be0]))] sz 1 [(m0, .inr (8, [.int 2, .ref sc0, .int (nI ss), .int (nI sp), .int ig, .int lo, .ref rd0, .ref nw0, .ref tr0, .ref di0, .int (nI ac), .ref ke0, .ref ik0, .ref cp0, .ref cn0, .ref be0]))] := by
  have h := c_X8_refused l D g m0 sc0 rd0 nw0 tr0 di0 ke0 ik0 cp0 cn0 be0 sz rf ss sp ig lo ac 2
  rw [show f_X8_refused 2 = (1, 2) by decide] at h
  exact h
theorem c_X8_copyF (l : Launch) (D : va_G) (g : Nat → Nat) (f0 t0 : Nat) (sz : Nat) (ff : Nat → Int32) (tf : Nat → Int32) (nF : Nat) (h3 : nF < 2 ^ 30) : kMv l D g yX8_copy wsX8_copy 1 0 0 [.ref f0, .int 0, .ref t0, .int 0, .int (nI nF)] [(f0, .inl (g 0, nF, .inl ff)), (t0, .inl (g 0, nF, .inl tf))] sz [(f0, .inl (g 0, nF, .inl ff)), (t0, .inl (g 0, nF, .inl ff))] :=
  k_post_v (c_X8_copy l D g f0 t0 sz ff tf 0 0 nF nF nF (by omega) (by omega) h3 h3) (fun A H hP hD => k_full (q0 := 1) hP hD rfl)
/-- what append answers before it does anything: 0, or which of its exceptions is thrown -/
def kc_X8_append (ss : Nat) (c9 : Int32) : Int32 :=
  if (f_X8_in (Int32.toInt64 c9) 0 255) = 0 then
    1
  else
    if ss = 120 then
      2
    else
      0
def f_X8_append (ss : Nat) (sc : Nat → Int32) (c9 : Int32) : Nat × Nat × (Nat → Int32) :=
  ((ss + 1), (ss + 1), (upd sc ss c9))
theorem qX8_append_0 : Cond.constantLong RX8 103 (255) ∈ wsX8_append := (List.mem_cons_of_mem _ (List.mem_append_left _ (List.mem_of_getElem? (i := 0) rfl)))
theorem qX8_append_1 : Cond.fieldLink RX8 105 "BlameChainsModel" "scriptSize" "I" ∈ wsX8_append := (List.mem_cons_of_mem _ (List.mem_append_left _ (List.mem_of_getElem? (i := 1) rfl)))
theorem qX8_append_2 : Cond.fieldLink RX8 7 "BlameChainsModel" "script" "[I" ∈ wsX8_append := (List.mem_cons_of_mem _ (List.mem_append_left _ (List.mem_of_getElem? (i := 2) rfl)))
set_option maxHeartbeats 4000000 in
set_option maxRecDepth 100000 in
theorem c_X8_append (l : Launch) (D : va_G) (g : Nat → Nat) (m0 sc0 rd0 nw0 tr0 di0 ke0 ik0 cp0 cn0 be0 : Nat) (sz : Nat) (rf : Int32) (ss : Nat) (sp : Nat) (ig : Int32) (lo : Int32) (ac : Nat) (sc : Nat → Int32) (c9 : Int32) (hss : ss ≤ 120) (hk : (kc_X8_append ss c9) = 0) : kMi l D g yX8_append wsX8_append 2 0 0 [.ref m0, .int c9] [(m0, .inr (8, [.int rf, .ref sc0, .int (nI ss), .int (nI sp), .int ig, .int lo, .ref rd0, .ref nw0, .ref tr0, .ref di0, .int (nI ac), .ref ke0, .ref ik0, .ref cp0, .ref cn0, .ref be0])), (sc0, .inl (g 0, 120, .inl sc))] sz (nI ((f_X8_append ss sc c9).1)) [(m0, .inr (8, [.int 0, .ref sc0, .int (nI ((f_X8_append ss sc c9).2.1)), .int (nI sp), .int ig, .int lo, .ref rd0, .ref nw0, .ref tr0, .ref di0, .int (nI ac), .ref ke0, .ref ik0, .ref cp0, .ref cn0, .ref be0])), (sc0, .inl (g 0, 120, .inl ((f_X8_append ss sc c9).2.2)))] := by
  refine k_enter (nm := "append") (own := RX8) (bytes := cX8_append) (maxL := 2) (ret := (some .int)) (Qf := fun A => kQi D [(m0, .inr (8, [.int 0, .ref sc0, .int (nI ((f_X8_append ss sc c9).2.1)), .int (nI sp), .int ig, .int lo, .ref rd0, .ref nw0, .ref tr0, .ref di0, .int (nI ac), .ref ke0, .ref ik0, .ref cp0, .ref cn0, .ref be0])), (sc0, .inl (g 0, 120, .inl ((f_X8_append ss sc c9).2.2)))] A (nI ((f_X8_append ss sc c9).1))) (by decide) rfl rfl rfl (Nat.le_of_ble_eq_true rfl) ?_
  rintro pp ee s mm below meth cc A ls args Q H locs hQ ⟨hx, hb, hr, hml, hown, hts, hlocks, hin⟩ hP hK hD hA hS hE hl
  have hl : lv_has ls 2 [(0, .ref m0), (1, .int c9)] := hl
  refine lv_aload_n hx hb dX8_append_0 rfl (lv_at hl 0 rfl) ?_
  refine lv_iload_n hx hb dX8_append_1 rfl (lv_at hl 1 rfl) ?_
  refine lv_i2l (v := (Int32.toInt64 c9)) hx hb dX8_append_2 rfl ?_
  refine lv_lconst (v := 0) hx hb dX8_append_3 (by decide) ?_
  refine lv_ldc2 hx hb hown (hts _ qX8_append_0) dX8_append_4 ?_
  refine k_ai (wr := [(m0, .inr (8, [.int rf, .ref sc0, .int (nI ss), .int (nI sp), .int ig, .int lo, .ref rd0, .ref nw0, .ref tr0, .ref di0, .int (nI ac), .ref ke0, .ref ik0, .ref cp0, .ref cn0, .ref be0])), (sc0, .inl (g 0, 120, .inl sc))]) (w2 := [(m0, .inr (8, [.int rf, .ref sc0, .int (nI ss), .int (nI sp), .int ig, .int lo, .ref rd0, .ref nw0, .ref tr0, .ref di0, .int (nI ac), .ref ke0, .ref ik0, .ref cp0, .ref cn0, .ref be0])), (sc0, .inl (g 0, 120, .inl sc))]) (va_runS (As := [.long (Int32.toInt64 c9), .long 0, .long 255]) (rest := [.ref m0]) ⟨hx, hb, hml, hown, hts⟩ (c_X8_in l D g H.size (Int32.toInt64 c9) 0 255) (va_cwS 3 hts gX8_append_X8_in rfl rfl rfl (by decide +kernel) (k_lvl (by omega) (by decide))) (kPS hP hD hK hS hA hE [] rfl (by decide)) rfl rfl hl.1 rfl (lv_room (Nat.le_of_ble_eq_true rfl)) dX8_append_7 ⟨Nat.le_of_ble_eq_true rfl, Nat.le_of_ble_eq_true rfl⟩) hP hD hS hA [] [0, 1] [0, 1] rfl rfl (by decide) (by decide) rfl (by decide) (fun H locs hP hD hS => ?_)
  refine lv_if_ne (tgt := 17) hx hb dX8_append_10 (by decide) (fun c_1 => ?_) (fun c_1 => ?_)
  · refine lv_aload_n hx hb dX8_append_17 rfl (lv_at hl 0 rfl) ?_
    refine va_get (D := D) (ci := 8) (v := .int (nI ss)) (C := RX8) (T := TX8) (N := 16) hx hb hts (fun w h => (List.mem_cons_of_mem _ (List.mem_append_right _ h))) hown hK hP 0 rfl rfl 2 (by decide) (hts _ qX8_append_1) (fun _ h9 => h9) rfl dX8_append_18 ?_
    refine lv_bipush (v := 120) hx hb dX8_append_21 (by decide) ?_
    refine lv_icmp_ne (tgt := 30) hx hb dX8_append_23 (by decide) (fun c_2 => ?_) (fun c_2 => ?_)
    · have c_2 : ¬ (ss = 120) := fun h9 => c_2 ((nI_eq (a := ss) (b := 120) (by omega) (by omega)).mpr h9)
      refine lv_iconst (v := 0) hx hb dX8_append_30 (by decide) ?_
      refine k_ai (wr := [(sc0, .inl (g 0, 120, .inl sc))]) (w2 := [(m0, .inr (8, [.int 0, .ref sc0, .int (nI ss), .int (nI sp), .int ig, .int lo, .ref rd0, .ref nw0, .ref tr0, .ref di0, .int (nI ac), .ref ke0, .ref ik0, .ref cp0, .ref cn0, .ref be0])), (sc0, .inl (g 0, 120, .inl sc))]) (va_runV (As := [.int 0]) (rest := []) ⟨hx, hb, hml, hown, hts⟩ (c_X8_refused0 l D g m0 sc0 rd0 nw0 tr0 di0 ke0 ik0 cp0 cn0 be0 H.size rf ss sp ig lo ac) (cwV 1 hts gX8_append_X8_refused rfl rfl rfl (by decide +kernel) (k_lvl (by omega) (by decide))) (kPV hP hD hK hS hA hE [0] rfl (by decide) 0 8 rfl rfl rfl) rfl rfl hl.1 rfl (lv_room (Nat.le_of_ble_eq_true rfl)) dX8_append_31 ⟨Nat.le_of_ble_eq_true rfl, Nat.le_of_ble_eq_true rfl⟩) hP hD hS hA [0] [1] [1, 0] rfl rfl (by decide) (by decide) rfl (by decide) (fun H locs hP hD hS => ?_)
      refine lv_if_eq (tgt := 39) hx hb dX8_append_34 (by decide) (fun _ => ?_) (fun c_3 => absurd c_3 (by decide))
      refine lv_aload_n hx hb dX8_append_39 rfl (lv_at hl 0 rfl) ?_
      refine va_get (D := D) (ci := 8) (v := .ref sc0) (C := RX8) (T := TX8) (N := 16) hx hb hts (fun w h => (List.mem_cons_of_mem _ (List.mem_append_right _ h))) hown hK hP 0 rfl rfl 1 (by decide) (hts _ qX8_append_2) (fun _ h9 => h9) rfl dX8_append_40 ?_
      refine lv_aload_n hx hb dX8_append_43 rfl (lv_at hl 0 rfl) ?_
      refine va_get (D := D) (ci := 8) (v := .int (nI ss)) (C := RX8) (T := TX8) (N := 16) hx hb hts (fun w h => (List.mem_cons_of_mem _ (List.mem_append_right _ h))) hown hK hP 0 rfl rfl 2 (by decide) (hts _ qX8_append_1) (fun _ h9 => h9) rfl dX8_append_44 ?_
      refine lv_iload_n hx hb dX8_append_47 rfl (lv_at hl 1 rfl) ?_
      refine va_iast (i := (nI ss)) (x := c9) hx hb hK hP hD hS 1 0 rfl rfl (vp_in_nI (n := ss) (by omega) (by omega)) dX8_append_48 (fun H locs hP hD hS => ?_)
      rw [nI_clamp (n := ss) (by omega)] at hP hD
      have hP : va_P D vwCl [(m0, .inr (8, [.int 0, .ref sc0, .int (nI ss), .int (nI sp), .int ig, .int lo, .ref rd0, .ref nw0, .ref tr0, .ref di0, .int (nI ac), .ref ke0, .ref ik0, .ref cp0, .ref cn0, .ref be0])), (sc0, .inl (g 0, 120, .inl (upd sc ss c9)))] H := hP
      have hD : va_D A [(m0, .inr (8, [.int 0, .ref sc0, .int (nI ss), .int (nI sp), .int ig, .int lo, .ref rd0, .ref nw0, .ref tr0, .ref di0, .int (nI ac), .ref ke0, .ref ik0, .ref cp0, .ref cn0, .ref be0])), (sc0, .inl (g 0, 120, .inl (upd sc ss c9)))] := hD
      refine lv_aload_n hx hb dX8_append_49 rfl (lv_at hl 0 rfl) ?_
      refine lv_dup hx hb dX8_append_50 rfl ?_
      refine va_get (D := D) (ci := 8) (v := .int (nI ss)) (C := RX8) (T := TX8) (N := 16) hx hb hts (fun w h => (List.mem_cons_of_mem _ (List.mem_append_right _ h))) hown hK hP 0 rfl rfl 2 (by decide) (hts _ qX8_append_1) (fun _ h9 => h9) rfl dX8_append_51 ?_
      refine lv_iconst (v := 1) hx hb dX8_append_54 (by decide) ?_
      refine lv_iadd hx hb dX8_append_55 ?_
      refine k_top (y := (nI (ss + 1))) (nI_add ss 1) ?_
      refine va_put (D := D) (ci := 8) (v := .int (nI (ss + 1))) (ty := .int) (C := RX8) (T := TX8) (N := 16) hx hb hts (fun w h => (List.mem_cons_of_mem _ (List.mem_append_right _ h))) tyX8 tyX8_ok nmX8 hown hK hP hD hS 0 rfl rfl 2 (by decide) (hts _ qX8_append_1) (fun _ h9 => h9) rfl (by decide +kernel) rfl rfl (Nat.le_of_ble_eq_true rfl) dX8_append_56 (fun H locs hP hD hS => ?_)
      have hP : va_P D vwCl [(m0, .inr (8, [.int 0, .ref sc0, .int (nI (ss + 1)), .int (nI sp), .int ig, .int lo, .ref rd0, .ref nw0, .ref tr0, .ref di0, .int (nI ac), .ref ke0, .ref ik0, .ref cp0, .ref cn0, .ref be0])), (sc0, .inl (g 0, 120, .inl (upd sc ss c9)))] H := hP
      have hD : va_D A [(m0, .inr (8, [.int 0, .ref sc0, .int (nI (ss + 1)), .int (nI sp), .int ig, .int lo, .ref rd0, .ref nw0, .ref tr0, .ref di0, .int (nI ac), .ref ke0, .ref ik0, .ref cp0, .ref cn0, .ref be0])), (sc0, .inl (g 0, 120, .inl (upd sc ss c9)))] := hD
      refine lv_aload_n hx hb dX8_append_59 rfl (lv_at hl 0 rfl) ?_
      refine va_get (D := D) (ci := 8) (v := .int (nI (ss + 1))) (C := RX8) (T := TX8) (N := 16) hx hb hts (fun w h => (List.mem_cons_of_mem _ (List.mem_append_right _ h))) hown hK hP 0 rfl rfl 2 (by decide) (hts _ qX8_append_1) (fun _ h9 => h9) rfl dX8_append_60 ?_
      have hE2 : (f_X8_append ss sc c9) = ((ss + 1), (ss + 1), (upd sc ss c9)) := by
        exact rfl
      subst hQ
      exact k_ri hx hb hr hlocks hP hD hS dX8_append_63 (by rw [hE2]) (by rw [hE2])
    · have c_2 : ss = 120 := (nI_eq (a := ss) (b := 120) (by omega) (by omega)).mp c_2
      refine lv_iconst (v := 2) hx hb dX8_append_26 (by decide) ?_
      refine lv_goto (tgt := 31) hx hb dX8_append_27 (by decide) ?_
      have h9 : (kc_X8_append ss c9) = 2 := (if_neg c_1).trans ((if_pos c_2).trans (rfl))
      rw [hk] at h9
      exact absurd h9 (by decide)
  · refine lv_iconst (v := 1) hx hb dX8_append_13 (by decide) ?_
    refine lv_goto (tgt := 31) hx hb dX8_append_14 (by decide) ?_
    have h9 : (kc_X8_append ss c9) = 1 := (if_pos c_1).trans (rfl)
    rw [hk] at h9
    exact absurd h9 (by decide)
theorem qc_X8_append_bad_X8_append_0 : Cond.constantLong RX8 103 (255) ∈ wsX8_append := (List.mem_cons_of_mem _ (List.mem_append_left _ (List.mem_of_getElem? (i := 0) rfl)))
theorem qc_X8_append_bad_X8_append_1 : Cond.fieldLink RX8 105 "BlameChainsModel" "scriptSize" "I" ∈ wsX8_append := (List.mem_cons_of_mem _ (List.mem_append_left _ (List.mem_of_getElem? (i := 1) rfl)))
set_option maxHeartbeats 4000000 in
set_option maxRecDepth 100000 in
theorem c_X8_append_bad (l : Launch) (D : va_G) (g : Nat → Nat) (m0 sc0 rd0 nw0 tr0 di0 ke0 ik0 cp0 cn0 be0 : Nat) (sz : Nat) (rf : Int32) (ss : Nat) (sp : Nat) (ig : Int32) (lo : Int32) (ac : Nat) (sc : Nat → Int32) (c9 : Int32) (hss : ss ≤ 120) (hk : ¬ (kc_X8_append ss c9) = 0) : kMi l D g yX8_append wsX8_append 2 0 0 [.ref m0, .int c9] [(m0, .inr (8, [.int rf, .ref sc0, .int (nI ss), .int (nI sp), .int ig, .int lo, .ref rd0, .ref nw0, .ref tr0, .ref di0, .int (nI ac), .ref ke0, .ref ik0, .ref cp0, .ref cn0, .ref be0])), (sc0, .inl (g 0, 120, .inl sc))] sz 0 [(m0, .inr (8, [.int (kc_X8_append ss c9), .ref sc0, .int (nI ss), .int (nI sp), .int ig, .int lo, .ref rd0, .ref nw0, .ref tr0, .ref di0, .int (nI ac), .ref ke0, .ref ik0, .ref cp0, .ref cn0, .ref be0])), (sc0, .inl (g 0, 120, .inl sc))] := by
  refine k_enter (nm := "append") (own := RX8) (bytes := cX8_append) (maxL := 2) (ret := (some .int)) (Qf := fun A => kQi D [(m0, .inr (8, [.int (kc_X8_append ss c9), .ref sc0, .int (nI ss), .int (nI sp), .int ig, .int lo, .ref rd0, .ref nw0, .ref tr0, .ref di0, .int (nI ac), .ref ke0, .ref ik0, .ref cp0, .ref cn0, .ref be0])), (sc0, .inl (g 0, 120, .inl sc))] A 0) (by decide) rfl rfl rfl (Nat.le_of_ble_eq_true rfl) ?_
  rintro pp ee s mm below meth cc A ls args Q H locs hQ ⟨hx, hb, hr, hml, hown, hts, hlocks, hin⟩ hP hK hD hA hS hE hl
  have hl : lv_has ls 2 [(0, .ref m0), (1, .int c9)] := hl
  refine lv_aload_n hx hb dX8_append_0 rfl (lv_at hl 0 rfl) ?_
  refine lv_iload_n hx hb dX8_append_1 rfl (lv_at hl 1 rfl) ?_
  refine lv_i2l (v := (Int32.toInt64 c9)) hx hb dX8_append_2 rfl ?_
  refine lv_lconst (v := 0) hx hb dX8_append_3 (by decide) ?_
  refine lv_ldc2 hx hb hown (hts _ qc_X8_append_bad_X8_append_0) dX8_append_4 ?_
  refine k_ai (wr := [(m0, .inr (8, [.int rf, .ref sc0, .int (nI ss), .int (nI sp), .int ig, .int lo, .ref rd0, .ref nw0, .ref tr0, .ref di0, .int (nI ac), .ref ke0, .ref ik0, .ref cp0, .ref cn0, .ref be0])), (sc0, .inl (g 0, 120, .inl sc))]) (w2 := [(m0, .inr (8, [.int rf, .ref sc0, .int (nI ss), .int (nI sp), .int ig, .int lo, .ref rd0, .ref nw0, .ref tr0, .ref di0, .int (nI ac), .ref ke0, .ref ik0, .ref cp0, .ref cn0, .ref be0])), (sc0, .inl (g 0, 120, .inl sc))]) (va_runS (As := [.long (Int32.toInt64 c9), .long 0, .long 255]) (rest := [.ref m0]) ⟨hx, hb, hml, hown, hts⟩ (c_X8_in l D g H.size (Int32.toInt64 c9) 0 255) (va_cwS 3 hts gX8_append_X8_in rfl rfl rfl (by decide +kernel) (k_lvl (by omega) (by decide))) (kPS hP hD hK hS hA hE [] rfl (by decide)) rfl rfl hl.1 rfl (lv_room (Nat.le_of_ble_eq_true rfl)) dX8_append_7 ⟨Nat.le_of_ble_eq_true rfl, Nat.le_of_ble_eq_true rfl⟩) hP hD hS hA [] [0, 1] [0, 1] rfl rfl (by decide) (by decide) rfl (by decide) (fun H locs hP hD hS => ?_)
  refine lv_if_ne (tgt := 17) hx hb dX8_append_10 (by decide) (fun c_1 => ?_) (fun c_1 => ?_)
  · refine lv_aload_n hx hb dX8_append_17 rfl (lv_at hl 0 rfl) ?_
    refine va_get (D := D) (ci := 8) (v := .int (nI ss)) (C := RX8) (T := TX8) (N := 16) hx hb hts (fun w h => (List.mem_cons_of_mem _ (List.mem_append_right _ h))) hown hK hP 0 rfl rfl 2 (by decide) (hts _ qc_X8_append_bad_X8_append_1) (fun _ h9 => h9) rfl dX8_append_18 ?_
    refine lv_bipush (v := 120) hx hb dX8_append_21 (by decide) ?_
    refine lv_icmp_ne (tgt := 30) hx hb dX8_append_23 (by decide) (fun c_2 => ?_) (fun c_2 => ?_)
    · have c_2 : ¬ (ss = 120) := fun h9 => c_2 ((nI_eq (a := ss) (b := 120) (by omega) (by omega)).mpr h9)
      refine lv_iconst (v := 0) hx hb dX8_append_30 (by decide) ?_
      have h9 : (kc_X8_append ss c9) = 0 := (if_neg c_1).trans ((if_neg c_2).trans (rfl))
      exact absurd h9 hk
    · have c_2 : ss = 120 := (nI_eq (a := ss) (b := 120) (by omega) (by omega)).mp c_2
      refine lv_iconst (v := 2) hx hb dX8_append_26 (by decide) ?_
      refine lv_goto (tgt := 31) hx hb dX8_append_27 (by decide) ?_
      refine k_ai (wr := [(sc0, .inl (g 0, 120, .inl sc))]) (w2 := [(m0, .inr (8, [.int 2, .ref sc0, .int (nI ss), .int (nI sp), .int ig, .int lo, .ref rd0, .ref nw0, .ref tr0, .ref di0, .int (nI ac), .ref ke0, .ref ik0, .ref cp0, .ref cn0, .ref be0])), (sc0, .inl (g 0, 120, .inl sc))]) (va_runV (As := [.int 2]) (rest := []) ⟨hx, hb, hml, hown, hts⟩ (c_X8_refused2 l D g m0 sc0 rd0 nw0 tr0 di0 ke0 ik0 cp0 cn0 be0 H.size rf ss sp ig lo ac) (cwV 1 hts gX8_append_X8_refused rfl rfl rfl (by decide +kernel) (k_lvl (by omega) (by decide))) (kPV hP hD hK hS hA hE [0] rfl (by decide) 0 8 rfl rfl rfl) rfl rfl hl.1 rfl (lv_room (Nat.le_of_ble_eq_true rfl)) dX8_append_31 ⟨Nat.le_of_ble_eq_true rfl, Nat.le_of_ble_eq_true rfl⟩) hP hD hS hA [0] [1] [1, 0] rfl rfl (by decide) (by decide) rfl (by decide) (fun H locs hP hD hS => ?_)
      refine lv_if_eq (tgt := 39) hx hb dX8_append_34 (by decide) (fun c_3 => absurd c_3 (by decide)) (fun _ => ?_)
      refine lv_iconst (v := 0) hx hb dX8_append_37 (by decide) ?_
      subst hQ
      exact k_ri hx hb hr hlocks hP hD hS dX8_append_38 (rfl) (by rw [show (kc_X8_append ss c9) = 2 from (if_neg c_1).trans ((if_pos c_2).trans (rfl))])
  · refine lv_iconst (v := 1) hx hb dX8_append_13 (by decide) ?_
    refine lv_goto (tgt := 31) hx hb dX8_append_14 (by decide) ?_
    refine k_ai (wr := [(sc0, .inl (g 0, 120, .inl sc))]) (w2 := [(m0, .inr (8, [.int 1, .ref sc0, .int (nI ss), .int (nI sp), .int ig, .int lo, .ref rd0, .ref nw0, .ref tr0, .ref di0, .int (nI ac), .ref ke0, .ref ik0, .ref cp0, .ref cn0, .ref be0])), (sc0, .inl (g 0, 120, .inl sc))]) (va_runV (As := [.int 1]) (rest := []) ⟨hx, hb, hml, hown, hts⟩ (c_X8_refused1 l D g m0 sc0 rd0 nw0 tr0 di0 ke0 ik0 cp0 cn0 be0 H.size rf ss sp ig lo ac) (cwV 1 hts gX8_append_X8_refused rfl rfl rfl (by decide +kernel) (k_lvl (by omega) (by decide))) (kPV hP hD hK hS hA hE [0] rfl (by decide) 0 8 rfl rfl rfl) rfl rfl hl.1 rfl (lv_room (Nat.le_of_ble_eq_true rfl)) dX8_append_31 ⟨Nat.le_of_ble_eq_true rfl, Nat.le_of_ble_eq_true rfl⟩) hP hD hS hA [0] [1] [1, 0] rfl rfl (by decide) (by decide) rfl (by decide) (fun H locs hP hD hS => ?_)
    refine lv_if_eq (tgt := 39) hx hb dX8_append_34 (by decide) (fun c_4 => absurd c_4 (by decide)) (fun _ => ?_)
    refine lv_iconst (v := 0) hx hb dX8_append_37 (by decide) ?_
    subst hQ
    exact k_ri hx hb hr hlocks hP hD hS dX8_append_38 (rfl) (by rw [show (kc_X8_append ss c9) = 1 from (if_pos c_1).trans (rfl)])
def f_X8_clearText (ss : Nat) : Nat :=
  ss
theorem qX8_clearText_0 : Cond.fieldLink RX8 41 "BlameChainsModel" "refusal" "I" ∈ wsX8_clearText := (List.mem_cons_of_mem _ (List.mem_append_left _ (List.mem_of_getElem? (i := 0) rfl)))
theorem qX8_clearText_1 : Cond.fieldLink RX8 105 "BlameChainsModel" "scriptSize" "I" ∈ wsX8_clearText := (List.mem_cons_of_mem _ (List.mem_append_left _ (List.mem_of_getElem? (i := 1) rfl)))
set_option maxHeartbeats 4000000 in
set_option maxRecDepth 100000 in
theorem c_X8_clearText (l : Launch) (D : va_G) (g : Nat → Nat) (m0 sc0 rd0 nw0 tr0 di0 ke0 ik0 cp0 cn0 be0 : Nat) (sz : Nat) (rf : Int32) (ss : Nat) (sp : Nat) (ig : Int32) (lo : Int32) (ac : Nat) : kMi l D g yX8_clearText wsX8_clearText 1 0 0 [.ref m0] [(m0, .inr (8, [.int rf, .ref sc0, .int (nI ss), .int (nI sp), .int ig, .int lo, .ref rd0, .ref nw0, .ref tr0, .ref di0, .int (nI ac), .ref ke0, .ref ik0, .ref cp0, .ref cn0, .ref be0]))] sz (nI (f_X8_clearText ss)) [(m0, .inr (8, [.int 0, .ref sc0, .int 0, .int (nI sp), .int ig, .int lo, .ref rd0, .ref nw0, .ref tr0, .ref di0, .int (nI ac), .ref ke0, .ref ik0, .ref cp0, .ref cn0, .ref be0]))] := by
  refine k_enter (nm := "clearText") (own := RX8) (bytes := cX8_clearText) (maxL := 2) (ret := (some .int)) (Qf := fun A => kQi D [(m0, .inr (8, [.int 0, .ref sc0, .int 0, .int (nI sp), .int ig, .int lo, .ref rd0, .ref nw0, .ref tr0, .ref di0, .int (nI ac), .ref ke0, .ref ik0, .ref cp0, .ref cn0, .ref be0]))] A (nI (f_X8_clearText ss))) (by decide) rfl rfl rfl (Nat.le_of_ble_eq_true rfl) ?_
  rintro pp ee s mm below meth cc A ls args Q H locs hQ ⟨hx, hb, hr, hml, hown, hts, hlocks, hin⟩ hP hK hD hA hS hE hl
  have hl : lv_has ls 2 [(0, .ref m0)] := hl
  refine lv_aload_n hx hb dX8_clearText_0 rfl (lv_at hl 0 rfl) ?_
  refine lv_iconst (v := 0) hx hb dX8_clearText_1 (by decide) ?_
  refine va_put (D := D) (ci := 8) (v := .int 0) (ty := .int) (C := RX8) (T := TX8) (N := 16) hx hb hts (fun w h => (List.mem_cons_of_mem _ (List.mem_append_right _ h))) tyX8 tyX8_ok nmX8 hown hK hP hD hS 0 rfl rfl 0 (by decide) (hts _ qX8_clearText_0) (fun _ h9 => h9) rfl (by decide +kernel) rfl rfl (Nat.le_of_ble_eq_true rfl) dX8_clearText_2 (fun H locs hP hD hS => ?_)
  have hP : va_P D vwCl [(m0, .inr (8, [.int 0, .ref sc0, .int (nI ss), .int (nI sp), .int ig, .int lo, .ref rd0, .ref nw0, .ref tr0, .ref di0, .int (nI ac), .ref ke0, .ref ik0, .ref cp0, .ref cn0, .ref be0]))] H := hP
  have hD : va_D A [(m0, .inr (8, [.int 0, .ref sc0, .int (nI ss), .int (nI sp), .int ig, .int lo, .ref rd0, .ref nw0, .ref tr0, .ref di0, .int (nI ac), .ref ke0, .ref ik0, .ref cp0, .ref cn0, .ref be0]))] := hD
  refine lv_aload_n hx hb dX8_clearText_5 rfl (lv_at hl 0 rfl) ?_
  refine va_get (D := D) (ci := 8) (v := .int (nI ss)) (C := RX8) (T := TX8) (N := 16) hx hb hts (fun w h => (List.mem_cons_of_mem _ (List.mem_append_right _ h))) hown hK hP 0 rfl rfl 2 (by decide) (hts _ qX8_clearText_1) (fun _ h9 => h9) rfl dX8_clearText_6 ?_
  refine lv_istore_n (lv' := [(1, .int (nI ss)), (0, .ref m0)]) hx hb dX8_clearText_9 rfl hl (by decide) rfl (fun ls hl => ?_)
  refine lv_aload_n hx hb dX8_clearText_10 rfl (lv_at hl 1 rfl) ?_
  refine lv_iconst (v := 0) hx hb dX8_clearText_11 (by decide) ?_
  refine va_put (D := D) (ci := 8) (v := .int 0) (ty := .int) (C := RX8) (T := TX8) (N := 16) hx hb hts (fun w h => (List.mem_cons_of_mem _ (List.mem_append_right _ h))) tyX8 tyX8_ok nmX8 hown hK hP hD hS 0 rfl rfl 2 (by decide) (hts _ qX8_clearText_1) (fun _ h9 => h9) rfl (by decide +kernel) rfl rfl (Nat.le_of_ble_eq_true rfl) dX8_clearText_12 (fun H locs hP hD hS => ?_)
  have hP : va_P D vwCl [(m0, .inr (8, [.int 0, .ref sc0, .int 0, .int (nI sp), .int ig, .int lo, .ref rd0, .ref nw0, .ref tr0, .ref di0, .int (nI ac), .ref ke0, .ref ik0, .ref cp0, .ref cn0, .ref be0]))] H := hP
  have hD : va_D A [(m0, .inr (8, [.int 0, .ref sc0, .int 0, .int (nI sp), .int ig, .int lo, .ref rd0, .ref nw0, .ref tr0, .ref di0, .int (nI ac), .ref ke0, .ref ik0, .ref cp0, .ref cn0, .ref be0]))] := hD
  refine lv_iload_n hx hb dX8_clearText_15 rfl (lv_at hl 0 rfl) ?_
  have hE2 : (f_X8_clearText ss) = ss := by
    exact rfl
  subst hQ
  exact k_ri hx hb hr hlocks hP hD hS dX8_clearText_16 (by rw [hE2]) (rfl)
def f_X8_errorPosition (ss : Nat) (sc : Nat → Int32) (cp : Nat → Int32) (cn : Nat → Int32) : Int32 × Int32 × Nat × Int32 × (Nat → Int32) × (Nat → Int32) × (Nat → Int32) :=
  let v_1 := (tR ss sc cp cn)
  ((if v_1.1 = 0 then nI v_1.2.1 else -10000), v_1.1, v_1.2.1, v_1.2.2.1, (v_1.2.2.2.1), (v_1.2.2.2.2.1), (v_1.2.2.2.2.2))
theorem qX8_errorPosition_0 : Cond.fieldLink RX8 41 "BlameChainsModel" "refusal" "I" ∈ wsX8_errorPosition := (List.mem_cons_of_mem _ (List.mem_append_left _ (List.mem_append_left _ (List.mem_of_getElem? (i := 0) rfl))))
set_option maxHeartbeats 4000000 in
set_option maxRecDepth 100000 in
theorem c_X8_errorPosition (l : Launch) (D : va_G) (g : Nat → Nat) (m0 sc0 rd0 nw0 tr0 di0 ke0 ik0 cp0 cn0 be0 : Nat) (sz : Nat) (rf : Int32) (ss : Nat) (sp : Nat) (ig : Int32) (lo : Int32) (ac : Nat) (sc : Nat → Int32) (rw : Nat → Int32) (cp : Nat → Int32) (cn : Nat → Int32) (hss : ss ≤ 120) : kMi l D g yX8_errorPosition wsX8_errorPosition 9 0 0 [.ref m0] [(m0, .inr (8, [.int rf, .ref sc0, .int (nI ss), .int (nI sp), .int ig, .int lo, .ref rd0, .ref nw0, .ref tr0, .ref di0, .int (nI ac), .ref ke0, .ref ik0, .ref cp0, .ref cn0, .ref be0])), (sc0, .inl (g 0, 120, .inl sc)), (rd0, .inl (g 0, 748, .inl rw)), (cp0, .inl (g 0, 10, .inl cp)), (cn0, .inl (g 0, 10, .inl cn))] sz ((f_X8_errorPosition ss sc cp cn).1) [(m0, .inr (8, [.int 0, .ref sc0, .int (nI ss), .int (nI ((f_X8_errorPosition ss sc cp cn).2.2.1)), .int ((f_X8_errorPosition ss sc cp cn).2.1), .int ((f_X8_errorPosition ss sc cp cn).2.2.2.1), .ref rd0, .ref nw0, .ref tr0, .ref di0, .int (nI ac), .ref ke0, .ref ik0, .ref cp0, .ref cn0, .ref be0])), (sc0, .inl (g 0, 120, .inl sc)), (rd0, .inl (g 0, 748, .inl ((f_X8_errorPosition ss sc cp cn).2.2.2.2.1))), (cp0, .inl (g 0, 10, .inl ((f_X8_errorPosition ss sc cp cn).2.2.2.2.2.1))), (cn0, .inl (g 0, 10, .inl ((f_X8_errorPosition ss sc cp cn).2.2.2.2.2.2)))] := by
  refine k_enter (nm := "errorPosition") (own := RX8) (bytes := cX8_errorPosition) (maxL := 1) (ret := (some .int)) (Qf := fun A => kQi D [(m0, .inr (8, [.int 0, .ref sc0, .int (nI ss), .int (nI ((f_X8_errorPosition ss sc cp cn).2.2.1)), .int ((f_X8_errorPosition ss sc cp cn).2.1), .int ((f_X8_errorPosition ss sc cp cn).2.2.2.1), .ref rd0, .ref nw0, .ref tr0, .ref di0, .int (nI ac), .ref ke0, .ref ik0, .ref cp0, .ref cn0, .ref be0])), (sc0, .inl (g 0, 120, .inl sc)), (rd0, .inl (g 0, 748, .inl ((f_X8_errorPosition ss sc cp cn).2.2.2.2.1))), (cp0, .inl (g 0, 10, .inl ((f_X8_errorPosition ss sc cp cn).2.2.2.2.2.1))), (cn0, .inl (g 0, 10, .inl ((f_X8_errorPosition ss sc cp cn).2.2.2.2.2.2)))] A ((f_X8_errorPosition ss sc cp cn).1)) (by decide) rfl rfl rfl (Nat.le_of_ble_eq_true rfl) ?_
  rintro pp ee s mm below meth cc A ls args Q H locs hQ ⟨hx, hb, hr, hml, hown, hts, hlocks, hin⟩ hP hK hD hA hS hE hl
  have hl : lv_has ls 1 [(0, .ref m0)] := hl
  refine lv_aload_n hx hb dX8_errorPosition_0 rfl (lv_at hl 0 rfl) ?_
  refine lv_iconst (v := 0) hx hb dX8_errorPosition_1 (by decide) ?_
  refine va_put (D := D) (ci := 8) (v := .int 0) (ty := .int) (C := RX8) (T := TX8) (N := 16) hx hb hts (fun w h => (List.mem_cons_of_mem _ (List.mem_append_right _ h))) tyX8 tyX8_ok nmX8 hown hK hP hD hS 0 rfl rfl 0 (by decide) (hts _ qX8_errorPosition_0) (fun _ h9 => h9) rfl (by decide +kernel) rfl rfl (Nat.le_of_ble_eq_true rfl) dX8_errorPosition_2 (fun H locs hP hD hS => ?_)
  have hP : va_P D vwCl [(m0, .inr (8, [.int 0, .ref sc0, .int (nI ss), .int (nI sp), .int ig, .int lo, .ref rd0, .ref nw0, .ref tr0, .ref di0, .int (nI ac), .ref ke0, .ref ik0, .ref cp0, .ref cn0, .ref be0])), (sc0, .inl (g 0, 120, .inl sc)), (rd0, .inl (g 0, 748, .inl rw)), (cp0, .inl (g 0, 10, .inl cp)), (cn0, .inl (g 0, 10, .inl cn))] H := hP
  have hD : va_D A [(m0, .inr (8, [.int 0, .ref sc0, .int (nI ss), .int (nI sp), .int ig, .int lo, .ref rd0, .ref nw0, .ref tr0, .ref di0, .int (nI ac), .ref ke0, .ref ik0, .ref cp0, .ref cn0, .ref be0])), (sc0, .inl (g 0, 120, .inl sc)), (rd0, .inl (g 0, 748, .inl rw)), (cp0, .inl (g 0, 10, .inl cp)), (cn0, .inl (g 0, 10, .inl cn))] := hD
  refine lv_aload_n hx hb dX8_errorPosition_5 rfl (lv_at hl 0 rfl) ?_
  have hC := c_X8_readText l D g m0 sc0 rd0 nw0 tr0 di0 ke0 ik0 cp0 cn0 be0 H.size 0 ss sp ig lo ac sc rw cp cn (by omega)
  obtain ⟨v_1, ev_1⟩ : ∃ z, z = (tR ss sc cp cn) := ⟨_, rfl⟩
  rw [← ev_1] at hC
  have hsv_1_0 : rdOk (tR ss sc cp cn).2.2.2.1 := (tR_ok ss sc cp cn).1
  rw [← ev_1] at hsv_1_0
  have hsv_1_1 : (tR ss sc cp cn).2.1 ≤ ss + 14 := (tR_ok ss sc cp cn).2
  rw [← ev_1] at hsv_1_1
  have kev_1 : kEq v_1 (tR ss sc cp cn) := ev_1
  clear ev_1
  refine k_ai (wr := []) (w2 := [(m0, .inr (8, [.int 0, .ref sc0, .int (nI ss), .int (nI v_1.2.1), .int v_1.1, .int v_1.2.2.1, .ref rd0, .ref nw0, .ref tr0, .ref di0, .int (nI ac), .ref ke0, .ref ik0, .ref cp0, .ref cn0, .ref be0])), (sc0, .inl (g 0, 120, .inl sc)), (rd0, .inl (g 0, 748, .inl (v_1.2.2.2.1))), (cp0, .inl (g 0, 10, .inl (v_1.2.2.2.2.1))), (cn0, .inl (g 0, 10, .inl (v_1.2.2.2.2.2)))]) (va_runV (As := []) (rest := []) ⟨hx, hb, hml, hown, hts⟩ hC (cwV 0 hts gX8_errorPosition_X8_readText rfl rfl rfl (by decide +kernel) (k_lvl (by omega) (by decide))) (kPV hP hD hK hS hA hE [0, 1, 2, 3, 4] rfl (by decide) 0 8 rfl rfl rfl) rfl rfl hl.1 rfl (lv_room (Nat.le_of_ble_eq_true rfl)) dX8_errorPosition_6 ⟨Nat.le_of_ble_eq_true rfl, Nat.le_of_ble_eq_true rfl⟩) hP hD hS hA [0, 1, 2, 3, 4] [] [0, 1, 2, 3, 4] rfl rfl (by decide) (by decide) rfl (by decide) (fun H locs hP hD hS => ?_)
  have ev_1 : (tR ss sc cp cn) = v_1 := Eq.symm kev_1
  have hE2 : (f_X8_errorPosition ss sc cp cn) = ((if v_1.1 = 0 then nI v_1.2.1 else -10000), v_1.1, v_1.2.1, v_1.2.2.1, (v_1.2.2.2.1), (v_1.2.2.2.2.1), (v_1.2.2.2.2.2)) := by
    subst ev_1
    exact rfl
  subst hQ
  exact k_ri hx hb hr hlocks hP hD hS dX8_errorPosition_9 (by rw [hE2]) (by rw [hE2])
/-- flags of a row of booleans: the first two places -/
def kFl (f : Nat → Int32) : Prop := ∀ i : Nat, i < 2 → f i = 0 ∨ f i = 1
/-- what load answers before it does anything: 0, or which of its exceptions is thrown -/
def kc_X8_load (ss : Nat) (sc : Nat → Int32) (cp : Nat → Int32) (cn : Nat → Int32) : Int32 :=
  let v_1 := (tR ss sc cp cn)
  if (if v_1.1 = 0 then nI v_1.2.1 else -10000) = (-10000) then
    0
  else
    1
def f_X8_load (ss : Nat) (sc : Nat → Int32) (cp : Nat → Int32) (cn : Nat → Int32) (ik : Nat → Int32) : Int32 × Int32 × Nat × Int32 × (Nat → Int32) × (Nat → Int32) × (Nat → Int32) × (Nat → Int32) × (Nat → Int32) :=
  let v_1 := (tR ss sc cp cn)
  (v_1.2.2.1, v_1.1, v_1.2.1, v_1.2.2.1, (v_1.2.2.2.1), (v_1.2.2.2.2.1), (v_1.2.2.2.2.2), (v_1.2.2.2.1), (upd (upd ik 0 0) 1 0))
theorem qX8_load_0 : Cond.fieldLink RX8 13 "BlameChainsModel" "read" "[I" ∈ wsX8_load := (List.mem_cons_of_mem _ (List.mem_append_left _ (List.mem_append_left _ (List.mem_of_getElem? (i := 0) rfl))))
theorem qX8_load_1 : Cond.fieldLink RX8 16 "BlameChainsModel" "now" "[I" ∈ wsX8_load := (List.mem_cons_of_mem _ (List.mem_append_left _ (List.mem_append_left _ (List.mem_of_getElem? (i := 1) rfl))))
theorem qX8_load_2 : Cond.fieldLink RX8 47 "BlameChainsModel" "acts" "I" ∈ wsX8_load := (List.mem_cons_of_mem _ (List.mem_append_left _ (List.mem_append_left _ (List.mem_of_getElem? (i := 2) rfl))))
theorem qX8_load_3 : Cond.fieldLink RX8 28 "BlameChainsModel" "isKept" "[Z" ∈ wsX8_load := (List.mem_cons_of_mem _ (List.mem_append_left _ (List.mem_append_left _ (List.mem_of_getElem? (i := 3) rfl))))
theorem qX8_load_4 : Cond.fieldLink RX8 131 "BlameChainsModel" "leftOut" "I" ∈ wsX8_load := (List.mem_cons_of_mem _ (List.mem_append_left _ (List.mem_append_left _ (List.mem_of_getElem? (i := 4) rfl))))
set_option maxHeartbeats 4000000 in
set_option maxRecDepth 100000 in
theorem c_X8_load (l : Launch) (D : va_G) (g : Nat → Nat) (m0 sc0 rd0 nw0 tr0 di0 ke0 ik0 cp0 cn0 be0 : Nat) (sz : Nat) (rf : Int32) (ss : Nat) (sp : Nat) (ig : Int32) (lo : Int32) (ac : Nat) (sc : Nat → Int32) (rw : Nat → Int32) (cp : Nat → Int32) (cn : Nat → Int32) (nw : Nat → Int32) (ik : Nat → Int32) (hss : ss ≤ 120) (hk : (kc_X8_load ss sc cp cn) = 0) : kMi l D g yX8_load wsX8_load 9 0 0 [.ref m0] [(m0, .inr (8, [.int rf, .ref sc0, .int (nI ss), .int (nI sp), .int ig, .int lo, .ref rd0, .ref nw0, .ref tr0, .ref di0, .int (nI ac), .ref ke0, .ref ik0, .ref cp0, .ref cn0, .ref be0])), (sc0, .inl (g 0, 120, .inl sc)), (rd0, .inl (g 0, 748, .inl rw)), (cp0, .inl (g 0, 10, .inl cp)), (cn0, .inl (g 0, 10, .inl cn)), (nw0, .inl (g 0, 748, .inl nw)), (ik0, .inl (g 2, 2, .inl ik))] sz ((f_X8_load ss sc cp cn ik).1) [(m0, .inr (8, [.int 0, .ref sc0, .int (nI ss), .int (nI ((f_X8_load ss sc cp cn ik).2.2.1)), .int ((f_X8_load ss sc cp cn ik).2.1), .int ((f_X8_load ss sc cp cn ik).2.2.2.1), .ref rd0, .ref nw0, .ref tr0, .ref di0, .int 0, .ref ke0, .ref ik0, .ref cp0, .ref cn0, .ref be0])), (sc0, .inl (g 0, 120, .inl sc)), (rd0, .inl (g 0, 748, .inl ((f_X8_load ss sc cp cn ik).2.2.2.2.1))), (cp0, .inl (g 0, 10, .inl ((f_X8_load ss sc cp cn ik).2.2.2.2.2.1))), (cn0, .inl (g 0, 10, .inl ((f_X8_load ss sc cp cn ik).2.2.2.2.2.2.1))), (nw0, .inl (g 0, 748, .inl ((f_X8_load ss sc cp cn ik).2.2.2.2.2.2.2.1))), (ik0, .inl (g 2, 2, .inl ((f_X8_load ss sc cp cn ik).2.2.2.2.2.2.2.2)))] := by
  refine k_enter (nm := "load") (own := RX8) (bytes := cX8_load) (maxL := 1) (ret := (some .int)) (Qf := fun A => kQi D [(m0, .inr (8, [.int 0, .ref sc0, .int (nI ss), .int (nI ((f_X8_load ss sc cp cn ik).2.2.1)), .int ((f_X8_load ss sc cp cn ik).2.1), .int ((f_X8_load ss sc cp cn ik).2.2.2.1), .ref rd0, .ref nw0, .ref tr0, .ref di0, .int 0, .ref ke0, .ref ik0, .ref cp0, .ref cn0, .ref be0])), (sc0, .inl (g 0, 120, .inl sc)), (rd0, .inl (g 0, 748, .inl ((f_X8_load ss sc cp cn ik).2.2.2.2.1))), (cp0, .inl (g 0, 10, .inl ((f_X8_load ss sc cp cn ik).2.2.2.2.2.1))), (cn0, .inl (g 0, 10, .inl ((f_X8_load ss sc cp cn ik).2.2.2.2.2.2.1))), (nw0, .inl (g 0, 748, .inl ((f_X8_load ss sc cp cn ik).2.2.2.2.2.2.2.1))), (ik0, .inl (g 2, 2, .inl ((f_X8_load ss sc cp cn ik).2.2.2.2.2.2.2.2)))] A ((f_X8_load ss sc cp cn ik).1)) (by decide) rfl rfl rfl (Nat.le_of_ble_eq_true rfl) ?_
  rintro pp ee s mm below meth cc A ls args Q H locs hQ ⟨hx, hb, hr, hml, hown, hts, hlocks, hin⟩ hP hK hD hA hS hE hl
  have hl : lv_has ls 1 [(0, .ref m0)] := hl
  refine lv_aload_n hx hb dX8_load_0 rfl (lv_at hl 0 rfl) ?_
  refine lv_aload_n hx hb dX8_load_1 rfl (lv_at hl 0 rfl) ?_
  have hC := c_X8_readText l D g m0 sc0 rd0 nw0 tr0 di0 ke0 ik0 cp0 cn0 be0 H.size rf ss sp ig lo ac sc rw cp cn (by omega)
  obtain ⟨v_1, ev_1⟩ : ∃ z, z = (tR ss sc cp cn) := ⟨_, rfl⟩
  rw [← ev_1] at hC
  have hsv_1_0 : rdOk (tR ss sc cp cn).2.2.2.1 := (tR_ok ss sc cp cn).1
  rw [← ev_1] at hsv_1_0
  have hsv_1_1 : (tR ss sc cp cn).2.1 ≤ ss + 14 := (tR_ok ss sc cp cn).2
  rw [← ev_1] at hsv_1_1
  have kev_1 : kEq v_1 (tR ss sc cp cn) := ev_1
  clear ev_1
  refine k_ai (wr := [(nw0, .inl (g 0, 748, .inl nw)), (ik0, .inl (g 2, 2, .inl ik))]) (w2 := [(m0, .inr (8, [.int rf, .ref sc0, .int (nI ss), .int (nI v_1.2.1), .int v_1.1, .int v_1.2.2.1, .ref rd0, .ref nw0, .ref tr0, .ref di0, .int (nI ac), .ref ke0, .ref ik0, .ref cp0, .ref cn0, .ref be0])), (sc0, .inl (g 0, 120, .inl sc)), (rd0, .inl (g 0, 748, .inl (v_1.2.2.2.1))), (cp0, .inl (g 0, 10, .inl (v_1.2.2.2.2.1))), (cn0, .inl (g 0, 10, .inl (v_1.2.2.2.2.2))), (nw0, .inl (g 0, 748, .inl nw)), (ik0, .inl (g 2, 2, .inl ik))]) (va_runV (As := []) (rest := [.ref m0]) ⟨hx, hb, hml, hown, hts⟩ hC (cwV 0 hts gX8_load_X8_readText rfl rfl rfl (by decide +kernel) (k_lvl (by omega) (by decide))) (kPV hP hD hK hS hA hE [0, 1, 2, 3, 4] rfl (by decide) 0 8 rfl rfl rfl) rfl rfl hl.1 rfl (lv_room (Nat.le_of_ble_eq_true rfl)) dX8_load_2 ⟨Nat.le_of_ble_eq_true rfl, Nat.le_of_ble_eq_true rfl⟩) hP hD hS hA [0, 1, 2, 3, 4] [5, 6] [2, 3, 4, 5, 6, 0, 1] rfl rfl (by decide) (by decide) rfl (by decide) (fun H locs hP hD hS => ?_)
  refine lv_sipush (v := (-10000)) hx hb dX8_load_5 (by decide) ?_
  refine lv_icmp_ne (tgt := 15) hx hb dX8_load_8 (by decide) (fun c_2 => ?_) (fun c_2 => ?_)
  · refine lv_iconst (v := 1) hx hb dX8_load_15 (by decide) ?_
    have ev_1 : (tR ss sc cp cn) = v_1 := Eq.symm kev_1
    subst ev_1
    have h9 : (kc_X8_load ss sc cp cn) = 1 := (if_neg c_2).trans (rfl)
    rw [hk] at h9
    exact absurd h9 (by decide)
  · refine lv_iconst (v := 0) hx hb dX8_load_11 (by decide) ?_
    refine lv_goto (tgt := 16) hx hb dX8_load_12 (by decide) ?_
    refine k_ai (wr := [(sc0, .inl (g 0, 120, .inl sc)), (rd0, .inl (g 0, 748, .inl (v_1.2.2.2.1))), (cp0, .inl (g 0, 10, .inl (v_1.2.2.2.2.1))), (cn0, .inl (g 0, 10, .inl (v_1.2.2.2.2.2))), (nw0, .inl (g 0, 748, .inl nw)), (ik0, .inl (g 2, 2, .inl ik))]) (w2 := [(m0, .inr (8, [.int 0, .ref sc0, .int (nI ss), .int (nI v_1.2.1), .int v_1.1, .int v_1.2.2.1, .ref rd0, .ref nw0, .ref tr0, .ref di0, .int (nI ac), .ref ke0, .ref ik0, .ref cp0, .ref cn0, .ref be0])), (sc0, .inl (g 0, 120, .inl sc)), (rd0, .inl (g 0, 748, .inl (v_1.2.2.2.1))), (cp0, .inl (g 0, 10, .inl (v_1.2.2.2.2.1))), (cn0, .inl (g 0, 10, .inl (v_1.2.2.2.2.2))), (nw0, .inl (g 0, 748, .inl nw)), (ik0, .inl (g 2, 2, .inl ik))]) (va_runV (As := [.int 0]) (rest := []) ⟨hx, hb, hml, hown, hts⟩ (c_X8_refused0 l D g m0 sc0 rd0 nw0 tr0 di0 ke0 ik0 cp0 cn0 be0 H.size rf ss v_1.2.1 v_1.1 v_1.2.2.1 ac) (cwV 1 hts gX8_load_X8_refused rfl rfl rfl (by decide +kernel) (k_lvl (by omega) (by decide))) (kPV hP hD hK hS hA hE [0] rfl (by decide) 0 8 rfl rfl rfl) rfl rfl hl.1 rfl (lv_room (Nat.le_of_ble_eq_true rfl)) dX8_load_16 ⟨Nat.le_of_ble_eq_true rfl, Nat.le_of_ble_eq_true rfl⟩) hP hD hS hA [0] [1, 2, 3, 4, 5, 6] [6, 0, 1, 2, 3, 4, 5] rfl rfl (by decide) (by decide) rfl (by decide) (fun H locs hP hD hS => ?_)
    refine lv_if_eq (tgt := 24) hx hb dX8_load_19 (by decide) (fun _ => ?_) (fun c_3 => absurd c_3 (by decide))
    refine lv_aload_n hx hb dX8_load_24 rfl (lv_at hl 0 rfl) ?_
    refine va_get (D := D) (ci := 8) (v := .ref rd0) (C := RX8) (T := TX8) (N := 16) hx hb hts (fun w h => (List.mem_cons_of_mem _ (List.mem_append_right _ h))) hown hK hP 0 rfl rfl 6 (by decide) (hts _ qX8_load_0) (fun _ h9 => h9) rfl dX8_load_25 ?_
    refine lv_iconst (v := 0) hx hb dX8_load_28 (by decide) ?_
    refine lv_aload_n hx hb dX8_load_29 rfl (lv_at hl 0 rfl) ?_
    refine va_get (D := D) (ci := 8) (v := .ref nw0) (C := RX8) (T := TX8) (N := 16) hx hb hts (fun w h => (List.mem_cons_of_mem _ (List.mem_append_right _ h))) hown hK hP 0 rfl rfl 7 (by decide) (hts _ qX8_load_1) (fun _ h9 => h9) rfl dX8_load_30 ?_
    refine lv_iconst (v := 0) hx hb dX8_load_33 (by decide) ?_
    refine lv_sipush (v := 748) hx hb dX8_load_34 (by decide) ?_
    refine k_av (wr := [(m0, .inr (8, [.int 0, .ref sc0, .int (nI ss), .int (nI v_1.2.1), .int v_1.1, .int v_1.2.2.1, .ref rd0, .ref nw0, .ref tr0, .ref di0, .int (nI ac), .ref ke0, .ref ik0, .ref cp0, .ref cn0, .ref be0])), (sc0, .inl (g 0, 120, .inl sc)), (cp0, .inl (g 0, 10, .inl (v_1.2.2.2.2.1))), (cn0, .inl (g 0, 10, .inl (v_1.2.2.2.2.2))), (ik0, .inl (g 2, 2, .inl ik))]) (w2 := [(m0, .inr (8, [.int 0, .ref sc0, .int (nI ss), .int (nI v_1.2.1), .int v_1.1, .int v_1.2.2.1, .ref rd0, .ref nw0, .ref tr0, .ref di0, .int (nI ac), .ref ke0, .ref ik0, .ref cp0, .ref cn0, .ref be0])), (sc0, .inl (g 0, 120, .inl sc)), (rd0, .inl (g 0, 748, .inl (v_1.2.2.2.1))), (cp0, .inl (g 0, 10, .inl (v_1.2.2.2.2.1))), (cn0, .inl (g 0, 10, .inl (v_1.2.2.2.2.2))), (nw0, .inl (g 0, 748, .inl (v_1.2.2.2.1))), (ik0, .inl (g 2, 2, .inl ik))]) (va_runS (As := [.ref rd0, .int 0, .ref nw0, .int 0, .int 748]) (rest := []) ⟨hx, hb, hml, hown, hts⟩ ((fun l D g f0 t0 sz ff tf => c_X8_copyF l D g f0 t0 sz ff tf 748 (by decide)) l D g rd0 nw0 H.size (v_1.2.2.2.1) nw) (va_cwS 5 hts gX8_load_X8_copy rfl rfl rfl (by decide +kernel) (k_lvl (by omega) (by decide))) (kPS hP hD hK hS hA hE [2, 5] rfl (by decide)) rfl rfl hl.1 rfl (lv_room (Nat.le_of_ble_eq_true rfl)) dX8_load_37 ⟨Nat.le_of_ble_eq_true rfl, Nat.le_of_ble_eq_true rfl⟩) hP hD hS hA [2, 5] [0, 1, 3, 4, 6] [0, 1, 5, 2, 3, 6, 4] rfl rfl (by decide) (by decide) rfl (by decide) (fun H locs hP hD hS => ?_)
    refine lv_aload_n hx hb dX8_load_40 rfl (lv_at hl 0 rfl) ?_
    refine lv_iconst (v := 0) hx hb dX8_load_41 (by decide) ?_
    refine va_put (D := D) (ci := 8) (v := .int 0) (ty := .int) (C := RX8) (T := TX8) (N := 16) hx hb hts (fun w h => (List.mem_cons_of_mem _ (List.mem_append_right _ h))) tyX8 tyX8_ok nmX8 hown hK hP hD hS 0 rfl rfl 10 (by decide) (hts _ qX8_load_2) (fun _ h9 => h9) rfl (by decide +kernel) rfl rfl (Nat.le_of_ble_eq_true rfl) dX8_load_42 (fun H locs hP hD hS => ?_)
    have hP : va_P D vwCl [(m0, .inr (8, [.int 0, .ref sc0, .int (nI ss), .int (nI v_1.2.1), .int v_1.1, .int v_1.2.2.1, .ref rd0, .ref nw0, .ref tr0, .ref di0, .int 0, .ref ke0, .ref ik0, .ref cp0, .ref cn0, .ref be0])), (sc0, .inl (g 0, 120, .inl sc)), (rd0, .inl (g 0, 748, .inl (v_1.2.2.2.1))), (cp0, .inl (g 0, 10, .inl (v_1.2.2.2.2.1))), (cn0, .inl (g 0, 10, .inl (v_1.2.2.2.2.2))), (nw0, .inl (g 0, 748, .inl (v_1.2.2.2.1))), (ik0, .inl (g 2, 2, .inl ik))] H := hP
    have hD : va_D A [(m0, .inr (8, [.int 0, .ref sc0, .int (nI ss), .int (nI v_1.2.1), .int v_1.1, .int v_1.2.2.1, .ref rd0, .ref nw0, .ref tr0, .ref di0, .int 0, .ref ke0, .ref ik0, .ref cp0, .ref cn0, .ref be0])), (sc0, .inl (g 0, 120, .inl sc)), (rd0, .inl (g 0, 748, .inl (v_1.2.2.2.1))), (cp0, .inl (g 0, 10, .inl (v_1.2.2.2.2.1))), (cn0, .inl (g 0, 10, .inl (v_1.2.2.2.2.2))), (nw0, .inl (g 0, 748, .inl (v_1.2.2.2.1))), (ik0, .inl (g 2, 2, .inl ik))] := hD
    refine lv_aload_n hx hb dX8_load_45 rfl (lv_at hl 0 rfl) ?_
    refine va_get (D := D) (ci := 8) (v := .ref ik0) (C := RX8) (T := TX8) (N := 16) hx hb hts (fun w h => (List.mem_cons_of_mem _ (List.mem_append_right _ h))) hown hK hP 0 rfl rfl 12 (by decide) (hts _ qX8_load_3) (fun _ h9 => h9) rfl dX8_load_46 ?_
    refine lv_iconst (v := 0) hx hb dX8_load_49 (by decide) ?_
    refine lv_iconst (v := 0) hx hb dX8_load_50 (by decide) ?_
    refine va_zast (i := 0) (x := 0) hx hb hK hP hD hS 6 2 rfl rfl (vp_in_nI (n := 0) (by decide) (by decide)) dX8_load_51 (fun H locs hP hD hS => ?_)
    rw [show vp_nar .boolean 0 = 0 from rfl] at hP hD
    have hP : va_P D vwCl [(m0, .inr (8, [.int 0, .ref sc0, .int (nI ss), .int (nI v_1.2.1), .int v_1.1, .int v_1.2.2.1, .ref rd0, .ref nw0, .ref tr0, .ref di0, .int 0, .ref ke0, .ref ik0, .ref cp0, .ref cn0, .ref be0])), (sc0, .inl (g 0, 120, .inl sc)), (rd0, .inl (g 0, 748, .inl (v_1.2.2.2.1))), (cp0, .inl (g 0, 10, .inl (v_1.2.2.2.2.1))), (cn0, .inl (g 0, 10, .inl (v_1.2.2.2.2.2))), (nw0, .inl (g 0, 748, .inl (v_1.2.2.2.1))), (ik0, .inl (g 2, 2, .inl (upd ik 0 0)))] H := hP
    have hD : va_D A [(m0, .inr (8, [.int 0, .ref sc0, .int (nI ss), .int (nI v_1.2.1), .int v_1.1, .int v_1.2.2.1, .ref rd0, .ref nw0, .ref tr0, .ref di0, .int 0, .ref ke0, .ref ik0, .ref cp0, .ref cn0, .ref be0])), (sc0, .inl (g 0, 120, .inl sc)), (rd0, .inl (g 0, 748, .inl (v_1.2.2.2.1))), (cp0, .inl (g 0, 10, .inl (v_1.2.2.2.2.1))), (cn0, .inl (g 0, 10, .inl (v_1.2.2.2.2.2))), (nw0, .inl (g 0, 748, .inl (v_1.2.2.2.1))), (ik0, .inl (g 2, 2, .inl (upd ik 0 0)))] := hD
    refine lv_aload_n hx hb dX8_load_52 rfl (lv_at hl 0 rfl) ?_
    refine va_get (D := D) (ci := 8) (v := .ref ik0) (C := RX8) (T := TX8) (N := 16) hx hb hts (fun w h => (List.mem_cons_of_mem _ (List.mem_append_right _ h))) hown hK hP 0 rfl rfl 12 (by decide) (hts _ qX8_load_3) (fun _ h9 => h9) rfl dX8_load_53 ?_
    refine lv_iconst (v := 1) hx hb dX8_load_56 (by decide) ?_
    refine lv_iconst (v := 0) hx hb dX8_load_57 (by decide) ?_
    refine va_zast (i := 1) (x := 0) hx hb hK hP hD hS 6 2 rfl rfl (vp_in_nI (n := 1) (by decide) (by decide)) dX8_load_58 (fun H locs hP hD hS => ?_)
    rw [show vp_nar .boolean 0 = 0 from rfl] at hP hD
    have hP : va_P D vwCl [(m0, .inr (8, [.int 0, .ref sc0, .int (nI ss), .int (nI v_1.2.1), .int v_1.1, .int v_1.2.2.1, .ref rd0, .ref nw0, .ref tr0, .ref di0, .int 0, .ref ke0, .ref ik0, .ref cp0, .ref cn0, .ref be0])), (sc0, .inl (g 0, 120, .inl sc)), (rd0, .inl (g 0, 748, .inl (v_1.2.2.2.1))), (cp0, .inl (g 0, 10, .inl (v_1.2.2.2.2.1))), (cn0, .inl (g 0, 10, .inl (v_1.2.2.2.2.2))), (nw0, .inl (g 0, 748, .inl (v_1.2.2.2.1))), (ik0, .inl (g 2, 2, .inl (upd (upd ik 0 0) 1 0)))] H := hP
    have hD : va_D A [(m0, .inr (8, [.int 0, .ref sc0, .int (nI ss), .int (nI v_1.2.1), .int v_1.1, .int v_1.2.2.1, .ref rd0, .ref nw0, .ref tr0, .ref di0, .int 0, .ref ke0, .ref ik0, .ref cp0, .ref cn0, .ref be0])), (sc0, .inl (g 0, 120, .inl sc)), (rd0, .inl (g 0, 748, .inl (v_1.2.2.2.1))), (cp0, .inl (g 0, 10, .inl (v_1.2.2.2.2.1))), (cn0, .inl (g 0, 10, .inl (v_1.2.2.2.2.2))), (nw0, .inl (g 0, 748, .inl (v_1.2.2.2.1))), (ik0, .inl (g 2, 2, .inl (upd (upd ik 0 0) 1 0)))] := hD
    refine lv_aload_n hx hb dX8_load_59 rfl (lv_at hl 0 rfl) ?_
    refine va_get (D := D) (ci := 8) (v := .int v_1.2.2.1) (C := RX8) (T := TX8) (N := 16) hx hb hts (fun w h => (List.mem_cons_of_mem _ (List.mem_append_right _ h))) hown hK hP 0 rfl rfl 5 (by decide) (hts _ qX8_load_4) (fun _ h9 => h9) rfl dX8_load_60 ?_
    have ev_1 : (tR ss sc cp cn) = v_1 := Eq.symm kev_1
    have hE2 : (f_X8_load ss sc cp cn ik) = (v_1.2.2.1, v_1.1, v_1.2.1, v_1.2.2.1, (v_1.2.2.2.1), (v_1.2.2.2.2.1), (v_1.2.2.2.2.2), (v_1.2.2.2.1), (upd (upd ik 0 0) 1 0)) := by
      subst ev_1
      exact rfl
    subst hQ
    exact k_ri hx hb hr hlocks hP hD hS dX8_load_63 (by rw [hE2]) (by rw [hE2])
set_option maxHeartbeats 4000000 in
set_option maxRecDepth 100000 in
theorem c_X8_load_bad (l : Launch) (D : va_G) (g : Nat → Nat) (m0 sc0 rd0 nw0 tr0 di0 ke0 ik0 cp0 cn0 be0 : Nat) (sz : Nat) (rf : Int32) (ss : Nat) (sp : Nat) (ig : Int32) (lo : Int32) (ac : Nat) (sc : Nat → Int32) (rw : Nat → Int32) (cp : Nat → Int32) (cn : Nat → Int32) (nw : Nat → Int32) (ik : Nat → Int32) (hss : ss ≤ 120) (hk : ¬ (kc_X8_load ss sc cp cn) = 0) : kMi l D g yX8_load wsX8_load 9 0 0 [.ref m0] [(m0, .inr (8, [.int rf, .ref sc0, .int (nI ss), .int (nI sp), .int ig, .int lo, .ref rd0, .ref nw0, .ref tr0, .ref di0, .int (nI ac), .ref ke0, .ref ik0, .ref cp0, .ref cn0, .ref be0])), (sc0, .inl (g 0, 120, .inl sc)), (rd0, .inl (g 0, 748, .inl rw)), (cp0, .inl (g 0, 10, .inl cp)), (cn0, .inl (g 0, 10, .inl cn)), (nw0, .inl (g 0, 748, .inl nw)), (ik0, .inl (g 2, 2, .inl ik))] sz 0 [(m0, .inr (8, [.int (kc_X8_load ss sc cp cn), .ref sc0, .int (nI ss), .int (nI ((tR ss sc cp cn).2.1)), .int ((tR ss sc cp cn).1), .int ((tR ss sc cp cn).2.2.1), .ref rd0, .ref nw0, .ref tr0, .ref di0, .int (nI ac), .ref ke0, .ref ik0, .ref cp0, .ref cn0, .ref be0])), (sc0, .inl (g 0, 120, .inl sc)), (rd0, .inl (g 0, 748, .inl ((tR ss sc cp cn).2.2.2.1))), (cp0, .inl (g 0, 10, .inl ((tR ss sc cp cn).2.2.2.2.1))), (cn0, .inl (g 0, 10, .inl ((tR ss sc cp cn).2.2.2.2.2))), (nw0, .inl (g 0, 748, .inl nw)), (ik0, .inl (g 2, 2, .inl ik))] := by
  refine k_enter (nm := "load") (own := RX8) (bytes := cX8_load) (maxL := 1) (ret := (some .int)) (Qf := fun A => kQi D [(m0, .inr (8, [.int (kc_X8_load ss sc cp cn), .ref sc0, .int (nI ss), .int (nI ((tR ss sc cp cn).2.1)), .int ((tR ss sc cp cn).1), .int ((tR ss sc cp cn).2.2.1), .ref rd0, .ref nw0, .ref tr0, .ref di0, .int (nI ac), .ref ke0, .ref ik0, .ref cp0, .ref cn0, .ref be0])), (sc0, .inl (g 0, 120, .inl sc)), (rd0, .inl (g 0, 748, .inl ((tR ss sc cp cn).2.2.2.1))), (cp0, .inl (g 0, 10, .inl ((tR ss sc cp cn).2.2.2.2.1))), (cn0, .inl (g 0, 10, .inl ((tR ss sc cp cn).2.2.2.2.2))), (nw0, .inl (g 0, 748, .inl nw)), (ik0, .inl (g 2, 2, .inl ik))] A 0) (by decide) rfl rfl rfl (Nat.le_of_ble_eq_true rfl) ?_
  rintro pp ee s mm below meth cc A ls args Q H locs hQ ⟨hx, hb, hr, hml, hown, hts, hlocks, hin⟩ hP hK hD hA hS hE hl
  have hl : lv_has ls 1 [(0, .ref m0)] := hl
  refine lv_aload_n hx hb dX8_load_0 rfl (lv_at hl 0 rfl) ?_
  refine lv_aload_n hx hb dX8_load_1 rfl (lv_at hl 0 rfl) ?_
  have hC := c_X8_readText l D g m0 sc0 rd0 nw0 tr0 di0 ke0 ik0 cp0 cn0 be0 H.size rf ss sp ig lo ac sc rw cp cn (by omega)
  obtain ⟨v_1, ev_1⟩ : ∃ z, z = (tR ss sc cp cn) := ⟨_, rfl⟩
  rw [← ev_1] at hC
  have hsv_1_0 : rdOk (tR ss sc cp cn).2.2.2.1 := (tR_ok ss sc cp cn).1
  rw [← ev_1] at hsv_1_0
  have hsv_1_1 : (tR ss sc cp cn).2.1 ≤ ss + 14 := (tR_ok ss sc cp cn).2
  rw [← ev_1] at hsv_1_1
  have kev_1 : kEq v_1 (tR ss sc cp cn) := ev_1
  clear ev_1
  refine k_ai (wr := [(nw0, .inl (g 0, 748, .inl nw)), (ik0, .inl (g 2, 2, .inl ik))]) (w2 := [(m0, .inr (8, [.int rf, .ref sc0, .int (nI ss), .int (nI v_1.2.1), .int v_1.1, .int v_1.2.2.1, .ref rd0, .ref nw0, .ref tr0, .ref di0, .int (nI ac), .ref ke0, .ref ik0, .ref cp0, .ref cn0, .ref be0])), (sc0, .inl (g 0, 120, .inl sc)), (rd0, .inl (g 0, 748, .inl (v_1.2.2.2.1))), (cp0, .inl (g 0, 10, .inl (v_1.2.2.2.2.1))), (cn0, .inl (g 0, 10, .inl (v_1.2.2.2.2.2))), (nw0, .inl (g 0, 748, .inl nw)), (ik0, .inl (g 2, 2, .inl ik))]) (va_runV (As := []) (rest := [.ref m0]) ⟨hx, hb, hml, hown, hts⟩ hC (cwV 0 hts gX8_load_X8_readText rfl rfl rfl (by decide +kernel) (k_lvl (by omega) (by decide))) (kPV hP hD hK hS hA hE [0, 1, 2, 3, 4] rfl (by decide) 0 8 rfl rfl rfl) rfl rfl hl.1 rfl (lv_room (Nat.le_of_ble_eq_true rfl)) dX8_load_2 ⟨Nat.le_of_ble_eq_true rfl, Nat.le_of_ble_eq_true rfl⟩) hP hD hS hA [0, 1, 2, 3, 4] [5, 6] [2, 3, 4, 5, 6, 0, 1] rfl rfl (by decide) (by decide) rfl (by decide) (fun H locs hP hD hS => ?_)
  refine lv_sipush (v := (-10000)) hx hb dX8_load_5 (by decide) ?_
  refine lv_icmp_ne (tgt := 15) hx hb dX8_load_8 (by decide) (fun c_2 => ?_) (fun c_2 => ?_)
  · refine lv_iconst (v := 1) hx hb dX8_load_15 (by decide) ?_
    refine k_ai (wr := [(sc0, .inl (g 0, 120, .inl sc)), (rd0, .inl (g 0, 748, .inl (v_1.2.2.2.1))), (cp0, .inl (g 0, 10, .inl (v_1.2.2.2.2.1))), (cn0, .inl (g 0, 10, .inl (v_1.2.2.2.2.2))), (nw0, .inl (g 0, 748, .inl nw)), (ik0, .inl (g 2, 2, .inl ik))]) (w2 := [(m0, .inr (8, [.int 1, .ref sc0, .int (nI ss), .int (nI v_1.2.1), .int v_1.1, .int v_1.2.2.1, .ref rd0, .ref nw0, .ref tr0, .ref di0, .int (nI ac), .ref ke0, .ref ik0, .ref cp0, .ref cn0, .ref be0])), (sc0, .inl (g 0, 120, .inl sc)), (rd0, .inl (g 0, 748, .inl (v_1.2.2.2.1))), (cp0, .inl (g 0, 10, .inl (v_1.2.2.2.2.1))), (cn0, .inl (g 0, 10, .inl (v_1.2.2.2.2.2))), (nw0, .inl (g 0, 748, .inl nw)), (ik0, .inl (g 2, 2, .inl ik))]) (va_runV (As := [.int 1]) (rest := []) ⟨hx, hb, hml, hown, hts⟩ (c_X8_refused1 l D g m0 sc0 rd0 nw0 tr0 di0 ke0 ik0 cp0 cn0 be0 H.size rf ss v_1.2.1 v_1.1 v_1.2.2.1 ac) (cwV 1 hts gX8_load_X8_refused rfl rfl rfl (by decide +kernel) (k_lvl (by omega) (by decide))) (kPV hP hD hK hS hA hE [0] rfl (by decide) 0 8 rfl rfl rfl) rfl rfl hl.1 rfl (lv_room (Nat.le_of_ble_eq_true rfl)) dX8_load_16 ⟨Nat.le_of_ble_eq_true rfl, Nat.le_of_ble_eq_true rfl⟩) hP hD hS hA [0] [1, 2, 3, 4, 5, 6] [6, 0, 1, 2, 3, 4, 5] rfl rfl (by decide) (by decide) rfl (by decide) (fun H locs hP hD hS => ?_)
    refine lv_if_eq (tgt := 24) hx hb dX8_load_19 (by decide) (fun c_3 => absurd c_3 (by decide)) (fun _ => ?_)
    refine lv_iconst (v := 0) hx hb dX8_load_22 (by decide) ?_
    have ev_1 : (tR ss sc cp cn) = v_1 := Eq.symm kev_1
    subst ev_1
    subst hQ
    exact k_ri hx hb hr hlocks hP hD hS dX8_load_23 (rfl) (by rw [show (kc_X8_load ss sc cp cn) = 1 from (if_neg c_2).trans (rfl)])
  · refine lv_iconst (v := 0) hx hb dX8_load_11 (by decide) ?_
    refine lv_goto (tgt := 16) hx hb dX8_load_12 (by decide) ?_
    have ev_1 : (tR ss sc cp cn) = v_1 := Eq.symm kev_1
    subst ev_1
    have h9 : (kc_X8_load ss sc cp cn) = 0 := (if_pos c_2).trans (rfl)
    exact absurd h9 hk
def f_X8_isPart (nw : Nat → Int32) (pa : Int32) : Int32 :=
  (f_X8_in (Int32.toInt64 pa) 0 (Int32.toInt64 ((nw 0) - 1)))
theorem qX8_isPart_0 : Cond.fieldLink RX8 16 "BlameChainsModel" "now" "[I" ∈ wsX8_isPart := (List.mem_cons_of_mem _ (List.mem_append_left _ (List.mem_of_getElem? (i := 0) rfl)))
set_option maxHeartbeats 4000000 in
set_option maxRecDepth 100000 in
theorem c_X8_isPart (l : Launch) (D : va_G) (g : Nat → Nat) (m0 sc0 rd0 nw0 tr0 di0 ke0 ik0 cp0 cn0 be0 : Nat) (sz : Nat) (rf : Int32) (ss : Nat) (sp : Nat) (ig : Int32) (lo : Int32) (ac : Nat) (nw : Nat → Int32) (pa : Int32) : kMi l D g yX8_isPart wsX8_isPart 2 0 0 [.ref m0, .int pa] [(m0, .inr (8, [.int rf, .ref sc0, .int (nI ss), .int (nI sp), .int ig, .int lo, .ref rd0, .ref nw0, .ref tr0, .ref di0, .int (nI ac), .ref ke0, .ref ik0, .ref cp0, .ref cn0, .ref be0])), (nw0, .inl (g 0, 748, .inl nw))] sz (f_X8_isPart nw pa) [(m0, .inr (8, [.int rf, .ref sc0, .int (nI ss), .int (nI sp), .int ig, .int lo, .ref rd0, .ref nw0, .ref tr0, .ref di0, .int (nI ac), .ref ke0, .ref ik0, .ref cp0, .ref cn0, .ref be0])), (nw0, .inl (g 0, 748, .inl nw))] := by
  refine k_enter (nm := "isPart") (own := RX8) (bytes := cX8_isPart) (maxL := 2) (ret := (some .boolean)) (Qf := fun A => kQi D [(m0, .inr (8, [.int rf, .ref sc0, .int (nI ss), .int (nI sp), .int ig, .int lo, .ref rd0, .ref nw0, .ref tr0, .ref di0, .int (nI ac), .ref ke0, .ref ik0, .ref cp0, .ref cn0, .ref be0])), (nw0, .inl (g 0, 748, .inl nw))] A (f_X8_isPart nw pa)) (by decide) rfl rfl rfl (Nat.le_of_ble_eq_true rfl) ?_
  rintro pp ee s mm below meth cc A ls args Q H locs hQ ⟨hx, hb, hr, hml, hown, hts, hlocks, hin⟩ hP hK hD hA hS hE hl
  have hl : lv_has ls 2 [(0, .ref m0), (1, .int pa)] := hl
  refine lv_iload_n hx hb dX8_isPart_0 rfl (lv_at hl 1 rfl) ?_
  refine lv_i2l (v := (Int32.toInt64 pa)) hx hb dX8_isPart_1 rfl ?_
  refine lv_lconst (v := 0) hx hb dX8_isPart_2 (by decide) ?_
  refine lv_aload_n hx hb dX8_isPart_3 rfl (lv_at hl 0 rfl) ?_
  refine va_get (D := D) (ci := 8) (v := .ref nw0) (C := RX8) (T := TX8) (N := 16) hx hb hts (fun w h => (List.mem_cons_of_mem _ (List.mem_append_right _ h))) hown hK hP 0 rfl rfl 7 (by decide) (hts _ qX8_isPart_0) (fun _ h9 => h9) rfl dX8_isPart_4 ?_
  refine lv_iconst (v := 0) hx hb dX8_isPart_7 (by decide) ?_
  refine va_iald (i := 0) hx hb hK hP 1 0 rfl rfl (vp_in_nI (n := 0) (by decide) (by decide)) dX8_isPart_8 ?_
  refine k_top (y := (nw 0)) rfl ?_
  refine lv_iconst (v := 1) hx hb dX8_isPart_9 (by decide) ?_
  refine lv_isub hx hb dX8_isPart_10 ?_
  refine lv_i2l (v := (Int32.toInt64 ((nw 0) - 1))) hx hb dX8_isPart_11 rfl ?_
  refine k_ai (wr := [(m0, .inr (8, [.int rf, .ref sc0, .int (nI ss), .int (nI sp), .int ig, .int lo, .ref rd0, .ref nw0, .ref tr0, .ref di0, .int (nI ac), .ref ke0, .ref ik0, .ref cp0, .ref cn0, .ref be0])), (nw0, .inl (g 0, 748, .inl nw))]) (w2 := [(m0, .inr (8, [.int rf, .ref sc0, .int (nI ss), .int (nI sp), .int ig, .int lo, .ref rd0, .ref nw0, .ref tr0, .ref di0, .int (nI ac), .ref ke0, .ref ik0, .ref cp0, .ref cn0, .ref be0])), (nw0, .inl (g 0, 748, .inl nw))]) (va_runS (As := [.long (Int32.toInt64 pa), .long 0, .long (Int32.toInt64 ((nw 0) - 1))]) (rest := []) ⟨hx, hb, hml, hown, hts⟩ (c_X8_in l D g H.size (Int32.toInt64 pa) 0 (Int32.toInt64 ((nw 0) - 1))) (va_cwS 3 hts gX8_isPart_X8_in rfl rfl rfl (by decide +kernel) (k_lvl (by omega) (by decide))) (kPS hP hD hK hS hA hE [] rfl (by decide)) rfl rfl hl.1 rfl (lv_room (Nat.le_of_ble_eq_true rfl)) dX8_isPart_12 ⟨Nat.le_of_ble_eq_true rfl, Nat.le_of_ble_eq_true rfl⟩) hP hD hS hA [] [0, 1] [0, 1] rfl rfl (by decide) (by decide) rfl (by decide) (fun H locs hP hD hS => ?_)
  have hE2 : (f_X8_isPart nw pa) = (f_X8_in (Int32.toInt64 pa) 0 (Int32.toInt64 ((nw 0) - 1))) := by
    exact rfl
  subst hQ
  exact k_rz hx hb hr hlocks hP hD hS dX8_isPart_15 (in_nar _ _ _) (hE2.symm) (rfl)
/-- what about answers before it does anything: 0, or which of its exceptions is thrown -/
def kc_X8_about (what : Int32) : Int32 :=
  if (f_X8_in (Int32.toInt64 what) 0 8) = 0 then
    1
  else
    0
def f_X8_about (nw : Nat → Int32) (what : Int32) : Int32 :=
  let mn_0 := (nw 0).toNatClampNeg
  let what_0 := what.toNatClampNeg
  if what_0 = 0 then
    (nw 0)
  else
    if what_0 = 1 then
      (rCnt nw mn_0 0 (0 + 1 - 0))
    else
      if what_0 = 2 then
        (rCnt nw mn_0 1 (11 + 1 - 1))
      else
        (nw (681 + what_0 - 3))
theorem qX8_about_0 : Cond.constantLong RX8 181 (8) ∈ wsX8_about := (List.mem_cons_of_mem _ (List.mem_append_left _ (List.mem_of_getElem? (i := 0) rfl)))
theorem qX8_about_1 : Cond.fieldLink RX8 16 "BlameChainsModel" "now" "[I" ∈ wsX8_about := (List.mem_cons_of_mem _ (List.mem_append_left _ (List.mem_of_getElem? (i := 1) rfl)))
set_option maxHeartbeats 4000000 in
set_option maxRecDepth 100000 in
theorem c_X8_about (l : Launch) (D : va_G) (g : Nat → Nat) (m0 sc0 rd0 nw0 tr0 di0 ke0 ik0 cp0 cn0 be0 : Nat) (sz : Nat) (rf : Int32) (ss : Nat) (sp : Nat) (ig : Int32) (lo : Int32) (ac : Nat) (nw : Nat → Int32) (what : Int32) (hO : rdOk nw) (hk : (kc_X8_about what) = 0) : kMi l D g yX8_about wsX8_about 3 0 0 [.ref m0, .int what] [(m0, .inr (8, [.int rf, .ref sc0, .int (nI ss), .int (nI sp), .int ig, .int lo, .ref rd0, .ref nw0, .ref tr0, .ref di0, .int (nI ac), .ref ke0, .ref ik0, .ref cp0, .ref cn0, .ref be0])), (nw0, .inl (g 0, 748, .inl nw))] sz (f_X8_about nw what) [(m0, .inr (8, [.int 0, .ref sc0, .int (nI ss), .int (nI sp), .int ig, .int lo, .ref rd0, .ref nw0, .ref tr0, .ref di0, .int (nI ac), .ref ke0, .ref ik0, .ref cp0, .ref cn0, .ref be0])), (nw0, .inl (g 0, 748, .inl nw))] := by
  refine k_enter (nm := "about") (own := RX8) (bytes := cX8_about) (maxL := 2) (ret := (some .int)) (Qf := fun A => kQi D [(m0, .inr (8, [.int 0, .ref sc0, .int (nI ss), .int (nI sp), .int ig, .int lo, .ref rd0, .ref nw0, .ref tr0, .ref di0, .int (nI ac), .ref ke0, .ref ik0, .ref cp0, .ref cn0, .ref be0])), (nw0, .inl (g 0, 748, .inl nw))] A (f_X8_about nw what)) (by decide) rfl rfl rfl (Nat.le_of_ble_eq_true rfl) ?_
  rintro pp ee s mm below meth cc A ls args Q H locs hQ ⟨hx, hb, hr, hml, hown, hts, hlocks, hin⟩ hP hK hD hA hS hE hl
  have hl : lv_has ls 2 [(0, .ref m0), (1, .int what)] := hl
  obtain ⟨mn_0, emn_0⟩ : ∃ z, z = (nw 0).toNatClampNeg := ⟨_, rfl⟩
  have hmn : nw 0 = nI mn_0 := by rw [emn_0]; exact (rdOk_mn hO).1
  have hm9 : mn_0 ≤ 10 := by rw [emn_0]; exact (rdOk_mn hO).2
  have kemn_0 : kEq mn_0 (nw 0).toNatClampNeg := emn_0
  clear emn_0
  refine lv_aload_n hx hb dX8_about_0 rfl (lv_at hl 0 rfl) ?_
  refine lv_iload_n hx hb dX8_about_1 rfl (lv_at hl 1 rfl) ?_
  refine lv_i2l (v := (Int32.toInt64 what)) hx hb dX8_about_2 rfl ?_
  refine lv_lconst (v := 0) hx hb dX8_about_3 (by decide) ?_
  refine lv_ldc2 hx hb hown (hts _ qX8_about_0) dX8_about_4 ?_
  refine k_ai (wr := [(m0, .inr (8, [.int rf, .ref sc0, .int (nI ss), .int (nI sp), .int ig, .int lo, .ref rd0, .ref nw0, .ref tr0, .ref di0, .int (nI ac), .ref ke0, .ref ik0, .ref cp0, .ref cn0, .ref be0])), (nw0, .inl (g 0, 748, .inl nw))]) (w2 := [(m0, .inr (8, [.int rf, .ref sc0, .int (nI ss), .int (nI sp), .int ig, .int lo, .ref rd0, .ref nw0, .ref tr0, .ref di0, .int (nI ac), .ref ke0, .ref ik0, .ref cp0, .ref cn0, .ref be0])), (nw0, .inl (g 0, 748, .inl nw))]) (va_runS (As := [.long (Int32.toInt64 what), .long 0, .long 8]) (rest := [.ref m0]) ⟨hx, hb, hml, hown, hts⟩ (c_X8_in l D g H.size (Int32.toInt64 what) 0 8) (va_cwS 3 hts gX8_about_X8_in rfl rfl rfl (by decide +kernel) (k_lvl (by omega) (by decide))) (kPS hP hD hK hS hA hE [] rfl (by decide)) rfl rfl hl.1 rfl (lv_room (Nat.le_of_ble_eq_true rfl)) dX8_about_7 ⟨Nat.le_of_ble_eq_true rfl, Nat.le_of_ble_eq_true rfl⟩) hP hD hS hA [] [0, 1] [0, 1] rfl rfl (by decide) (by decide) rfl (by decide) (fun H locs hP hD hS => ?_)
  refine lv_if_eq (tgt := 17) hx hb dX8_about_10 (by decide) (fun c_1 => ?_) (fun c_1 => ?_)
  · refine lv_iconst (v := 1) hx hb dX8_about_17 (by decide) ?_
    have emn_0 : (nw 0).toNatClampNeg = mn_0 := Eq.symm kemn_0
    subst emn_0
    have h9 : (kc_X8_about what) = 1 := (if_pos c_1).trans (rfl)
    rw [hk] at h9
    exact absurd h9 (by decide)
  · refine lv_iconst (v := 0) hx hb dX8_about_13 (by decide) ?_
    refine lv_goto (tgt := 18) hx hb dX8_about_14 (by decide) ?_
    refine k_ai (wr := [(nw0, .inl (g 0, 748, .inl nw))]) (w2 := [(m0, .inr (8, [.int 0, .ref sc0, .int (nI ss), .int (nI sp), .int ig, .int lo, .ref rd0, .ref nw0, .ref tr0, .ref di0, .int (nI ac), .ref ke0, .ref ik0, .ref cp0, .ref cn0, .ref be0])), (nw0, .inl (g 0, 748, .inl nw))]) (va_runV (As := [.int 0]) (rest := []) ⟨hx, hb, hml, hown, hts⟩ (c_X8_refused0 l D g m0 sc0 rd0 nw0 tr0 di0 ke0 ik0 cp0 cn0 be0 H.size rf ss sp ig lo ac) (cwV 1 hts gX8_about_X8_refused rfl rfl rfl (by decide +kernel) (k_lvl (by omega) (by decide))) (kPV hP hD hK hS hA hE [0] rfl (by decide) 0 8 rfl rfl rfl) rfl rfl hl.1 rfl (lv_room (Nat.le_of_ble_eq_true rfl)) dX8_about_18 ⟨Nat.le_of_ble_eq_true rfl, Nat.le_of_ble_eq_true rfl⟩) hP hD hS hA [0] [1] [1, 0] rfl rfl (by decide) (by decide) rfl (by decide) (fun H locs hP hD hS => ?_)
    refine lv_if_eq (tgt := 26) hx hb dX8_about_21 (by decide) (fun _ => ?_) (fun c_2 => absurd c_2 (by decide))
    obtain ⟨what_0, ewhat_0⟩ : ∃ z, z = what.toNatClampNeg := ⟨_, rfl⟩
    have qwhat_0 : what = nI what_0 := by rw [ewhat_0]; exact (in_N (K := 8) (by decide) c_1).1
    have bwhat_0 : what_0 ≤ 8 := by rw [ewhat_0]; exact (in_N (K := 8) (by decide) c_1).2
    have kewhat_0 : kEq what_0 what.toNatClampNeg := ewhat_0
    clear ewhat_0
    have hl : lv_has ls 2 [(0, .ref m0), (1, .int (nI what_0))] := by
      have h9 := hl
      rw [qwhat_0] at h9
      exact h9
    refine lv_iload_n hx hb dX8_about_26 rfl (lv_at hl 1 rfl) ?_
    by_cases c_3 : what_0 = 0
    · refine k_tabIn (v := 0) (off := 25) (tgt := 52) hx hb dX8_about_27 (congrArg nI c_3) (by decide) (by decide) rfl (by decide) ?_
      refine lv_aload_n hx hb dX8_about_52 rfl (lv_at hl 0 rfl) ?_
      refine va_get (D := D) (ci := 8) (v := .ref nw0) (C := RX8) (T := TX8) (N := 16) hx hb hts (fun w h => (List.mem_cons_of_mem _ (List.mem_append_right _ h))) hown hK hP 0 rfl rfl 7 (by decide) (hts _ qX8_about_1) (fun _ h9 => h9) rfl dX8_about_53 ?_
      refine lv_iconst (v := 0) hx hb dX8_about_56 (by decide) ?_
      refine va_iald (i := 0) hx hb hK hP 1 0 rfl rfl (vp_in_nI (n := 0) (by decide) (by decide)) dX8_about_57 ?_
      refine k_top (y := (nw 0)) rfl ?_
      have ewhat_0 : what.toNatClampNeg = what_0 := Eq.symm kewhat_0
      have emn_0 : (nw 0).toNatClampNeg = mn_0 := Eq.symm kemn_0
      have hE2 : (f_X8_about nw what) = (nw 0) := by
        subst ewhat_0
        subst emn_0
        exact (if_pos c_3).trans (rfl)
      subst hQ
      exact k_ri hx hb hr hlocks hP hD hS dX8_about_58 (hE2.symm) (rfl)
    by_cases c_4 : what_0 = 1
    · refine k_tabIn (v := 1) (off := 32) (tgt := 59) hx hb dX8_about_27 (congrArg nI c_4) (by decide) (by decide) rfl (by decide) ?_
      refine lv_aload_n hx hb dX8_about_59 rfl (lv_at hl 0 rfl) ?_
      refine va_get (D := D) (ci := 8) (v := .ref nw0) (C := RX8) (T := TX8) (N := 16) hx hb hts (fun w h => (List.mem_cons_of_mem _ (List.mem_append_right _ h))) hown hK hP 0 rfl rfl 7 (by decide) (hts _ qX8_about_1) (fun _ h9 => h9) rfl dX8_about_60 ?_
      refine lv_iconst (v := 0) hx hb dX8_about_63 (by decide) ?_
      refine lv_iconst (v := 0) hx hb dX8_about_64 (by decide) ?_
      refine k_ai (wr := [(m0, .inr (8, [.int 0, .ref sc0, .int (nI ss), .int (nI sp), .int ig, .int lo, .ref rd0, .ref nw0, .ref tr0, .ref di0, .int (nI ac), .ref ke0, .ref ik0, .ref cp0, .ref cn0, .ref be0]))]) (w2 := [(m0, .inr (8, [.int 0, .ref sc0, .int (nI ss), .int (nI sp), .int ig, .int lo, .ref rd0, .ref nw0, .ref tr0, .ref di0, .int (nI ac), .ref ke0, .ref ik0, .ref cp0, .ref cn0, .ref be0])), (nw0, .inl (g 0, 748, .inl nw))]) (va_runS (As := [.ref nw0, .int 0, .int 0]) (rest := []) ⟨hx, hb, hml, hown, hts⟩ (c_X8_contracts l D g nw0 H.size nw 0 0 mn_0 hmn (by omega) (by omega) (by omega)) (va_cwS 3 hts gX8_about_X8_contracts rfl rfl rfl (by decide +kernel) (k_lvl (by omega) (by decide))) (kPS hP hD hK hS hA hE [1] rfl (by decide)) rfl rfl hl.1 rfl (lv_room (Nat.le_of_ble_eq_true rfl)) dX8_about_65 ⟨Nat.le_of_ble_eq_true rfl, Nat.le_of_ble_eq_true rfl⟩) hP hD hS hA [1] [0] [0, 1] rfl rfl (by decide) (by decide) rfl (by decide) (fun H locs hP hD hS => ?_)
      have ewhat_0 : what.toNatClampNeg = what_0 := Eq.symm kewhat_0
      have emn_0 : (nw 0).toNatClampNeg = mn_0 := Eq.symm kemn_0
      have hE2 : (f_X8_about nw what) = (rCnt nw mn_0 0 (0 + 1 - 0)) := by
        subst ewhat_0
        subst emn_0
        exact (if_neg c_3).trans ((if_pos c_4).trans (rfl))
      subst hQ
      exact k_ri hx hb hr hlocks hP hD hS dX8_about_68 (hE2.symm) (rfl)
    by_cases c_5 : what_0 = 2
    · refine k_tabIn (v := 2) (off := 42) (tgt := 69) hx hb dX8_about_27 (congrArg nI c_5) (by decide) (by decide) rfl (by decide) ?_
      refine lv_aload_n hx hb dX8_about_69 rfl (lv_at hl 0 rfl) ?_
      refine va_get (D := D) (ci := 8) (v := .ref nw0) (C := RX8) (T := TX8) (N := 16) hx hb hts (fun w h => (List.mem_cons_of_mem _ (List.mem_append_right _ h))) hown hK hP 0 rfl rfl 7 (by decide) (hts _ qX8_about_1) (fun _ h9 => h9) rfl dX8_about_70 ?_
      refine lv_iconst (v := 1) hx hb dX8_about_73 (by decide) ?_
      refine lv_bipush (v := 11) hx hb dX8_about_74 (by decide) ?_
      refine k_ai (wr := [(m0, .inr (8, [.int 0, .ref sc0, .int (nI ss), .int (nI sp), .int ig, .int lo, .ref rd0, .ref nw0, .ref tr0, .ref di0, .int (nI ac), .ref ke0, .ref ik0, .ref cp0, .ref cn0, .ref be0]))]) (w2 := [(m0, .inr (8, [.int 0, .ref sc0, .int (nI ss), .int (nI sp), .int ig, .int lo, .ref rd0, .ref nw0, .ref tr0, .ref di0, .int (nI ac), .ref ke0, .ref ik0, .ref cp0, .ref cn0, .ref be0])), (nw0, .inl (g 0, 748, .inl nw))]) (va_runS (As := [.ref nw0, .int 1, .int 11]) (rest := []) ⟨hx, hb, hml, hown, hts⟩ (c_X8_contracts l D g nw0 H.size nw 1 11 mn_0 hmn (by omega) (by omega) (by omega)) (va_cwS 3 hts gX8_about_X8_contracts rfl rfl rfl (by decide +kernel) (k_lvl (by omega) (by decide))) (kPS hP hD hK hS hA hE [1] rfl (by decide)) rfl rfl hl.1 rfl (lv_room (Nat.le_of_ble_eq_true rfl)) dX8_about_76 ⟨Nat.le_of_ble_eq_true rfl, Nat.le_of_ble_eq_true rfl⟩) hP hD hS hA [1] [0] [0, 1] rfl rfl (by decide) (by decide) rfl (by decide) (fun H locs hP hD hS => ?_)
      have ewhat_0 : what.toNatClampNeg = what_0 := Eq.symm kewhat_0
      have emn_0 : (nw 0).toNatClampNeg = mn_0 := Eq.symm kemn_0
      have hE2 : (f_X8_about nw what) = (rCnt nw mn_0 1 (11 + 1 - 1)) := by
        subst ewhat_0
        subst emn_0
        exact (if_neg c_3).trans ((if_neg c_4).trans ((if_pos c_5).trans (rfl)))
      subst hQ
      exact k_ri hx hb hr hlocks hP hD hS dX8_about_79 (hE2.symm) (rfl)
    refine k_tabDef (tgt := 80) hx hb dX8_about_27 ?_ (by decide) ?_
    · intro v h1 h2 q
      rcases k_rng h1 with h3 | h1
      · subst h3; exact (c_3 ((nI_eq (by omega) (by omega)).mp (k_ti (k := nI 0) (by decide) q))).elim
      rcases k_rng h1 with h3 | h1
      · subst h3; exact (c_4 ((nI_eq (by omega) (by omega)).mp (k_ti (k := nI 1) (by decide) q))).elim
      rcases k_rng h1 with h3 | h1
      · subst h3; exact (c_5 ((nI_eq (by omega) (by omega)).mp (k_ti (k := nI 2) (by decide) q))).elim
      exfalso; omega
    refine lv_aload_n hx hb dX8_about_80 rfl (lv_at hl 0 rfl) ?_
    refine va_get (D := D) (ci := 8) (v := .ref nw0) (C := RX8) (T := TX8) (N := 16) hx hb hts (fun w h => (List.mem_cons_of_mem _ (List.mem_append_right _ h))) hown hK hP 0 rfl rfl 7 (by decide) (hts _ qX8_about_1) (fun _ h9 => h9) rfl dX8_about_81 ?_
    refine lv_sipush (v := 681) hx hb dX8_about_84 (by decide) ?_
    refine lv_iload_n hx hb dX8_about_87 rfl (lv_at hl 1 rfl) ?_
    refine lv_iadd hx hb dX8_about_88 ?_
    refine k_top (y := (nI (681 + what_0))) (nI_add 681 what_0) ?_
    refine lv_iconst (v := 3) hx hb dX8_about_89 (by decide) ?_
    refine lv_isub hx hb dX8_about_90 ?_
    refine k_top (y := (nI (681 + what_0 - 3))) (pk_sub (a := 681 + what_0) (b := 3) (by omega)) ?_
    refine va_iald (i := (nI (681 + what_0 - 3))) hx hb hK hP 1 0 rfl rfl (vp_in_nI (n := (681 + what_0 - 3)) (by omega) (by omega)) dX8_about_91 ?_
    refine k_top (y := (nw (681 + what_0 - 3))) (by rw [nI_clamp (by omega)]) ?_
    have ewhat_0 : what.toNatClampNeg = what_0 := Eq.symm kewhat_0
    have emn_0 : (nw 0).toNatClampNeg = mn_0 := Eq.symm kemn_0
    have hE2 : (f_X8_about nw what) = (nw (681 + what_0 - 3)) := by
      subst ewhat_0
      subst emn_0
      exact (if_neg c_3).trans ((if_neg c_4).trans ((if_neg c_5).trans (rfl)))
    subst hQ
    exact k_ri hx hb hr hlocks hP hD hS dX8_about_92 (hE2.symm) (rfl)
theorem qc_X8_about_bad_X8_about_0 : Cond.constantLong RX8 181 (8) ∈ wsX8_about := (List.mem_cons_of_mem _ (List.mem_append_left _ (List.mem_of_getElem? (i := 0) rfl)))
set_option maxHeartbeats 4000000 in
set_option maxRecDepth 100000 in
theorem c_X8_about_bad (l : Launch) (D : va_G) (g : Nat → Nat) (m0 sc0 rd0 nw0 tr0 di0 ke0 ik0 cp0 cn0 be0 : Nat) (sz : Nat) (rf : Int32) (ss : Nat) (sp : Nat) (ig : Int32) (lo : Int32) (ac : Nat) (nw : Nat → Int32) (what : Int32) (hO : rdOk nw) (hk : ¬ (kc_X8_about what) = 0) : kMi l D g yX8_about wsX8_about 3 0 0 [.ref m0, .int what] [(m0, .inr (8, [.int rf, .ref sc0, .int (nI ss), .int (nI sp), .int ig, .int lo, .ref rd0, .ref nw0, .ref tr0, .ref di0, .int (nI ac), .ref ke0, .ref ik0, .ref cp0, .ref cn0, .ref be0])), (nw0, .inl (g 0, 748, .inl nw))] sz 0 [(m0, .inr (8, [.int (kc_X8_about what), .ref sc0, .int (nI ss), .int (nI sp), .int ig, .int lo, .ref rd0, .ref nw0, .ref tr0, .ref di0, .int (nI ac), .ref ke0, .ref ik0, .ref cp0, .ref cn0, .ref be0])), (nw0, .inl (g 0, 748, .inl nw))] := by
  refine k_enter (nm := "about") (own := RX8) (bytes := cX8_about) (maxL := 2) (ret := (some .int)) (Qf := fun A => kQi D [(m0, .inr (8, [.int (kc_X8_about what), .ref sc0, .int (nI ss), .int (nI sp), .int ig, .int lo, .ref rd0, .ref nw0, .ref tr0, .ref di0, .int (nI ac), .ref ke0, .ref ik0, .ref cp0, .ref cn0, .ref be0])), (nw0, .inl (g 0, 748, .inl nw))] A 0) (by decide) rfl rfl rfl (Nat.le_of_ble_eq_true rfl) ?_
  rintro pp ee s mm below meth cc A ls args Q H locs hQ ⟨hx, hb, hr, hml, hown, hts, hlocks, hin⟩ hP hK hD hA hS hE hl
  have hl : lv_has ls 2 [(0, .ref m0), (1, .int what)] := hl
  refine lv_aload_n hx hb dX8_about_0 rfl (lv_at hl 0 rfl) ?_
  refine lv_iload_n hx hb dX8_about_1 rfl (lv_at hl 1 rfl) ?_
  refine lv_i2l (v := (Int32.toInt64 what)) hx hb dX8_about_2 rfl ?_
  refine lv_lconst (v := 0) hx hb dX8_about_3 (by decide) ?_
  refine lv_ldc2 hx hb hown (hts _ qc_X8_about_bad_X8_about_0) dX8_about_4 ?_
  refine k_ai (wr := [(m0, .inr (8, [.int rf, .ref sc0, .int (nI ss), .int (nI sp), .int ig, .int lo, .ref rd0, .ref nw0, .ref tr0, .ref di0, .int (nI ac), .ref ke0, .ref ik0, .ref cp0, .ref cn0, .ref be0])), (nw0, .inl (g 0, 748, .inl nw))]) (w2 := [(m0, .inr (8, [.int rf, .ref sc0, .int (nI ss), .int (nI sp), .int ig, .int lo, .ref rd0, .ref nw0, .ref tr0, .ref di0, .int (nI ac), .ref ke0, .ref ik0, .ref cp0, .ref cn0, .ref be0])), (nw0, .inl (g 0, 748, .inl nw))]) (va_runS (As := [.long (Int32.toInt64 what), .long 0, .long 8]) (rest := [.ref m0]) ⟨hx, hb, hml, hown, hts⟩ (c_X8_in l D g H.size (Int32.toInt64 what) 0 8) (va_cwS 3 hts gX8_about_X8_in rfl rfl rfl (by decide +kernel) (k_lvl (by omega) (by decide))) (kPS hP hD hK hS hA hE [] rfl (by decide)) rfl rfl hl.1 rfl (lv_room (Nat.le_of_ble_eq_true rfl)) dX8_about_7 ⟨Nat.le_of_ble_eq_true rfl, Nat.le_of_ble_eq_true rfl⟩) hP hD hS hA [] [0, 1] [0, 1] rfl rfl (by decide) (by decide) rfl (by decide) (fun H locs hP hD hS => ?_)
  refine lv_if_eq (tgt := 17) hx hb dX8_about_10 (by decide) (fun c_1 => ?_) (fun c_1 => ?_)
  · refine lv_iconst (v := 1) hx hb dX8_about_17 (by decide) ?_
    refine k_ai (wr := [(nw0, .inl (g 0, 748, .inl nw))]) (w2 := [(m0, .inr (8, [.int 1, .ref sc0, .int (nI ss), .int (nI sp), .int ig, .int lo, .ref rd0, .ref nw0, .ref tr0, .ref di0, .int (nI ac), .ref ke0, .ref ik0, .ref cp0, .ref cn0, .ref be0])), (nw0, .inl (g 0, 748, .inl nw))]) (va_runV (As := [.int 1]) (rest := []) ⟨hx, hb, hml, hown, hts⟩ (c_X8_refused1 l D g m0 sc0 rd0 nw0 tr0 di0 ke0 ik0 cp0 cn0 be0 H.size rf ss sp ig lo ac) (cwV 1 hts gX8_about_X8_refused rfl rfl rfl (by decide +kernel) (k_lvl (by omega) (by decide))) (kPV hP hD hK hS hA hE [0] rfl (by decide) 0 8 rfl rfl rfl) rfl rfl hl.1 rfl (lv_room (Nat.le_of_ble_eq_true rfl)) dX8_about_18 ⟨Nat.le_of_ble_eq_true rfl, Nat.le_of_ble_eq_true rfl⟩) hP hD hS hA [0] [1] [1, 0] rfl rfl (by decide) (by decide) rfl (by decide) (fun H locs hP hD hS => ?_)
    refine lv_if_eq (tgt := 26) hx hb dX8_about_21 (by decide) (fun c_2 => absurd c_2 (by decide)) (fun _ => ?_)
    refine lv_iconst (v := 0) hx hb dX8_about_24 (by decide) ?_
    subst hQ
    exact k_ri hx hb hr hlocks hP hD hS dX8_about_25 (rfl) (by rw [show (kc_X8_about what) = 1 from (if_pos c_1).trans (rfl)])
  · refine lv_iconst (v := 0) hx hb dX8_about_13 (by decide) ?_
    refine lv_goto (tgt := 18) hx hb dX8_about_14 (by decide) ?_
    have h9 : (kc_X8_about what) = 0 := (if_neg c_1).trans (rfl)
    exact absurd h9 hk
/-- what part answers before it does anything: 0, or which of its exceptions is thrown -/
def kc_X8_part (nw : Nat → Int32) (pa : Int32) (what : Int32) : Int32 :=
  if (f_X8_isPart nw pa) = 0 then
    1
  else
    if (f_X8_in (Int32.toInt64 what) 0 8) = 0 then
      2
    else
      0
def f_X8_part (nw : Nat → Int32) (pa : Int32) (what : Int32) : Int32 :=
  let mn_0 := (nw 0).toNatClampNeg
  let pa_0 := pa.toNatClampNeg
  let what_0 := what.toNatClampNeg
  if (f_X8_next nw pa_0) < 0 then
    if what_0 = 2 then
      (-10000)
    else
      if what_0 = 3 then
        (-10000)
      else
        if what_0 = 8 then
          (nI (rLen nw 10 (nw (1 + 8 * pa_0 + 2)).toNatClampNeg 1))
        else
          (nw (1 + 8 * pa_0 + what_0))
  else
    if what_0 = 2 then
      (f_X8_next nw pa_0)
    else
      if what_0 = 3 then
        (nw (1 + 8 * pa_0 + 3))
      else
        if what_0 = 8 then
          (nI (rLen nw 10 (nw (1 + 8 * pa_0 + 2)).toNatClampNeg 1))
        else
          (nw (1 + 8 * pa_0 + what_0))
theorem qX8_part_0 : Cond.constantLong RX8 181 (8) ∈ wsX8_part := (List.mem_cons_of_mem _ (List.mem_append_left _ (List.mem_of_getElem? (i := 0) rfl)))
theorem qX8_part_1 : Cond.fieldLink RX8 16 "BlameChainsModel" "now" "[I" ∈ wsX8_part := (List.mem_cons_of_mem _ (List.mem_append_left _ (List.mem_of_getElem? (i := 1) rfl)))
set_option maxHeartbeats 4000000 in
set_option maxRecDepth 100000 in
theorem c_X8_part (l : Launch) (D : va_G) (g : Nat → Nat) (m0 sc0 rd0 nw0 tr0 di0 ke0 ik0 cp0 cn0 be0 : Nat) (sz : Nat) (rf : Int32) (ss : Nat) (sp : Nat) (ig : Int32) (lo : Int32) (ac : Nat) (nw : Nat → Int32) (pa : Int32) (what : Int32) (hO : rdOk nw) (hk : (kc_X8_part nw pa what) = 0) : kMi l D g yX8_part wsX8_part 4 0 0 [.ref m0, .int pa, .int what] [(m0, .inr (8, [.int rf, .ref sc0, .int (nI ss), .int (nI sp), .int ig, .int lo, .ref rd0, .ref nw0, .ref tr0, .ref di0, .int (nI ac), .ref ke0, .ref ik0, .ref cp0, .ref cn0, .ref be0])), (nw0, .inl (g 0, 748, .inl nw))] sz (f_X8_part nw pa what) [(m0, .inr (8, [.int 0, .ref sc0, .int (nI ss), .int (nI sp), .int ig, .int lo, .ref rd0, .ref nw0, .ref tr0, .ref di0, .int (nI ac), .ref ke0, .ref ik0, .ref cp0, .ref cn0, .ref be0])), (nw0, .inl (g 0, 748, .inl nw))] := by
  refine k_enter (nm := "part") (own := RX8) (bytes := cX8_part) (maxL := 4) (ret := (some .int)) (Qf := fun A => kQi D [(m0, .inr (8, [.int 0, .ref sc0, .int (nI ss), .int (nI sp), .int ig, .int lo, .ref rd0, .ref nw0, .ref tr0, .ref di0, .int (nI ac), .ref ke0, .ref ik0, .ref cp0, .ref cn0, .ref be0])), (nw0, .inl (g 0, 748, .inl nw))] A (f_X8_part nw pa what)) (by decide) rfl rfl rfl (Nat.le_of_ble_eq_true rfl) ?_
  rintro pp ee s mm below meth cc A ls args Q H locs hQ ⟨hx, hb, hr, hml, hown, hts, hlocks, hin⟩ hP hK hD hA hS hE hl
  have hl : lv_has ls 4 [(0, .ref m0), (1, .int pa), (2, .int what)] := hl
  obtain ⟨mn_0, emn_0⟩ : ∃ z, z = (nw 0).toNatClampNeg := ⟨_, rfl⟩
  have hmn : nw 0 = nI mn_0 := by rw [emn_0]; exact (rdOk_mn hO).1
  have hm9 : mn_0 ≤ 10 := by rw [emn_0]; exact (rdOk_mn hO).2
  have kemn_0 : kEq mn_0 (nw 0).toNatClampNeg := emn_0
  clear emn_0
  refine lv_aload_n hx hb dX8_part_0 rfl (lv_at hl 0 rfl) ?_
  refine lv_aload_n hx hb dX8_part_1 rfl (lv_at hl 0 rfl) ?_
  refine lv_iload_n hx hb dX8_part_2 rfl (lv_at hl 1 rfl) ?_
  refine k_ai (wr := []) (w2 := [(m0, .inr (8, [.int rf, .ref sc0, .int (nI ss), .int (nI sp), .int ig, .int lo, .ref rd0, .ref nw0, .ref tr0, .ref di0, .int (nI ac), .ref ke0, .ref ik0, .ref cp0, .ref cn0, .ref be0])), (nw0, .inl (g 0, 748, .inl nw))]) (va_runV (As := [.int pa]) (rest := [.ref m0]) ⟨hx, hb, hml, hown, hts⟩ (c_X8_isPart l D g m0 sc0 rd0 nw0 tr0 di0 ke0 ik0 cp0 cn0 be0 H.size rf ss sp ig lo ac nw pa) (cwV 1 hts gX8_part_X8_isPart rfl rfl rfl (by decide +kernel) (k_lvl (by omega) (by decide))) (kPV hP hD hK hS hA hE [0, 1] rfl (by decide) 0 8 rfl rfl rfl) rfl rfl hl.1 rfl (lv_room (Nat.le_of_ble_eq_true rfl)) dX8_part_3 ⟨Nat.le_of_ble_eq_true rfl, Nat.le_of_ble_eq_true rfl⟩) hP hD hS hA [0, 1] [] [0, 1] rfl rfl (by decide) (by decide) rfl (by decide) (fun H locs hP hD hS => ?_)
  refine lv_if_ne (tgt := 13) hx hb dX8_part_6 (by decide) (fun c_1 => ?_) (fun c_1 => ?_)
  · refine lv_iload_n hx hb dX8_part_13 rfl (lv_at hl 2 rfl) ?_
    refine lv_i2l (v := (Int32.toInt64 what)) hx hb dX8_part_14 rfl ?_
    refine lv_lconst (v := 0) hx hb dX8_part_15 (by decide) ?_
    refine lv_ldc2 hx hb hown (hts _ qX8_part_0) dX8_part_16 ?_
    refine k_ai (wr := [(m0, .inr (8, [.int rf, .ref sc0, .int (nI ss), .int (nI sp), .int ig, .int lo, .ref rd0, .ref nw0, .ref tr0, .ref di0, .int (nI ac), .ref ke0, .ref ik0, .ref cp0, .ref cn0, .ref be0])), (nw0, .inl (g 0, 748, .inl nw))]) (w2 := [(m0, .inr (8, [.int rf, .ref sc0, .int (nI ss), .int (nI sp), .int ig, .int lo, .ref rd0, .ref nw0, .ref tr0, .ref di0, .int (nI ac), .ref ke0, .ref ik0, .ref cp0, .ref cn0, .ref be0])), (nw0, .inl (g 0, 748, .inl nw))]) (va_runS (As := [.long (Int32.toInt64 what), .long 0, .long 8]) (rest := [.ref m0]) ⟨hx, hb, hml, hown, hts⟩ (c_X8_in l D g H.size (Int32.toInt64 what) 0 8) (va_cwS 3 hts gX8_part_X8_in rfl rfl rfl (by decide +kernel) (k_lvl (by omega) (by decide))) (kPS hP hD hK hS hA hE [] rfl (by decide)) rfl rfl hl.1 rfl (lv_room (Nat.le_of_ble_eq_true rfl)) dX8_part_19 ⟨Nat.le_of_ble_eq_true rfl, Nat.le_of_ble_eq_true rfl⟩) hP hD hS hA [] [0, 1] [0, 1] rfl rfl (by decide) (by decide) rfl (by decide) (fun H locs hP hD hS => ?_)
    refine lv_if_eq (tgt := 29) hx hb dX8_part_22 (by decide) (fun c_2 => ?_) (fun c_2 => ?_)
    · refine lv_iconst (v := 2) hx hb dX8_part_29 (by decide) ?_
      have emn_0 : (nw 0).toNatClampNeg = mn_0 := Eq.symm kemn_0
      subst emn_0
      have h9 : (kc_X8_part nw pa what) = 2 := (if_neg c_1).trans ((if_pos c_2).trans (rfl))
      rw [hk] at h9
      exact absurd h9 (by decide)
    · refine lv_iconst (v := 0) hx hb dX8_part_25 (by decide) ?_
      refine lv_goto (tgt := 30) hx hb dX8_part_26 (by decide) ?_
      refine k_ai (wr := [(nw0, .inl (g 0, 748, .inl nw))]) (w2 := [(m0, .inr (8, [.int 0, .ref sc0, .int (nI ss), .int (nI sp), .int ig, .int lo, .ref rd0, .ref nw0, .ref tr0, .ref di0, .int (nI ac), .ref ke0, .ref ik0, .ref cp0, .ref cn0, .ref be0])), (nw0, .inl (g 0, 748, .inl nw))]) (va_runV (As := [.int 0]) (rest := []) ⟨hx, hb, hml, hown, hts⟩ (c_X8_refused0 l D g m0 sc0 rd0 nw0 tr0 di0 ke0 ik0 cp0 cn0 be0 H.size rf ss sp ig lo ac) (cwV 1 hts gX8_part_X8_refused rfl rfl rfl (by decide +kernel) (k_lvl (by omega) (by decide))) (kPV hP hD hK hS hA hE [0] rfl (by decide) 0 8 rfl rfl rfl) rfl rfl hl.1 rfl (lv_room (Nat.le_of_ble_eq_true rfl)) dX8_part_30 ⟨Nat.le_of_ble_eq_true rfl, Nat.le_of_ble_eq_true rfl⟩) hP hD hS hA [0] [1] [1, 0] rfl rfl (by decide) (by decide) rfl (by decide) (fun H locs hP hD hS => ?_)
      refine lv_if_eq (tgt := 38) hx hb dX8_part_33 (by decide) (fun _ => ?_) (fun c_3 => absurd c_3 (by decide))
      obtain ⟨pa_0, epa_0⟩ : ∃ z, z = pa.toNatClampNeg := ⟨_, rfl⟩
      have qpa_0 : pa = nI pa_0 := by rw [epa_0]; exact (isPart_N c_1 hmn hm9).1
      have bpa_0 : pa_0 < mn_0 := by rw [epa_0]; exact (isPart_N c_1 hmn hm9).2
      have kepa_0 : kEq pa_0 pa.toNatClampNeg := epa_0
      clear epa_0
      have hl : lv_has ls 4 [(0, .ref m0), (1, .int (nI pa_0)), (2, .int what)] := by
        have h9 := hl
        rw [qpa_0] at h9
        exact h9
      obtain ⟨what_0, ewhat_0⟩ : ∃ z, z = what.toNatClampNeg := ⟨_, rfl⟩
      have qwhat_0 : what = nI what_0 := by rw [ewhat_0]; exact (in_N (K := 8) (by decide) c_2).1
      have bwhat_0 : what_0 ≤ 8 := by rw [ewhat_0]; exact (in_N (K := 8) (by decide) c_2).2
      have kewhat_0 : kEq what_0 what.toNatClampNeg := ewhat_0
      clear ewhat_0
      have hl : lv_has ls 4 [(0, .ref m0), (1, .int (nI pa_0)), (2, .int (nI what_0))] := by
        have h9 := hl
        rw [qwhat_0] at h9
        exact h9
      refine lv_aload_n hx hb dX8_part_38 rfl (lv_at hl 0 rfl) ?_
      refine va_get (D := D) (ci := 8) (v := .ref nw0) (C := RX8) (T := TX8) (N := 16) hx hb hts (fun w h => (List.mem_cons_of_mem _ (List.mem_append_right _ h))) hown hK hP 0 rfl rfl 7 (by decide) (hts _ qX8_part_1) (fun _ h9 => h9) rfl dX8_part_39 ?_
      refine lv_iload_n hx hb dX8_part_42 rfl (lv_at hl 1 rfl) ?_
      refine k_ai (wr := [(m0, .inr (8, [.int 0, .ref sc0, .int (nI ss), .int (nI sp), .int ig, .int lo, .ref rd0, .ref nw0, .ref tr0, .ref di0, .int (nI ac), .ref ke0, .ref ik0, .ref cp0, .ref cn0, .ref be0]))]) (w2 := [(m0, .inr (8, [.int 0, .ref sc0, .int (nI ss), .int (nI sp), .int ig, .int lo, .ref rd0, .ref nw0, .ref tr0, .ref di0, .int (nI ac), .ref ke0, .ref ik0, .ref cp0, .ref cn0, .ref be0])), (nw0, .inl (g 0, 748, .inl nw))]) (va_runS (As := [.ref nw0, .int (nI pa_0)]) (rest := []) ⟨hx, hb, hml, hown, hts⟩ (c_X8_next l D g nw0 H.size nw pa_0 (by omega)) (va_cwS 2 hts gX8_part_X8_next rfl rfl rfl (by decide +kernel) (k_lvl (by omega) (by decide))) (kPS hP hD hK hS hA hE [1] rfl (by decide)) rfl rfl hl.1 rfl (lv_room (Nat.le_of_ble_eq_true rfl)) dX8_part_43 ⟨Nat.le_of_ble_eq_true rfl, Nat.le_of_ble_eq_true rfl⟩) hP hD hS hA [1] [0] [0, 1] rfl rfl (by decide) (by decide) rfl (by decide) (fun H locs hP hD hS => ?_)
      refine lv_if_lt (tgt := 53) hx hb dX8_part_46 (by decide) (fun c_4 => ?_) (fun c_4 => ?_)
      · refine lv_iconst (v := 0) hx hb dX8_part_53 (by decide) ?_
        refine lv_istore_n (lv' := [(3, .int 0), (0, .ref m0), (1, .int (nI pa_0)), (2, .int (nI what_0))]) hx hb dX8_part_54 rfl hl (by decide) rfl (fun ls hl => ?_)
        refine lv_iload_n hx hb dX8_part_55 rfl (lv_at hl 3 rfl) ?_
        by_cases c_5 : what_0 = 2
        · refine k_lookIn (v := 2) (off := (36)) (tgt := 92) hx hb dX8_part_56 (congrArg nI c_5) (by decide) (by decide) (by decide) ?_
          refine lv_iload_n hx hb dX8_part_92 rfl (lv_at hl 0 rfl) ?_
          refine lv_if_eq (tgt := 107) hx hb dX8_part_93 (by decide) (fun _ => ?_) (fun c_6 => absurd c_6 (by decide))
          refine lv_sipush (v := (-10000)) hx hb dX8_part_107 (by decide) ?_
          have ewhat_0 : what.toNatClampNeg = what_0 := Eq.symm kewhat_0
          have epa_0 : pa.toNatClampNeg = pa_0 := Eq.symm kepa_0
          have emn_0 : (nw 0).toNatClampNeg = mn_0 := Eq.symm kemn_0
          have hE2 : (f_X8_part nw pa what) = (-10000) := by
            subst ewhat_0
            subst epa_0
            subst emn_0
            exact (if_pos c_4).trans ((if_pos c_5).trans (rfl))
          subst hQ
          exact k_ri hx hb hr hlocks hP hD hS dX8_part_110 (hE2.symm) (rfl)
        by_cases c_7 : what_0 = 3
        · refine k_lookIn (v := 3) (off := (55)) (tgt := 111) hx hb dX8_part_56 (congrArg nI c_7) (by decide) (by decide) (by decide) ?_
          refine lv_iload_n hx hb dX8_part_111 rfl (lv_at hl 0 rfl) ?_
          refine lv_if_eq (tgt := 128) hx hb dX8_part_112 (by decide) (fun _ => ?_) (fun c_8 => absurd c_8 (by decide))
          refine lv_sipush (v := (-10000)) hx hb dX8_part_128 (by decide) ?_
          have ewhat_0 : what.toNatClampNeg = what_0 := Eq.symm kewhat_0
          have epa_0 : pa.toNatClampNeg = pa_0 := Eq.symm kepa_0
          have emn_0 : (nw 0).toNatClampNeg = mn_0 := Eq.symm kemn_0
          have hE2 : (f_X8_part nw pa what) = (-10000) := by
            subst ewhat_0
            subst epa_0
            subst emn_0
            exact (if_pos c_4).trans ((if_neg c_5).trans ((if_pos c_7).trans (rfl)))
          subst hQ
          exact k_ri hx hb hr hlocks hP hD hS dX8_part_131 (hE2.symm) (rfl)
        by_cases c_9 : what_0 = 8
        · refine k_lookIn (v := 8) (off := (76)) (tgt := 132) hx hb dX8_part_56 (congrArg nI c_9) (by decide) (by decide) (by decide) ?_
          refine lv_aload_n hx hb dX8_part_132 rfl (lv_at hl 1 rfl) ?_
          refine va_get (D := D) (ci := 8) (v := .ref nw0) (C := RX8) (T := TX8) (N := 16) hx hb hts (fun w h => (List.mem_cons_of_mem _ (List.mem_append_right _ h))) hown hK hP 0 rfl rfl 7 (by decide) (hts _ qX8_part_1) (fun _ h9 => h9) rfl dX8_part_133 ?_
          refine lv_iload_n hx hb dX8_part_136 rfl (lv_at hl 2 rfl) ?_
          refine k_ai (wr := [(m0, .inr (8, [.int 0, .ref sc0, .int (nI ss), .int (nI sp), .int ig, .int lo, .ref rd0, .ref nw0, .ref tr0, .ref di0, .int (nI ac), .ref ke0, .ref ik0, .ref cp0, .ref cn0, .ref be0]))]) (w2 := [(m0, .inr (8, [.int 0, .ref sc0, .int (nI ss), .int (nI sp), .int ig, .int lo, .ref rd0, .ref nw0, .ref tr0, .ref di0, .int (nI ac), .ref ke0, .ref ik0, .ref cp0, .ref cn0, .ref be0])), (nw0, .inl (g 0, 748, .inl nw))]) (va_runS (As := [.ref nw0, .int (nI pa_0)]) (rest := []) ⟨hx, hb, hml, hown, hts⟩ (c_X8_chainLength l D g nw0 H.size nw pa_0 (by omega) hO.2) (va_cwS 2 hts gX8_part_X8_chainLength rfl rfl rfl (by decide +kernel) (k_lvl (by omega) (by decide))) (kPS hP hD hK hS hA hE [1] rfl (by decide)) rfl rfl hl.1 rfl (lv_room (Nat.le_of_ble_eq_true rfl)) dX8_part_137 ⟨Nat.le_of_ble_eq_true rfl, Nat.le_of_ble_eq_true rfl⟩) hP hD hS hA [1] [0] [0, 1] rfl rfl (by decide) (by decide) rfl (by decide) (fun H locs hP hD hS => ?_)
          have ewhat_0 : what.toNatClampNeg = what_0 := Eq.symm kewhat_0
          have epa_0 : pa.toNatClampNeg = pa_0 := Eq.symm kepa_0
          have emn_0 : (nw 0).toNatClampNeg = mn_0 := Eq.symm kemn_0
          have hE2 : (f_X8_part nw pa what) = (nI (rLen nw 10 (nw (1 + 8 * pa_0 + 2)).toNatClampNeg 1)) := by
            subst ewhat_0
            subst epa_0
            subst emn_0
            exact (if_pos c_4).trans ((if_neg c_5).trans ((if_neg c_7).trans ((if_pos c_9).trans (rfl))))
          subst hQ
          exact k_ri hx hb hr hlocks hP hD hS dX8_part_140 (hE2.symm) (rfl)
        refine lv_lookup (off := (85)) (tgt := 141) hx hb dX8_part_56 (by decide) (by rw [lv_osw (show ¬ (nI what_0) = 2 from fun h9 => c_5 ((nI_eq (a := what_0) (b := 2) (by omega) (by omega)).mp h9)) (by decide), lv_osw (show ¬ (nI what_0) = 3 from fun h9 => c_7 ((nI_eq (a := what_0) (b := 3) (by omega) (by omega)).mp h9)) (by decide), lv_osw (show ¬ (nI what_0) = 8 from fun h9 => c_9 ((nI_eq (a := what_0) (b := 8) (by omega) (by omega)).mp h9)) (by decide)]; rfl) (by decide) ?_
        refine lv_aload_n hx hb dX8_part_141 rfl (lv_at hl 1 rfl) ?_
        refine va_get (D := D) (ci := 8) (v := .ref nw0) (C := RX8) (T := TX8) (N := 16) hx hb hts (fun w h => (List.mem_cons_of_mem _ (List.mem_append_right _ h))) hown hK hP 0 rfl rfl 7 (by decide) (hts _ qX8_part_1) (fun _ h9 => h9) rfl dX8_part_142 ?_
        refine lv_iload_n hx hb dX8_part_145 rfl (lv_at hl 2 rfl) ?_
        refine lv_iload_n hx hb dX8_part_146 rfl (lv_at hl 3 rfl) ?_
        refine k_ai (wr := [(m0, .inr (8, [.int 0, .ref sc0, .int (nI ss), .int (nI sp), .int ig, .int lo, .ref rd0, .ref nw0, .ref tr0, .ref di0, .int (nI ac), .ref ke0, .ref ik0, .ref cp0, .ref cn0, .ref be0])), (nw0, .inl (g 0, 748, .inl nw))]) (w2 := [(m0, .inr (8, [.int 0, .ref sc0, .int (nI ss), .int (nI sp), .int ig, .int lo, .ref rd0, .ref nw0, .ref tr0, .ref di0, .int (nI ac), .ref ke0, .ref ik0, .ref cp0, .ref cn0, .ref be0])), (nw0, .inl (g 0, 748, .inl nw))]) (va_runS (As := [.int (nI pa_0), .int (nI what_0)]) (rest := [.ref nw0]) ⟨hx, hb, hml, hown, hts⟩ (c_X8_partAt l D g H.size pa_0 what_0) (va_cwS 2 hts gX8_part_X8_partAt rfl rfl rfl (by decide +kernel) (k_lvl (by omega) (by decide))) (kPS hP hD hK hS hA hE [] rfl (by decide)) rfl rfl hl.1 rfl (lv_room (Nat.le_of_ble_eq_true rfl)) dX8_part_147 ⟨Nat.le_of_ble_eq_true rfl, Nat.le_of_ble_eq_true rfl⟩) hP hD hS hA [] [0, 1] [0, 1] rfl rfl (by decide) (by decide) rfl (by decide) (fun H locs hP hD hS => ?_)
        refine va_iald (i := (nI (1 + 8 * pa_0 + what_0))) hx hb hK hP 1 0 rfl rfl (vp_in_nI (n := (1 + 8 * pa_0 + what_0)) (by omega) (by omega)) dX8_part_150 ?_
        refine k_top (y := (nw (1 + 8 * pa_0 + what_0))) (by rw [nI_clamp (by omega)]) ?_
        have ewhat_0 : what.toNatClampNeg = what_0 := Eq.symm kewhat_0
        have epa_0 : pa.toNatClampNeg = pa_0 := Eq.symm kepa_0
        have emn_0 : (nw 0).toNatClampNeg = mn_0 := Eq.symm kemn_0
        have hE2 : (f_X8_part nw pa what) = (nw (1 + 8 * pa_0 + what_0)) := by
          subst ewhat_0
          subst epa_0
          subst emn_0
          exact (if_pos c_4).trans ((if_neg c_5).trans ((if_neg c_7).trans ((if_neg c_9).trans (rfl))))
        subst hQ
        exact k_ri hx hb hr hlocks hP hD hS dX8_part_151 (hE2.symm) (rfl)
      · refine lv_iconst (v := 1) hx hb dX8_part_49 (by decide) ?_
        refine lv_goto (tgt := 54) hx hb dX8_part_50 (by decide) ?_
        refine lv_istore_n (lv' := [(3, .int 1), (0, .ref m0), (1, .int (nI pa_0)), (2, .int (nI what_0))]) hx hb dX8_part_54 rfl hl (by decide) rfl (fun ls hl => ?_)
        refine lv_iload_n hx hb dX8_part_55 rfl (lv_at hl 3 rfl) ?_
        by_cases c_10 : what_0 = 2
        · refine k_lookIn (v := 2) (off := (36)) (tgt := 92) hx hb dX8_part_56 (congrArg nI c_10) (by decide) (by decide) (by decide) ?_
          refine lv_iload_n hx hb dX8_part_92 rfl (lv_at hl 0 rfl) ?_
          refine lv_if_eq (tgt := 107) hx hb dX8_part_93 (by decide) (fun c_11 => absurd c_11 (by decide)) (fun _ => ?_)
          refine lv_aload_n hx hb dX8_part_96 rfl (lv_at hl 1 rfl) ?_
          refine va_get (D := D) (ci := 8) (v := .ref nw0) (C := RX8) (T := TX8) (N := 16) hx hb hts (fun w h => (List.mem_cons_of_mem _ (List.mem_append_right _ h))) hown hK hP 0 rfl rfl 7 (by decide) (hts _ qX8_part_1) (fun _ h9 => h9) rfl dX8_part_97 ?_
          refine lv_iload_n hx hb dX8_part_100 rfl (lv_at hl 2 rfl) ?_
          refine k_ai (wr := [(m0, .inr (8, [.int 0, .ref sc0, .int (nI ss), .int (nI sp), .int ig, .int lo, .ref rd0, .ref nw0, .ref tr0, .ref di0, .int (nI ac), .ref ke0, .ref ik0, .ref cp0, .ref cn0, .ref be0]))]) (w2 := [(m0, .inr (8, [.int 0, .ref sc0, .int (nI ss), .int (nI sp), .int ig, .int lo, .ref rd0, .ref nw0, .ref tr0, .ref di0, .int (nI ac), .ref ke0, .ref ik0, .ref cp0, .ref cn0, .ref be0])), (nw0, .inl (g 0, 748, .inl nw))]) (va_runS (As := [.ref nw0, .int (nI pa_0)]) (rest := []) ⟨hx, hb, hml, hown, hts⟩ (c_X8_next l D g nw0 H.size nw pa_0 (by omega)) (va_cwS 2 hts gX8_part_X8_next rfl rfl rfl (by decide +kernel) (k_lvl (by omega) (by decide))) (kPS hP hD hK hS hA hE [1] rfl (by decide)) rfl rfl hl.1 rfl (lv_room (Nat.le_of_ble_eq_true rfl)) dX8_part_101 ⟨Nat.le_of_ble_eq_true rfl, Nat.le_of_ble_eq_true rfl⟩) hP hD hS hA [1] [0] [0, 1] rfl rfl (by decide) (by decide) rfl (by decide) (fun H locs hP hD hS => ?_)
          refine lv_goto (tgt := 110) hx hb dX8_part_104 (by decide) ?_
          have ewhat_0 : what.toNatClampNeg = what_0 := Eq.symm kewhat_0
          have epa_0 : pa.toNatClampNeg = pa_0 := Eq.symm kepa_0
          have emn_0 : (nw 0).toNatClampNeg = mn_0 := Eq.symm kemn_0
          have hE2 : (f_X8_part nw pa what) = (f_X8_next nw pa_0) := by
            subst ewhat_0
            subst epa_0
            subst emn_0
            exact (if_neg c_4).trans ((if_pos c_10).trans (rfl))
          subst hQ
          exact k_ri hx hb hr hlocks hP hD hS dX8_part_110 (hE2.symm) (rfl)
        by_cases c_12 : what_0 = 3
        · refine k_lookIn (v := 3) (off := (55)) (tgt := 111) hx hb dX8_part_56 (congrArg nI c_12) (by decide) (by decide) (by decide) ?_
          refine lv_iload_n hx hb dX8_part_111 rfl (lv_at hl 0 rfl) ?_
          refine lv_if_eq (tgt := 128) hx hb dX8_part_112 (by decide) (fun c_13 => absurd c_13 (by decide)) (fun _ => ?_)
          refine lv_aload_n hx hb dX8_part_115 rfl (lv_at hl 1 rfl) ?_
          refine va_get (D := D) (ci := 8) (v := .ref nw0) (C := RX8) (T := TX8) (N := 16) hx hb hts (fun w h => (List.mem_cons_of_mem _ (List.mem_append_right _ h))) hown hK hP 0 rfl rfl 7 (by decide) (hts _ qX8_part_1) (fun _ h9 => h9) rfl dX8_part_116 ?_
          refine lv_iload_n hx hb dX8_part_119 rfl (lv_at hl 2 rfl) ?_
          refine lv_iconst (v := 3) hx hb dX8_part_120 (by decide) ?_
          refine k_ai (wr := [(m0, .inr (8, [.int 0, .ref sc0, .int (nI ss), .int (nI sp), .int ig, .int lo, .ref rd0, .ref nw0, .ref tr0, .ref di0, .int (nI ac), .ref ke0, .ref ik0, .ref cp0, .ref cn0, .ref be0])), (nw0, .inl (g 0, 748, .inl nw))]) (w2 := [(m0, .inr (8, [.int 0, .ref sc0, .int (nI ss), .int (nI sp), .int ig, .int lo, .ref rd0, .ref nw0, .ref tr0, .ref di0, .int (nI ac), .ref ke0, .ref ik0, .ref cp0, .ref cn0, .ref be0])), (nw0, .inl (g 0, 748, .inl nw))]) (va_runS (As := [.int (nI pa_0), .int 3]) (rest := [.ref nw0]) ⟨hx, hb, hml, hown, hts⟩ (c_X8_partAt l D g H.size pa_0 3) (va_cwS 2 hts gX8_part_X8_partAt rfl rfl rfl (by decide +kernel) (k_lvl (by omega) (by decide))) (kPS hP hD hK hS hA hE [] rfl (by decide)) rfl rfl hl.1 rfl (lv_room (Nat.le_of_ble_eq_true rfl)) dX8_part_121 ⟨Nat.le_of_ble_eq_true rfl, Nat.le_of_ble_eq_true rfl⟩) hP hD hS hA [] [0, 1] [0, 1] rfl rfl (by decide) (by decide) rfl (by decide) (fun H locs hP hD hS => ?_)
          refine va_iald (i := (nI (1 + 8 * pa_0 + 3))) hx hb hK hP 1 0 rfl rfl (vp_in_nI (n := (1 + 8 * pa_0 + 3)) (by omega) (by omega)) dX8_part_124 ?_
          refine k_top (y := (nw (1 + 8 * pa_0 + 3))) (by rw [nI_clamp (by omega)]) ?_
          refine lv_goto (tgt := 131) hx hb dX8_part_125 (by decide) ?_
          have ewhat_0 : what.toNatClampNeg = what_0 := Eq.symm kewhat_0
          have epa_0 : pa.toNatClampNeg = pa_0 := Eq.symm kepa_0
          have emn_0 : (nw 0).toNatClampNeg = mn_0 := Eq.symm kemn_0
          have hE2 : (f_X8_part nw pa what) = (nw (1 + 8 * pa_0 + 3)) := by
            subst ewhat_0
            subst epa_0
            subst emn_0
            exact (if_neg c_4).trans ((if_neg c_10).trans ((if_pos c_12).trans (rfl)))
          subst hQ
          exact k_ri hx hb hr hlocks hP hD hS dX8_part_131 (hE2.symm) (rfl)
        by_cases c_14 : what_0 = 8
        · refine k_lookIn (v := 8) (off := (76)) (tgt := 132) hx hb dX8_part_56 (congrArg nI c_14) (by decide) (by decide) (by decide) ?_
          refine lv_aload_n hx hb dX8_part_132 rfl (lv_at hl 1 rfl) ?_
          refine va_get (D := D) (ci := 8) (v := .ref nw0) (C := RX8) (T := TX8) (N := 16) hx hb hts (fun w h => (List.mem_cons_of_mem _ (List.mem_append_right _ h))) hown hK hP 0 rfl rfl 7 (by decide) (hts _ qX8_part_1) (fun _ h9 => h9) rfl dX8_part_133 ?_
          refine lv_iload_n hx hb dX8_part_136 rfl (lv_at hl 2 rfl) ?_
          refine k_ai (wr := [(m0, .inr (8, [.int 0, .ref sc0, .int (nI ss), .int (nI sp), .int ig, .int lo, .ref rd0, .ref nw0, .ref tr0, .ref di0, .int (nI ac), .ref ke0, .ref ik0, .ref cp0, .ref cn0, .ref be0]))]) (w2 := [(m0, .inr (8, [.int 0, .ref sc0, .int (nI ss), .int (nI sp), .int ig, .int lo, .ref rd0, .ref nw0, .ref tr0, .ref di0, .int (nI ac), .ref ke0, .ref ik0, .ref cp0, .ref cn0, .ref be0])), (nw0, .inl (g 0, 748, .inl nw))]) (va_runS (As := [.ref nw0, .int (nI pa_0)]) (rest := []) ⟨hx, hb, hml, hown, hts⟩ (c_X8_chainLength l D g nw0 H.size nw pa_0 (by omega) hO.2) (va_cwS 2 hts gX8_part_X8_chainLength rfl rfl rfl (by decide +kernel) (k_lvl (by omega) (by decide))) (kPS hP hD hK hS hA hE [1] rfl (by decide)) rfl rfl hl.1 rfl (lv_room (Nat.le_of_ble_eq_true rfl)) dX8_part_137 ⟨Nat.le_of_ble_eq_true rfl, Nat.le_of_ble_eq_true rfl⟩) hP hD hS hA [1] [0] [0, 1] rfl rfl (by decide) (by decide) rfl (by decide) (fun H locs hP hD hS => ?_)
          have ewhat_0 : what.toNatClampNeg = what_0 := Eq.symm kewhat_0
          have epa_0 : pa.toNatClampNeg = pa_0 := Eq.symm kepa_0
          have emn_0 : (nw 0).toNatClampNeg = mn_0 := Eq.symm kemn_0
          have hE2 : (f_X8_part nw pa what) = (nI (rLen nw 10 (nw (1 + 8 * pa_0 + 2)).toNatClampNeg 1)) := by
            subst ewhat_0
            subst epa_0
            subst emn_0
            exact (if_neg c_4).trans ((if_neg c_10).trans ((if_neg c_12).trans ((if_pos c_14).trans (rfl))))
          subst hQ
          exact k_ri hx hb hr hlocks hP hD hS dX8_part_140 (hE2.symm) (rfl)
        refine lv_lookup (off := (85)) (tgt := 141) hx hb dX8_part_56 (by decide) (by rw [lv_osw (show ¬ (nI what_0) = 2 from fun h9 => c_10 ((nI_eq (a := what_0) (b := 2) (by omega) (by omega)).mp h9)) (by decide), lv_osw (show ¬ (nI what_0) = 3 from fun h9 => c_12 ((nI_eq (a := what_0) (b := 3) (by omega) (by omega)).mp h9)) (by decide), lv_osw (show ¬ (nI what_0) = 8 from fun h9 => c_14 ((nI_eq (a := what_0) (b := 8) (by omega) (by omega)).mp h9)) (by decide)]; rfl) (by decide) ?_
        refine lv_aload_n hx hb dX8_part_141 rfl (lv_at hl 1 rfl) ?_
        refine va_get (D := D) (ci := 8) (v := .ref nw0) (C := RX8) (T := TX8) (N := 16) hx hb hts (fun w h => (List.mem_cons_of_mem _ (List.mem_append_right _ h))) hown hK hP 0 rfl rfl 7 (by decide) (hts _ qX8_part_1) (fun _ h9 => h9) rfl dX8_part_142 ?_
        refine lv_iload_n hx hb dX8_part_145 rfl (lv_at hl 2 rfl) ?_
        refine lv_iload_n hx hb dX8_part_146 rfl (lv_at hl 3 rfl) ?_
        refine k_ai (wr := [(m0, .inr (8, [.int 0, .ref sc0, .int (nI ss), .int (nI sp), .int ig, .int lo, .ref rd0, .ref nw0, .ref tr0, .ref di0, .int (nI ac), .ref ke0, .ref ik0, .ref cp0, .ref cn0, .ref be0])), (nw0, .inl (g 0, 748, .inl nw))]) (w2 := [(m0, .inr (8, [.int 0, .ref sc0, .int (nI ss), .int (nI sp), .int ig, .int lo, .ref rd0, .ref nw0, .ref tr0, .ref di0, .int (nI ac), .ref ke0, .ref ik0, .ref cp0, .ref cn0, .ref be0])), (nw0, .inl (g 0, 748, .inl nw))]) (va_runS (As := [.int (nI pa_0), .int (nI what_0)]) (rest := [.ref nw0]) ⟨hx, hb, hml, hown, hts⟩ (c_X8_partAt l D g H.size pa_0 what_0) (va_cwS 2 hts gX8_part_X8_partAt rfl rfl rfl (by decide +kernel) (k_lvl (by omega) (by decide))) (kPS hP hD hK hS hA hE [] rfl (by decide)) rfl rfl hl.1 rfl (lv_room (Nat.le_of_ble_eq_true rfl)) dX8_part_147 ⟨Nat.le_of_ble_eq_true rfl, Nat.le_of_ble_eq_true rfl⟩) hP hD hS hA [] [0, 1] [0, 1] rfl rfl (by decide) (by decide) rfl (by decide) (fun H locs hP hD hS => ?_)
        refine va_iald (i := (nI (1 + 8 * pa_0 + what_0))) hx hb hK hP 1 0 rfl rfl (vp_in_nI (n := (1 + 8 * pa_0 + what_0)) (by omega) (by omega)) dX8_part_150 ?_
        refine k_top (y := (nw (1 + 8 * pa_0 + what_0))) (by rw [nI_clamp (by omega)]) ?_
        have ewhat_0 : what.toNatClampNeg = what_0 := Eq.symm kewhat_0
        have epa_0 : pa.toNatClampNeg = pa_0 := Eq.symm kepa_0
        have emn_0 : (nw 0).toNatClampNeg = mn_0 := Eq.symm kemn_0
        have hE2 : (f_X8_part nw pa what) = (nw (1 + 8 * pa_0 + what_0)) := by
          subst ewhat_0
          subst epa_0
          subst emn_0
          exact (if_neg c_4).trans ((if_neg c_10).trans ((if_neg c_12).trans ((if_neg c_14).trans (rfl))))
        subst hQ
        exact k_ri hx hb hr hlocks hP hD hS dX8_part_151 (hE2.symm) (rfl)
  · refine lv_iconst (v := 1) hx hb dX8_part_9 (by decide) ?_
    refine lv_goto (tgt := 30) hx hb dX8_part_10 (by decide) ?_
    have emn_0 : (nw 0).toNatClampNeg = mn_0 := Eq.symm kemn_0
    subst emn_0
    have h9 : (kc_X8_part nw pa what) = 1 := (if_pos c_1).trans (rfl)
    rw [hk] at h9
    exact absurd h9 (by decide)
theorem qc_X8_part_bad_X8_part_0 : Cond.constantLong RX8 181 (8) ∈ wsX8_part := (List.mem_cons_of_mem _ (List.mem_append_left _ (List.mem_of_getElem? (i := 0) rfl)))
set_option maxHeartbeats 4000000 in
set_option maxRecDepth 100000 in
theorem c_X8_part_bad (l : Launch) (D : va_G) (g : Nat → Nat) (m0 sc0 rd0 nw0 tr0 di0 ke0 ik0 cp0 cn0 be0 : Nat) (sz : Nat) (rf : Int32) (ss : Nat) (sp : Nat) (ig : Int32) (lo : Int32) (ac : Nat) (nw : Nat → Int32) (pa : Int32) (what : Int32) (hO : rdOk nw) (hk : ¬ (kc_X8_part nw pa what) = 0) : kMi l D g yX8_part wsX8_part 4 0 0 [.ref m0, .int pa, .int what] [(m0, .inr (8, [.int rf, .ref sc0, .int (nI ss), .int (nI sp), .int ig, .int lo, .ref rd0, .ref nw0, .ref tr0, .ref di0, .int (nI ac), .ref ke0, .ref ik0, .ref cp0, .ref cn0, .ref be0])), (nw0, .inl (g 0, 748, .inl nw))] sz 0 [(m0, .inr (8, [.int (kc_X8_part nw pa what), .ref sc0, .int (nI ss), .int (nI sp), .int ig, .int lo, .ref rd0, .ref nw0, .ref tr0, .ref di0, .int (nI ac), .ref ke0, .ref ik0, .ref cp0, .ref cn0, .ref be0])), (nw0, .inl (g 0, 748, .inl nw))] := by
  refine k_enter (nm := "part") (own := RX8) (bytes := cX8_part) (maxL := 4) (ret := (some .int)) (Qf := fun A => kQi D [(m0, .inr (8, [.int (kc_X8_part nw pa what), .ref sc0, .int (nI ss), .int (nI sp), .int ig, .int lo, .ref rd0, .ref nw0, .ref tr0, .ref di0, .int (nI ac), .ref ke0, .ref ik0, .ref cp0, .ref cn0, .ref be0])), (nw0, .inl (g 0, 748, .inl nw))] A 0) (by decide) rfl rfl rfl (Nat.le_of_ble_eq_true rfl) ?_
  rintro pp ee s mm below meth cc A ls args Q H locs hQ ⟨hx, hb, hr, hml, hown, hts, hlocks, hin⟩ hP hK hD hA hS hE hl
  have hl : lv_has ls 4 [(0, .ref m0), (1, .int pa), (2, .int what)] := hl
  refine lv_aload_n hx hb dX8_part_0 rfl (lv_at hl 0 rfl) ?_
  refine lv_aload_n hx hb dX8_part_1 rfl (lv_at hl 0 rfl) ?_
  refine lv_iload_n hx hb dX8_part_2 rfl (lv_at hl 1 rfl) ?_
  refine k_ai (wr := []) (w2 := [(m0, .inr (8, [.int rf, .ref sc0, .int (nI ss), .int (nI sp), .int ig, .int lo, .ref rd0, .ref nw0, .ref tr0, .ref di0, .int (nI ac), .ref ke0, .ref ik0, .ref cp0, .ref cn0, .ref be0])), (nw0, .inl (g 0, 748, .inl nw))]) (va_runV (As := [.int pa]) (rest := [.ref m0]) ⟨hx, hb, hml, hown, hts⟩ (c_X8_isPart l D g m0 sc0 rd0 nw0 tr0 di0 ke0 ik0 cp0 cn0 be0 H.size rf ss sp ig lo ac nw pa) (cwV 1 hts gX8_part_X8_isPart rfl rfl rfl (by decide +kernel) (k_lvl (by omega) (by decide))) (kPV hP hD hK hS hA hE [0, 1] rfl (by decide) 0 8 rfl rfl rfl) rfl rfl hl.1 rfl (lv_room (Nat.le_of_ble_eq_true rfl)) dX8_part_3 ⟨Nat.le_of_ble_eq_true rfl, Nat.le_of_ble_eq_true rfl⟩) hP hD hS hA [0, 1] [] [0, 1] rfl rfl (by decide) (by decide) rfl (by decide) (fun H locs hP hD hS => ?_)
  refine lv_if_ne (tgt := 13) hx hb dX8_part_6 (by decide) (fun c_1 => ?_) (fun c_1 => ?_)
  · refine lv_iload_n hx hb dX8_part_13 rfl (lv_at hl 2 rfl) ?_
    refine lv_i2l (v := (Int32.toInt64 what)) hx hb dX8_part_14 rfl ?_
    refine lv_lconst (v := 0) hx hb dX8_part_15 (by decide) ?_
    refine lv_ldc2 hx hb hown (hts _ qc_X8_part_bad_X8_part_0) dX8_part_16 ?_
    refine k_ai (wr := [(m0, .inr (8, [.int rf, .ref sc0, .int (nI ss), .int (nI sp), .int ig, .int lo, .ref rd0, .ref nw0, .ref tr0, .ref di0, .int (nI ac), .ref ke0, .ref ik0, .ref cp0, .ref cn0, .ref be0])), (nw0, .inl (g 0, 748, .inl nw))]) (w2 := [(m0, .inr (8, [.int rf, .ref sc0, .int (nI ss), .int (nI sp), .int ig, .int lo, .ref rd0, .ref nw0, .ref tr0, .ref di0, .int (nI ac), .ref ke0, .ref ik0, .ref cp0, .ref cn0, .ref be0])), (nw0, .inl (g 0, 748, .inl nw))]) (va_runS (As := [.long (Int32.toInt64 what), .long 0, .long 8]) (rest := [.ref m0]) ⟨hx, hb, hml, hown, hts⟩ (c_X8_in l D g H.size (Int32.toInt64 what) 0 8) (va_cwS 3 hts gX8_part_X8_in rfl rfl rfl (by decide +kernel) (k_lvl (by omega) (by decide))) (kPS hP hD hK hS hA hE [] rfl (by decide)) rfl rfl hl.1 rfl (lv_room (Nat.le_of_ble_eq_true rfl)) dX8_part_19 ⟨Nat.le_of_ble_eq_true rfl, Nat.le_of_ble_eq_true rfl⟩) hP hD hS hA [] [0, 1] [0, 1] rfl rfl (by decide) (by decide) rfl (by decide) (fun H locs hP hD hS => ?_)
    refine lv_if_eq (tgt := 29) hx hb dX8_part_22 (by decide) (fun c_2 => ?_) (fun c_2 => ?_)
    · refine lv_iconst (v := 2) hx hb dX8_part_29 (by decide) ?_
      refine k_ai (wr := [(nw0, .inl (g 0, 748, .inl nw))]) (w2 := [(m0, .inr (8, [.int 2, .ref sc0, .int (nI ss), .int (nI sp), .int ig, .int lo, .ref rd0, .ref nw0, .ref tr0, .ref di0, .int (nI ac), .ref ke0, .ref ik0, .ref cp0, .ref cn0, .ref be0])), (nw0, .inl (g 0, 748, .inl nw))]) (va_runV (As := [.int 2]) (rest := []) ⟨hx, hb, hml, hown, hts⟩ (c_X8_refused2 l D g m0 sc0 rd0 nw0 tr0 di0 ke0 ik0 cp0 cn0 be0 H.size rf ss sp ig lo ac) (cwV 1 hts gX8_part_X8_refused rfl rfl rfl (by decide +kernel) (k_lvl (by omega) (by decide))) (kPV hP hD hK hS hA hE [0] rfl (by decide) 0 8 rfl rfl rfl) rfl rfl hl.1 rfl (lv_room (Nat.le_of_ble_eq_true rfl)) dX8_part_30 ⟨Nat.le_of_ble_eq_true rfl, Nat.le_of_ble_eq_true rfl⟩) hP hD hS hA [0] [1] [1, 0] rfl rfl (by decide) (by decide) rfl (by decide) (fun H locs hP hD hS => ?_)
      refine lv_if_eq (tgt := 38) hx hb dX8_part_33 (by decide) (fun c_3 => absurd c_3 (by decide)) (fun _ => ?_)
      refine lv_iconst (v := 0) hx hb dX8_part_36 (by decide) ?_
      subst hQ
      exact k_ri hx hb hr hlocks hP hD hS dX8_part_37 (rfl) (by rw [show (kc_X8_part nw pa what) = 2 from (if_neg c_1).trans ((if_pos c_2).trans (rfl))])
    · refine lv_iconst (v := 0) hx hb dX8_part_25 (by decide) ?_
      refine lv_goto (tgt := 30) hx hb dX8_part_26 (by decide) ?_
      have h9 : (kc_X8_part nw pa what) = 0 := (if_neg c_1).trans ((if_neg c_2).trans (rfl))
      exact absurd h9 hk
  · refine lv_iconst (v := 1) hx hb dX8_part_9 (by decide) ?_
    refine lv_goto (tgt := 30) hx hb dX8_part_10 (by decide) ?_
    refine k_ai (wr := [(nw0, .inl (g 0, 748, .inl nw))]) (w2 := [(m0, .inr (8, [.int 1, .ref sc0, .int (nI ss), .int (nI sp), .int ig, .int lo, .ref rd0, .ref nw0, .ref tr0, .ref di0, .int (nI ac), .ref ke0, .ref ik0, .ref cp0, .ref cn0, .ref be0])), (nw0, .inl (g 0, 748, .inl nw))]) (va_runV (As := [.int 1]) (rest := []) ⟨hx, hb, hml, hown, hts⟩ (c_X8_refused1 l D g m0 sc0 rd0 nw0 tr0 di0 ke0 ik0 cp0 cn0 be0 H.size rf ss sp ig lo ac) (cwV 1 hts gX8_part_X8_refused rfl rfl rfl (by decide +kernel) (k_lvl (by omega) (by decide))) (kPV hP hD hK hS hA hE [0] rfl (by decide) 0 8 rfl rfl rfl) rfl rfl hl.1 rfl (lv_room (Nat.le_of_ble_eq_true rfl)) dX8_part_30 ⟨Nat.le_of_ble_eq_true rfl, Nat.le_of_ble_eq_true rfl⟩) hP hD hS hA [0] [1] [1, 0] rfl rfl (by decide) (by decide) rfl (by decide) (fun H locs hP hD hS => ?_)
    refine lv_if_eq (tgt := 38) hx hb dX8_part_33 (by decide) (fun c_4 => absurd c_4 (by decide)) (fun _ => ?_)
    refine lv_iconst (v := 0) hx hb dX8_part_36 (by decide) ?_
    subst hQ
    exact k_ri hx hb hr hlocks hP hD hS dX8_part_37 (rfl) (by rw [show (kc_X8_part nw pa what) = 1 from (if_pos c_1).trans (rfl)])
end
