-- MODULE: the reference, its text
def f_X8_thrown (rf : Int32) : Int32 :=
  rf
theorem qX8_thrown_0 : Cond.fieldLink RX8 41 "BlameChainsModel" "refusal" "I" ∈ wsX8_thrown := (List.mem_cons_of_mem _ (List.mem_append_left _ (List.mem_of_getElem? (i := 0) rfl)))
set_option maxHeartbeats 4000000 in
set_option maxRecDepth 100000 in
theorem c_X8_thrown (l : Launch) (D : va_G) (g : Nat → Nat) (m0 sc0 rd0 nw0 tr0 di0 ke0 ik0 cp0 cn0 be0 : Nat) (sz : Nat) (rf : Int32) (ss : Nat) (sp : Nat) (ig : Int32) (lo : Int32) (ac : Nat) : kMi l D g yX8_thrown wsX8_thrown 1 0 0 [.ref m0] [(m0, .inr (8, [.int rf, .ref sc0, .int (nI ss), .int (nI sp), .int ig, .int lo, .ref rd0, .ref nw0, .ref tr0, .ref di0, .int (nI ac), .ref ke0, .ref ik0, .ref cp0, .ref cn0, .ref be0]))] sz (f_X8_thrown rf) [(m0, .inr (8, [.int rf, .ref sc0, .int (nI ss), .int (nI sp), .int ig, .int lo, .ref rd0, .ref nw0, .ref tr0, .ref di0, .int (nI ac), .ref ke0, .ref ik0, .ref cp0, .ref cn0, .ref be0]))] := by
  refine k_enter (nm := "thrown") (own := RX8) (bytes := cX8_thrown) (maxL := 1) (ret := (some .int)) (Qf := fun A => kQi D [(m0, .inr (8, [.int rf, .ref sc0, .int (nI ss), .int (nI sp), .int ig, .int lo, .ref rd0, .ref nw0, .ref tr0, .ref di0, .int (nI ac), .ref ke0, .ref ik0, .ref cp0, .ref cn0, .ref be0]))] A (f_X8_thrown rf)) (by decide) rfl rfl rfl (Nat.le_of_ble_eq_true rfl) ?_
  rintro pp ee s mm below meth cc A ls args Q H locs hQ ⟨hx, hb, hr, hml, hown, hts, hlocks, hin⟩ hP hK hD hA hS hE hl
  have hl : lv_has ls 1 [(0, .ref m0)] := hl
  refine lv_aload_n hx hb dX8_thrown_0 rfl (lv_at hl 0 rfl) ?_
  refine va_get (D := D) (ci := 8) (v := .int rf) (C := RX8) (T := TX8) (N := 16) hx hb hts (fun w h => (List.mem_cons_of_mem _ (List.mem_append_right _ h))) hown hK hP 0 rfl rfl 0 (by decide) (hts _ qX8_thrown_0) (fun _ h9 => h9) rfl dX8_thrown_1 ?_
  have hE2 : (f_X8_thrown rf) = rf := by
    exact rfl
  subst hQ
  exact k_ri hx hb hr hlocks hP hD hS dX8_thrown_4 (hE2.symm) (rfl)
def f_X8_refused (which : Int32) : Int32 × Int32 :=
  if which ≤ 0 then
    (0, which)
  else
    (1, which)
theorem qX8_refused_0 : Cond.fieldLink RX8 41 "BlameChainsModel" "refusal" "I" ∈ wsX8_refused := (List.mem_cons_of_mem _ (List.mem_append_left _ (List.mem_of_getElem? (i := 0) rfl)))
set_option maxHeartbeats 4000000 in
set_option maxRecDepth 100000 in
theorem c_X8_refused (l : Launch) (D : va_G) (g : Nat → Nat) (m0 sc0 rd0 nw0 tr0 di0 ke0 ik0 cp0 cn0 be0 : Nat) (sz : Nat) (rf : Int32) (ss : Nat) (sp : Nat) (ig : Int32) (lo : Int32) (ac : Nat) (which : Int32) : kMi l D g yX8_refused wsX8_refused 1 0 0 [.ref m0, .int which] [(m0, .inr (8, [.int rf, .ref sc0, .int (nI ss), .int (nI sp), .int ig, .int lo, .ref rd0, .ref nw0, .ref tr0, .ref di0, .int (nI ac), .ref ke0, .ref ik0, .ref cp0, .ref cn0, .ref be0]))] sz ((f_X8_refused which).1) [(m0, .inr (8, [.int ((f_X8_refused which).2), .ref sc0, .int (nI ss), .int (nI sp), .int ig, .int lo, .ref rd0, .ref nw0, .ref tr0, .ref di0, .int (nI ac), .ref ke0, .ref ik0, .ref cp0, .ref cn0, .ref be0]))] := by
  refine k_enter (nm := "refused") (own := RX8) (bytes := cX8_refused) (maxL := 2) (ret := (some .boolean)) (Qf := fun A => kQi D [(m0, .inr (8, [.int ((f_X8_refused which).2), .ref sc0, .int (nI ss), .int (nI sp), .int ig, .int lo, .ref rd0, .ref nw0, .ref tr0, .ref di0, .int (nI ac), .ref ke0, .ref ik0, .ref cp0, .ref cn0, .ref be0]))] A ((f_X8_refused which).1)) (by decide) rfl rfl rfl (Nat.le_of_ble_eq_true rfl) ?_
  rintro pp ee s mm below meth cc A ls args Q H locs hQ ⟨hx, hb, hr, hml, hown, hts, hlocks, hin⟩ hP hK hD hA hS hE hl
  have hl : lv_has ls 2 [(0, .ref m0), (1, .int which)] := hl
  refine lv_aload_n hx hb dX8_refused_0 rfl (lv_at hl 0 rfl) ?_
  refine lv_iload_n hx hb dX8_refused_1 rfl (lv_at hl 1 rfl) ?_
  refine va_put (D := D) (ci := 8) (v := .int which) (ty := .int) (C := RX8) (T := TX8) (N := 16) hx hb hts (fun w h => (List.mem_cons_of_mem _ (List.mem_append_right _ h))) tyX8 tyX8_ok nmX8 hown hK hP hD hS 0 rfl rfl 0 (by decide) (hts _ qX8_refused_0) (fun _ h9 => h9) rfl (by decide +kernel) rfl rfl (Nat.le_of_ble_eq_true rfl) dX8_refused_2 (fun H locs hP hD hS => ?_)
  have hP : va_P D vwCl [(m0, .inr (8, [.int which, .ref sc0, .int (nI ss), .int (nI sp), .int ig, .int lo, .ref rd0, .ref nw0, .ref tr0, .ref di0, .int (nI ac), .ref ke0, .ref ik0, .ref cp0, .ref cn0, .ref be0]))] H := hP
  have hD : va_D A [(m0, .inr (8, [.int which, .ref sc0, .int (nI ss), .int (nI sp), .int ig, .int lo, .ref rd0, .ref nw0, .ref tr0, .ref di0, .int (nI ac), .ref ke0, .ref ik0, .ref cp0, .ref cn0, .ref be0]))] := hD
  refine lv_iload_n hx hb dX8_refused_5 rfl (lv_at hl 1 rfl) ?_
  refine lv_if_le (tgt := 13) hx hb dX8_refused_6 (by decide) (fun c_1 => ?_) (fun c_1 => ?_)
  · refine lv_iconst (v := 0) hx hb dX8_refused_13 (by decide) ?_
    have hE2 : (f_X8_refused which) = (0, which) := by
      exact (if_pos c_1).trans (rfl)
    subst hQ
    exact k_rz hx hb hr hlocks hP hD hS dX8_refused_14 (by rfl) (by rw [hE2]) (by rw [hE2])
  · refine lv_iconst (v := 1) hx hb dX8_refused_9 (by decide) ?_
    refine lv_goto (tgt := 14) hx hb dX8_refused_10 (by decide) ?_
    have hE2 : (f_X8_refused which) = (1, which) := by
      exact (if_neg c_1).trans (rfl)
    subst hQ
    exact k_rz hx hb hr hlocks hP hD hS dX8_refused_14 (by rfl) (by rw [hE2]) (by rw [hE2])
def f_X8_isNext (ss : Nat) (sp : Nat) (sc : Nat → Int32) (c9 : Int32) : Int32 :=
  if ss ≤ sp then
    0
  else
    if (sc sp) = c9 then
      1
    else
      0
theorem qX8_isNext_0 : Cond.fieldLink RX8 112 "BlameChainsModel" "spot" "I" ∈ wsX8_isNext := (List.mem_cons_of_mem _ (List.mem_append_left _ (List.mem_of_getElem? (i := 0) rfl)))
theorem qX8_isNext_1 : Cond.fieldLink RX8 105 "BlameChainsModel" "scriptSize" "I" ∈ wsX8_isNext := (List.mem_cons_of_mem _ (List.mem_append_left _ (List.mem_of_getElem? (i := 1) rfl)))
theorem qX8_isNext_2 : Cond.fieldLink RX8 7 "BlameChainsModel" "script" "[I" ∈ wsX8_isNext := (List.mem_cons_of_mem _ (List.mem_append_left _ (List.mem_of_getElem? (i := 2) rfl)))
set_option maxHeartbeats 4000000 in
set_option maxRecDepth 100000 in
theorem c_X8_isNext (l : Launch) (D : va_G) (g : Nat → Nat) (m0 sc0 rd0 nw0 tr0 di0 ke0 ik0 cp0 cn0 be0 : Nat) (sz : Nat) (rf : Int32) (ss : Nat) (sp : Nat) (ig : Int32) (lo : Int32) (ac : Nat) (sc : Nat → Int32) (c9 : Int32) (hss : ss ≤ 120) (hsp : sp ≤ 1000) : kMi l D g yX8_isNext wsX8_isNext 1 0 0 [.ref m0, .int c9] [(m0, .inr (8, [.int rf, .ref sc0, .int (nI ss), .int (nI sp), .int ig, .int lo, .ref rd0, .ref nw0, .ref tr0, .ref di0, .int (nI ac), .ref ke0, .ref ik0, .ref cp0, .ref cn0, .ref be0])), (sc0, .inl (g 0, 120, .inl sc))] sz (f_X8_isNext ss sp sc c9) [(m0, .inr (8, [.int rf, .ref sc0, .int (nI ss), .int (nI sp), .int ig, .int lo, .ref rd0, .ref nw0, .ref tr0, .ref di0, .int (nI ac), .ref ke0, .ref ik0, .ref cp0, .ref cn0, .ref be0])), (sc0, .inl (g 0, 120, .inl sc))] := by
  refine k_enter (nm := "isNext") (own := RX8) (bytes := cX8_isNext) (maxL := 2) (ret := (some .boolean)) (Qf := fun A => kQi D [(m0, .inr (8, [.int rf, .ref sc0, .int (nI ss), .int (nI sp), .int ig, .int lo, .ref rd0, .ref nw0, .ref tr0, .ref di0, .int (nI ac), .ref ke0, .ref ik0, .ref cp0, .ref cn0, .ref be0])), (sc0, .inl (g 0, 120, .inl sc))] A (f_X8_isNext ss sp sc c9)) (by decide) rfl rfl rfl (Nat.le_of_ble_eq_true rfl) ?_
  rintro pp ee s mm below meth cc A ls args Q H locs hQ ⟨hx, hb, hr, hml, hown, hts, hlocks, hin⟩ hP hK hD hA hS hE hl
  have hl : lv_has ls 2 [(0, .ref m0), (1, .int c9)] := hl
  refine lv_aload_n hx hb dX8_isNext_0 rfl (lv_at hl 0 rfl) ?_
  refine va_get (D := D) (ci := 8) (v := .int (nI sp)) (C := RX8) (T := TX8) (N := 16) hx hb hts (fun w h => (List.mem_cons_of_mem _ (List.mem_append_right _ h))) hown hK hP 0 rfl rfl 3 (by decide) (hts _ qX8_isNext_0) (fun _ h9 => h9) rfl dX8_isNext_1 ?_
  refine lv_aload_n hx hb dX8_isNext_4 rfl (lv_at hl 0 rfl) ?_
  refine va_get (D := D) (ci := 8) (v := .int (nI ss)) (C := RX8) (T := TX8) (N := 16) hx hb hts (fun w h => (List.mem_cons_of_mem _ (List.mem_append_right _ h))) hown hK hP 0 rfl rfl 2 (by decide) (hts _ qX8_isNext_1) (fun _ h9 => h9) rfl dX8_isNext_5 ?_
  refine lv_icmp_ge (tgt := 28) hx hb dX8_isNext_8 (by decide) (fun c_1 => ?_) (fun c_1 => ?_)
  · have c_1 : ss ≤ sp := (nI_leI (a := ss) (b := sp) (by omega) (by omega)).mp c_1
    refine lv_iconst (v := 0) hx hb dX8_isNext_28 (by decide) ?_
    have hE2 : (f_X8_isNext ss sp sc c9) = 0 := by
      exact (if_pos c_1).trans (rfl)
    subst hQ
    exact k_rz hx hb hr hlocks hP hD hS dX8_isNext_29 (by rfl) (hE2.symm) (rfl)
  · have c_1 : ¬ (ss ≤ sp) := fun h9 => c_1 ((nI_leI (a := ss) (b := sp) (by omega) (by omega)).mpr h9)
    refine lv_aload_n hx hb dX8_isNext_11 rfl (lv_at hl 0 rfl) ?_
    refine va_get (D := D) (ci := 8) (v := .ref sc0) (C := RX8) (T := TX8) (N := 16) hx hb hts (fun w h => (List.mem_cons_of_mem _ (List.mem_append_right _ h))) hown hK hP 0 rfl rfl 1 (by decide) (hts _ qX8_isNext_2) (fun _ h9 => h9) rfl dX8_isNext_12 ?_
    refine lv_aload_n hx hb dX8_isNext_15 rfl (lv_at hl 0 rfl) ?_
    refine va_get (D := D) (ci := 8) (v := .int (nI sp)) (C := RX8) (T := TX8) (N := 16) hx hb hts (fun w h => (List.mem_cons_of_mem _ (List.mem_append_right _ h))) hown hK hP 0 rfl rfl 3 (by decide) (hts _ qX8_isNext_0) (fun _ h9 => h9) rfl dX8_isNext_16 ?_
    refine va_iald (i := (nI sp)) hx hb hK hP 1 0 rfl rfl (vp_in_nI (n := sp) (by omega) (by omega)) dX8_isNext_19 ?_
    refine k_top (y := (sc sp)) (by rw [nI_clamp (by omega)]) ?_
    refine lv_iload_n hx hb dX8_isNext_20 rfl (lv_at hl 1 rfl) ?_
    refine lv_icmp_ne (tgt := 28) hx hb dX8_isNext_21 (by decide) (fun c_2 => ?_) (fun c_2 => ?_)
    · refine lv_iconst (v := 0) hx hb dX8_isNext_28 (by decide) ?_
      have hE2 : (f_X8_isNext ss sp sc c9) = 0 := by
        exact (if_neg c_1).trans ((if_neg c_2).trans (rfl))
      subst hQ
      exact k_rz hx hb hr hlocks hP hD hS dX8_isNext_29 (by rfl) (hE2.symm) (rfl)
    · refine lv_iconst (v := 1) hx hb dX8_isNext_24 (by decide) ?_
      refine lv_goto (tgt := 29) hx hb dX8_isNext_25 (by decide) ?_
      have hE2 : (f_X8_isNext ss sp sc c9) = 1 := by
        exact (if_neg c_1).trans ((if_pos c_2).trans (rfl))
      subst hQ
      exact k_rz hx hb hr hlocks hP hD hS dX8_isNext_29 (by rfl) (hE2.symm) (rfl)
/-- a sign is taken, or the text isn't good any more -/
def kAccG (ig b9 : Int32) : Int32 := if ig = 0 then 0 else if b9 = 0 then 0 else 1
def kAccS (sp : Nat) (ig b9 : Int32) : Nat := if ig = 0 then sp else if b9 = 0 then sp else sp + 1
theorem kAccS_le (sp : Nat) (ig b9 : Int32) : kAccS sp ig b9 ≤ sp + 1 := by
  unfold kAccS
  repeat' split
  all_goals omega
theorem qX8_accept_0 : Cond.fieldLink RX8 115 "BlameChainsModel" "isGood" "Z" ∈ wsX8_accept := (List.mem_cons_of_mem _ (List.mem_append_left _ (List.mem_of_getElem? (i := 0) rfl)))
theorem qX8_accept_1 : Cond.fieldLink RX8 112 "BlameChainsModel" "spot" "I" ∈ wsX8_accept := (List.mem_cons_of_mem _ (List.mem_append_left _ (List.mem_of_getElem? (i := 1) rfl)))
set_option maxHeartbeats 4000000 in
set_option maxRecDepth 100000 in
theorem c_X8_accept (l : Launch) (D : va_G) (g : Nat → Nat) (m0 sc0 rd0 nw0 tr0 di0 ke0 ik0 cp0 cn0 be0 : Nat) (sz : Nat) (rf : Int32) (ss : Nat) (sp : Nat) (ig : Int32) (lo : Int32) (ac : Nat) (b9 : Int32) (hsp : sp ≤ 2000) : kMv l D g yX8_accept wsX8_accept 1 0 0 [.ref m0, .int b9] [(m0, .inr (8, [.int rf, .ref sc0, .int (nI ss), .int (nI sp), .int ig, .int lo, .ref rd0, .ref nw0, .ref tr0, .ref di0, .int (nI ac), .ref ke0, .ref ik0, .ref cp0, .ref cn0, .ref be0]))] sz [(m0, .inr (8, [.int rf, .ref sc0, .int (nI ss), .int (nI (kAccS sp ig b9)), .int (kAccG ig b9), .int lo, .ref rd0, .ref nw0, .ref tr0, .ref di0, .int (nI ac), .ref ke0, .ref ik0, .ref cp0, .ref cn0, .ref be0]))] := by
  refine k_enter (nm := "accept") (own := RX8) (bytes := cX8_accept) (maxL := 2) (ret := none) (Qf := fun A => kQv D [(m0, .inr (8, [.int rf, .ref sc0, .int (nI ss), .int (nI (kAccS sp ig b9)), .int (kAccG ig b9), .int lo, .ref rd0, .ref nw0, .ref tr0, .ref di0, .int (nI ac), .ref ke0, .ref ik0, .ref cp0, .ref cn0, .ref be0]))] A) (by decide) rfl rfl rfl (Nat.le_of_ble_eq_true rfl) ?_
  rintro pp ee s mm below meth cc A ls args Q H locs hQ ⟨hx, hb, hr, hml, hown, hts, hlocks, hin⟩ hP hK hD hA hS hE hl
  have hl : lv_has ls 2 [(0, .ref m0), (1, .int b9)] := hl
  refine lv_aload_n hx hb dX8_accept_0 rfl (lv_at hl 0 rfl) ?_
  refine lv_aload_n hx hb dX8_accept_1 rfl (lv_at hl 0 rfl) ?_
  refine va_get (D := D) (ci := 8) (v := .int ig) (C := RX8) (T := TX8) (N := 16) hx hb hts (fun w h => (List.mem_cons_of_mem _ (List.mem_append_right _ h))) hown hK hP 0 rfl rfl 4 (by decide) (hts _ qX8_accept_0) (fun _ h9 => h9) rfl dX8_accept_2 ?_
  refine lv_if_eq (tgt := 16) hx hb dX8_accept_5 (by decide) (fun c_1 => ?_) (fun c_1 => ?_)
  · refine lv_iconst (v := 0) hx hb dX8_accept_16 (by decide) ?_
    refine va_put (D := D) (ci := 8) (v := .int 0) (ty := .boolean) (C := RX8) (T := TX8) (N := 16) hx hb hts (fun w h => (List.mem_cons_of_mem _ (List.mem_append_right _ h))) tyX8 tyX8_ok nmX8 hown hK hP hD hS 0 rfl rfl 4 (by decide) (hts _ qX8_accept_0) (fun _ h9 => h9) rfl (by decide +kernel) rfl rfl (Nat.le_of_ble_eq_true rfl) dX8_accept_17 (fun H locs hP hD hS => ?_)
    have hP : va_P D vwCl [(m0, .inr (8, [.int rf, .ref sc0, .int (nI ss), .int (nI sp), .int 0, .int lo, .ref rd0, .ref nw0, .ref tr0, .ref di0, .int (nI ac), .ref ke0, .ref ik0, .ref cp0, .ref cn0, .ref be0]))] H := hP
    have hD : va_D A [(m0, .inr (8, [.int rf, .ref sc0, .int (nI ss), .int (nI sp), .int 0, .int lo, .ref rd0, .ref nw0, .ref tr0, .ref di0, .int (nI ac), .ref ke0, .ref ik0, .ref cp0, .ref cn0, .ref be0]))] := hD
    refine lv_aload_n hx hb dX8_accept_20 rfl (lv_at hl 0 rfl) ?_
    refine lv_dup hx hb dX8_accept_21 rfl ?_
    refine va_get (D := D) (ci := 8) (v := .int (nI sp)) (C := RX8) (T := TX8) (N := 16) hx hb hts (fun w h => (List.mem_cons_of_mem _ (List.mem_append_right _ h))) hown hK hP 0 rfl rfl 3 (by decide) (hts _ qX8_accept_1) (fun _ h9 => h9) rfl dX8_accept_22 ?_
    refine lv_aload_n hx hb dX8_accept_25 rfl (lv_at hl 0 rfl) ?_
    refine va_get (D := D) (ci := 8) (v := .int 0) (C := RX8) (T := TX8) (N := 16) hx hb hts (fun w h => (List.mem_cons_of_mem _ (List.mem_append_right _ h))) hown hK hP 0 rfl rfl 4 (by decide) (hts _ qX8_accept_0) (fun _ h9 => h9) rfl dX8_accept_26 ?_
    refine lv_if_eq (tgt := 36) hx hb dX8_accept_29 (by decide) (fun _ => ?_) (fun c_2 => absurd c_2 (by decide))
    refine lv_iconst (v := 0) hx hb dX8_accept_36 (by decide) ?_
    refine lv_iadd hx hb dX8_accept_37 ?_
    refine k_top (y := (nI (sp + 0))) (nI_add sp 0) ?_
    refine va_put (D := D) (ci := 8) (v := .int (nI (sp + 0))) (ty := .int) (C := RX8) (T := TX8) (N := 16) hx hb hts (fun w h => (List.mem_cons_of_mem _ (List.mem_append_right _ h))) tyX8 tyX8_ok nmX8 hown hK hP hD hS 0 rfl rfl 3 (by decide) (hts _ qX8_accept_1) (fun _ h9 => h9) rfl (by decide +kernel) rfl rfl (Nat.le_of_ble_eq_true rfl) dX8_accept_38 (fun H locs hP hD hS => ?_)
    have hP : va_P D vwCl [(m0, .inr (8, [.int rf, .ref sc0, .int (nI ss), .int (nI (sp + 0)), .int 0, .int lo, .ref rd0, .ref nw0, .ref tr0, .ref di0, .int (nI ac), .ref ke0, .ref ik0, .ref cp0, .ref cn0, .ref be0]))] H := hP
    have hD : va_D A [(m0, .inr (8, [.int rf, .ref sc0, .int (nI ss), .int (nI (sp + 0)), .int 0, .int lo, .ref rd0, .ref nw0, .ref tr0, .ref di0, .int (nI ac), .ref ke0, .ref ik0, .ref cp0, .ref cn0, .ref be0]))] := hD
    subst hQ
    exact k_rv hx hb hr hlocks hP hD hS dX8_accept_41 (by simp only [kAccG, kAccS, if_pos c_1] <;> rfl)
  · refine lv_iload_n hx hb dX8_accept_8 rfl (lv_at hl 1 rfl) ?_
    refine lv_if_eq (tgt := 16) hx hb dX8_accept_9 (by decide) (fun c_3 => ?_) (fun c_3 => ?_)
    · refine lv_iconst (v := 0) hx hb dX8_accept_16 (by decide) ?_
      refine va_put (D := D) (ci := 8) (v := .int 0) (ty := .boolean) (C := RX8) (T := TX8) (N := 16) hx hb hts (fun w h => (List.mem_cons_of_mem _ (List.mem_append_right _ h))) tyX8 tyX8_ok nmX8 hown hK hP hD hS 0 rfl rfl 4 (by decide) (hts _ qX8_accept_0) (fun _ h9 => h9) rfl (by decide +kernel) rfl rfl (Nat.le_of_ble_eq_true rfl) dX8_accept_17 (fun H locs hP hD hS => ?_)
      have hP : va_P D vwCl [(m0, .inr (8, [.int rf, .ref sc0, .int (nI ss), .int (nI sp), .int 0, .int lo, .ref rd0, .ref nw0, .ref tr0, .ref di0, .int (nI ac), .ref ke0, .ref ik0, .ref cp0, .ref cn0, .ref be0]))] H := hP
      have hD : va_D A [(m0, .inr (8, [.int rf, .ref sc0, .int (nI ss), .int (nI sp), .int 0, .int lo, .ref rd0, .ref nw0, .ref tr0, .ref di0, .int (nI ac), .ref ke0, .ref ik0, .ref cp0, .ref cn0, .ref be0]))] := hD
      refine lv_aload_n hx hb dX8_accept_20 rfl (lv_at hl 0 rfl) ?_
      refine lv_dup hx hb dX8_accept_21 rfl ?_
      refine va_get (D := D) (ci := 8) (v := .int (nI sp)) (C := RX8) (T := TX8) (N := 16) hx hb hts (fun w h => (List.mem_cons_of_mem _ (List.mem_append_right _ h))) hown hK hP 0 rfl rfl 3 (by decide) (hts _ qX8_accept_1) (fun _ h9 => h9) rfl dX8_accept_22 ?_
      refine lv_aload_n hx hb dX8_accept_25 rfl (lv_at hl 0 rfl) ?_
      refine va_get (D := D) (ci := 8) (v := .int 0) (C := RX8) (T := TX8) (N := 16) hx hb hts (fun w h => (List.mem_cons_of_mem _ (List.mem_append_right _ h))) hown hK hP 0 rfl rfl 4 (by decide) (hts _ qX8_accept_0) (fun _ h9 => h9) rfl dX8_accept_26 ?_
      refine lv_if_eq (tgt := 36) hx hb dX8_accept_29 (by decide) (fun _ => ?_) (fun c_4 => absurd c_4 (by decide))
      refine lv_iconst (v := 0) hx hb dX8_accept_36 (by decide) ?_
      refine lv_iadd hx hb dX8_accept_37 ?_
      refine k_top (y := (nI (sp + 0))) (nI_add sp 0) ?_
      refine va_put (D := D) (ci := 8) (v := .int (nI (sp + 0))) (ty := .int) (C := RX8) (T := TX8) (N := 16) hx hb hts (fun w h => (List.mem_cons_of_mem _ (List.mem_append_right _ h))) tyX8 tyX8_ok nmX8 hown hK hP hD hS 0 rfl rfl 3 (by decide) (hts _ qX8_accept_1) (fun _ h9 => h9) rfl (by decide +kernel) rfl rfl (Nat.le_of_ble_eq_true rfl) dX8_accept_38 (fun H locs hP hD hS => ?_)
      have hP : va_P D vwCl [(m0, .inr (8, [.int rf, .ref sc0, .int (nI ss), .int (nI (sp + 0)), .int 0, .int lo, .ref rd0, .ref nw0, .ref tr0, .ref di0, .int (nI ac), .ref ke0, .ref ik0, .ref cp0, .ref cn0, .ref be0]))] H := hP
      have hD : va_D A [(m0, .inr (8, [.int rf, .ref sc0, .int (nI ss), .int (nI (sp + 0)), .int 0, .int lo, .ref rd0, .ref nw0, .ref tr0, .ref di0, .int (nI ac), .ref ke0, .ref ik0, .ref cp0, .ref cn0, .ref be0]))] := hD
      subst hQ
      exact k_rv hx hb hr hlocks hP hD hS dX8_accept_41 (by simp only [kAccG, kAccS, if_neg c_1, if_pos c_3] <;> rfl)
    · refine lv_iconst (v := 1) hx hb dX8_accept_12 (by decide) ?_
      refine lv_goto (tgt := 17) hx hb dX8_accept_13 (by decide) ?_
      refine va_put (D := D) (ci := 8) (v := .int 1) (ty := .boolean) (C := RX8) (T := TX8) (N := 16) hx hb hts (fun w h => (List.mem_cons_of_mem _ (List.mem_append_right _ h))) tyX8 tyX8_ok nmX8 hown hK hP hD hS 0 rfl rfl 4 (by decide) (hts _ qX8_accept_0) (fun _ h9 => h9) rfl (by decide +kernel) rfl rfl (Nat.le_of_ble_eq_true rfl) dX8_accept_17 (fun H locs hP hD hS => ?_)
      have hP : va_P D vwCl [(m0, .inr (8, [.int rf, .ref sc0, .int (nI ss), .int (nI sp), .int 1, .int lo, .ref rd0, .ref nw0, .ref tr0, .ref di0, .int (nI ac), .ref ke0, .ref ik0, .ref cp0, .ref cn0, .ref be0]))] H := hP
      have hD : va_D A [(m0, .inr (8, [.int rf, .ref sc0, .int (nI ss), .int (nI sp), .int 1, .int lo, .ref rd0, .ref nw0, .ref tr0, .ref di0, .int (nI ac), .ref ke0, .ref ik0, .ref cp0, .ref cn0, .ref be0]))] := hD
      refine lv_aload_n hx hb dX8_accept_20 rfl (lv_at hl 0 rfl) ?_
      refine lv_dup hx hb dX8_accept_21 rfl ?_
      refine va_get (D := D) (ci := 8) (v := .int (nI sp)) (C := RX8) (T := TX8) (N := 16) hx hb hts (fun w h => (List.mem_cons_of_mem _ (List.mem_append_right _ h))) hown hK hP 0 rfl rfl 3 (by decide) (hts _ qX8_accept_1) (fun _ h9 => h9) rfl dX8_accept_22 ?_
      refine lv_aload_n hx hb dX8_accept_25 rfl (lv_at hl 0 rfl) ?_
      refine va_get (D := D) (ci := 8) (v := .int 1) (C := RX8) (T := TX8) (N := 16) hx hb hts (fun w h => (List.mem_cons_of_mem _ (List.mem_append_right _ h))) hown hK hP 0 rfl rfl 4 (by decide) (hts _ qX8_accept_0) (fun _ h9 => h9) rfl dX8_accept_26 ?_
      refine lv_if_eq (tgt := 36) hx hb dX8_accept_29 (by decide) (fun c_5 => absurd c_5 (by decide)) (fun _ => ?_)
      refine lv_iconst (v := 1) hx hb dX8_accept_32 (by decide) ?_
      refine lv_goto (tgt := 37) hx hb dX8_accept_33 (by decide) ?_
      refine lv_iadd hx hb dX8_accept_37 ?_
      refine k_top (y := (nI (sp + 1))) (nI_add sp 1) ?_
      refine va_put (D := D) (ci := 8) (v := .int (nI (sp + 1))) (ty := .int) (C := RX8) (T := TX8) (N := 16) hx hb hts (fun w h => (List.mem_cons_of_mem _ (List.mem_append_right _ h))) tyX8 tyX8_ok nmX8 hown hK hP hD hS 0 rfl rfl 3 (by decide) (hts _ qX8_accept_1) (fun _ h9 => h9) rfl (by decide +kernel) rfl rfl (Nat.le_of_ble_eq_true rfl) dX8_accept_38 (fun H locs hP hD hS => ?_)
      have hP : va_P D vwCl [(m0, .inr (8, [.int rf, .ref sc0, .int (nI ss), .int (nI (sp + 1)), .int 1, .int lo, .ref rd0, .ref nw0, .ref tr0, .ref di0, .int (nI ac), .ref ke0, .ref ik0, .ref cp0, .ref cn0, .ref be0]))] H := hP
      have hD : va_D A [(m0, .inr (8, [.int rf, .ref sc0, .int (nI ss), .int (nI (sp + 1)), .int 1, .int lo, .ref rd0, .ref nw0, .ref tr0, .ref di0, .int (nI ac), .ref ke0, .ref ik0, .ref cp0, .ref cn0, .ref be0]))] := hD
      subst hQ
      exact k_rv hx hb hr hlocks hP hD hS dX8_accept_41 (by simp only [kAccG, kAccS, if_neg c_1, if_neg c_3] <;> rfl)
/-- what stands at a place, as a digit -/
def kDv (ss sp : Nat) (sc : Nat → Int32) : Int32 := if ss ≤ sp then -10000 else sc sp - 48
def kDb (ss sp : Nat) (sc : Nat → Int32) (lo9 hi9 : Int32) : Int32 := if f_X8_in (Int32.toInt64 (kDv ss sp sc)) 0 9 = 0 then 0 else if f_X8_in (Int32.toInt64 (kDv ss sp sc)) (Int32.toInt64 lo9) (Int32.toInt64 hi9) = 0 then 0 else 1
def kDr (ss sp : Nat) (sc : Nat → Int32) (ig lo9 hi9 : Int32) : Int32 := if kAccG ig (kDb ss sp sc lo9 hi9) = 0 then lo9 else kDv ss sp sc
theorem qX8_digit_0 : Cond.fieldLink RX8 112 "BlameChainsModel" "spot" "I" ∈ wsX8_digit := (List.mem_cons_of_mem _ (List.mem_append_left _ (List.mem_of_getElem? (i := 0) rfl)))
theorem qX8_digit_1 : Cond.fieldLink RX8 105 "BlameChainsModel" "scriptSize" "I" ∈ wsX8_digit := (List.mem_cons_of_mem _ (List.mem_append_left _ (List.mem_of_getElem? (i := 1) rfl)))
theorem qX8_digit_2 : Cond.constantLong RX8 119 (9) ∈ wsX8_digit := (List.mem_cons_of_mem _ (List.mem_append_left _ (List.mem_of_getElem? (i := 3) rfl)))
theorem qX8_digit_3 : Cond.fieldLink RX8 115 "BlameChainsModel" "isGood" "Z" ∈ wsX8_digit := (List.mem_cons_of_mem _ (List.mem_append_left _ (List.mem_of_getElem? (i := 4) rfl)))
theorem qX8_digit_4 : Cond.fieldLink RX8 7 "BlameChainsModel" "script" "[I" ∈ wsX8_digit := (List.mem_cons_of_mem _ (List.mem_append_left _ (List.mem_of_getElem? (i := 2) rfl)))
set_option maxHeartbeats 4000000 in
set_option maxRecDepth 100000 in
theorem c_X8_digit (l : Launch) (D : va_G) (g : Nat → Nat) (m0 sc0 rd0 nw0 tr0 di0 ke0 ik0 cp0 cn0 be0 : Nat) (sz : Nat) (rf : Int32) (ss : Nat) (sp : Nat) (ig : Int32) (lo : Int32) (ac : Nat) (sc : Nat → Int32) (lo9 : Int32) (hi9 : Int32) (hss : ss ≤ 120) (hsp : sp ≤ 1000) : kMi l D g yX8_digit wsX8_digit 2 0 0 [.ref m0, .int lo9, .int hi9] [(m0, .inr (8, [.int rf, .ref sc0, .int (nI ss), .int (nI sp), .int ig, .int lo, .ref rd0, .ref nw0, .ref tr0, .ref di0, .int (nI ac), .ref ke0, .ref ik0, .ref cp0, .ref cn0, .ref be0])), (sc0, .inl (g 0, 120, .inl sc))] sz (kDr ss sp sc ig lo9 hi9) [(m0, .inr (8, [.int rf, .ref sc0, .int (nI ss), .int (nI (kAccS sp ig (kDb ss sp sc lo9 hi9))), .int (kAccG ig (kDb ss sp sc lo9 hi9)), .int lo, .ref rd0, .ref nw0, .ref tr0, .ref di0, .int (nI ac), .ref ke0, .ref ik0, .ref cp0, .ref cn0, .ref be0])), (sc0, .inl (g 0, 120, .inl sc))] := by
  refine k_enter (nm := "digit") (own := RX8) (bytes := cX8_digit) (maxL := 4) (ret := (some .int)) (Qf := fun A => kQi D [(m0, .inr (8, [.int rf, .ref sc0, .int (nI ss), .int (nI (kAccS sp ig (kDb ss sp sc lo9 hi9))), .int (kAccG ig (kDb ss sp sc lo9 hi9)), .int lo, .ref rd0, .ref nw0, .ref tr0, .ref di0, .int (nI ac), .ref ke0, .ref ik0, .ref cp0, .ref cn0, .ref be0])), (sc0, .inl (g 0, 120, .inl sc))] A (kDr ss sp sc ig lo9 hi9)) (by decide) rfl rfl rfl (Nat.le_of_ble_eq_true rfl) ?_
  rintro pp ee s mm below meth cc A ls args Q H locs hQ ⟨hx, hb, hr, hml, hown, hts, hlocks, hin⟩ hP hK hD hA hS hE hl
  have hl : lv_has ls 4 [(0, .ref m0), (1, .int lo9), (2, .int hi9)] := hl
  refine lv_aload_n hx hb dX8_digit_0 rfl (lv_at hl 0 rfl) ?_
  refine va_get (D := D) (ci := 8) (v := .int (nI sp)) (C := RX8) (T := TX8) (N := 16) hx hb hts (fun w h => (List.mem_cons_of_mem _ (List.mem_append_right _ h))) hown hK hP 0 rfl rfl 3 (by decide) (hts _ qX8_digit_0) (fun _ h9 => h9) rfl dX8_digit_1 ?_
  refine lv_aload_n hx hb dX8_digit_4 rfl (lv_at hl 0 rfl) ?_
  refine va_get (D := D) (ci := 8) (v := .int (nI ss)) (C := RX8) (T := TX8) (N := 16) hx hb hts (fun w h => (List.mem_cons_of_mem _ (List.mem_append_right _ h))) hown hK hP 0 rfl rfl 2 (by decide) (hts _ qX8_digit_1) (fun _ h9 => h9) rfl dX8_digit_5 ?_
  refine lv_icmp_ge (tgt := 26) hx hb dX8_digit_8 (by decide) (fun c_1 => ?_) (fun c_1 => ?_)
  · have c_1 : ss ≤ sp := (nI_leI (a := ss) (b := sp) (by omega) (by omega)).mp c_1
    refine lv_sipush (v := (-10000)) hx hb dX8_digit_26 (by decide) ?_
    refine lv_istore_n (lv' := [(3, .int (-10000)), (0, .ref m0), (1, .int lo9), (2, .int hi9)]) hx hb dX8_digit_29 rfl hl (by decide) rfl (fun ls hl => ?_)
    refine lv_aload_n hx hb dX8_digit_30 rfl (lv_at hl 1 rfl) ?_
    refine lv_iload_n hx hb dX8_digit_31 rfl (lv_at hl 0 rfl) ?_
    refine lv_i2l (v := (Int32.toInt64 (-10000))) hx hb dX8_digit_32 rfl ?_
    refine lv_lconst (v := 0) hx hb dX8_digit_33 (by decide) ?_
    refine lv_ldc2 hx hb hown (hts _ qX8_digit_2) dX8_digit_34 ?_
    refine k_ai (wr := [(m0, .inr (8, [.int rf, .ref sc0, .int (nI ss), .int (nI sp), .int ig, .int lo, .ref rd0, .ref nw0, .ref tr0, .ref di0, .int (nI ac), .ref ke0, .ref ik0, .ref cp0, .ref cn0, .ref be0])), (sc0, .inl (g 0, 120, .inl sc))]) (w2 := [(m0, .inr (8, [.int rf, .ref sc0, .int (nI ss), .int (nI sp), .int ig, .int lo, .ref rd0, .ref nw0, .ref tr0, .ref di0, .int (nI ac), .ref ke0, .ref ik0, .ref cp0, .ref cn0, .ref be0])), (sc0, .inl (g 0, 120, .inl sc))]) (va_runS (As := [.long (Int32.toInt64 (-10000)), .long 0, .long 9]) (rest := [.ref m0]) ⟨hx, hb, hml, hown, hts⟩ (c_X8_in l D g H.size (Int32.toInt64 (-10000)) 0 9) (va_cwS 3 hts gX8_digit_X8_in rfl rfl rfl (by decide +kernel) (k_lvl (by omega) (by decide))) (kPS hP hD hK hS hA hE [] rfl (by decide)) rfl rfl hl.1 rfl (lv_room (Nat.le_of_ble_eq_true rfl)) dX8_digit_37 ⟨Nat.le_of_ble_eq_true rfl, Nat.le_of_ble_eq_true rfl⟩) hP hD hS hA [] [0, 1] [0, 1] rfl rfl (by decide) (by decide) rfl (by decide) (fun H locs hP hD hS => ?_)
    refine lv_if_eq (tgt := 59) hx hb dX8_digit_40 (by decide) (fun c_2 => ?_) (fun c_2 => ?_)
    · refine lv_iconst (v := 0) hx hb dX8_digit_59 (by decide) ?_
      refine k_av (wr := [(sc0, .inl (g 0, 120, .inl sc))]) (w2 := [(m0, .inr (8, [.int rf, .ref sc0, .int (nI ss), .int (nI (kAccS sp ig 0)), .int (kAccG ig 0), .int lo, .ref rd0, .ref nw0, .ref tr0, .ref di0, .int (nI ac), .ref ke0, .ref ik0, .ref cp0, .ref cn0, .ref be0])), (sc0, .inl (g 0, 120, .inl sc))]) (va_runV (As := [.int 0]) (rest := []) ⟨hx, hb, hml, hown, hts⟩ (c_X8_accept l D g m0 sc0 rd0 nw0 tr0 di0 ke0 ik0 cp0 cn0 be0 H.size rf ss sp ig lo ac 0 (by omega)) (cwV 1 hts gX8_digit_X8_accept rfl rfl rfl (by decide +kernel) (k_lvl (by omega) (by decide))) (kPV hP hD hK hS hA hE [0] rfl (by decide) 0 8 rfl rfl rfl) rfl rfl hl.1 rfl (lv_room (Nat.le_of_ble_eq_true rfl)) dX8_digit_60 ⟨Nat.le_of_ble_eq_true rfl, Nat.le_of_ble_eq_true rfl⟩) hP hD hS hA [0] [1] [1, 0] rfl rfl (by decide) (by decide) rfl (by decide) (fun H locs hP hD hS => ?_)
      refine lv_aload_n hx hb dX8_digit_63 rfl (lv_at hl 1 rfl) ?_
      refine va_get (D := D) (ci := 8) (v := .int (kAccG ig 0)) (C := RX8) (T := TX8) (N := 16) hx hb hts (fun w h => (List.mem_cons_of_mem _ (List.mem_append_right _ h))) hown hK hP 0 rfl rfl 4 (by decide) (hts _ qX8_digit_3) (fun _ h9 => h9) rfl dX8_digit_64 ?_
      refine lv_if_eq (tgt := 74) hx hb dX8_digit_67 (by decide) (fun c_3 => ?_) (fun c_3 => ?_)
      · refine lv_iload_n hx hb dX8_digit_74 rfl (lv_at hl 2 rfl) ?_
        have hdv : kDv ss sp sc = (-10000) := by unfold kDv; rw [if_pos c_1]
        have hdb : kDb ss sp sc lo9 hi9 = 0 := by unfold kDb; rw [hdv, if_pos c_2]
        subst hQ
        exact k_ri hx hb hr hlocks hP hD hS dX8_digit_75 (by unfold kDr; rw [hdb, if_pos c_3]) (by rw [hdb])
      · refine lv_iload_n hx hb dX8_digit_70 rfl (lv_at hl 0 rfl) ?_
        refine lv_goto (tgt := 75) hx hb dX8_digit_71 (by decide) ?_
        have hdv : kDv ss sp sc = (-10000) := by unfold kDv; rw [if_pos c_1]
        have hdb : kDb ss sp sc lo9 hi9 = 0 := by unfold kDb; rw [hdv, if_pos c_2]
        subst hQ
        exact k_ri hx hb hr hlocks hP hD hS dX8_digit_75 (by unfold kDr; rw [hdb, if_neg c_3, hdv]) (by rw [hdb])
    · refine lv_iload_n hx hb dX8_digit_43 rfl (lv_at hl 0 rfl) ?_
      refine lv_i2l (v := (Int32.toInt64 (-10000))) hx hb dX8_digit_44 rfl ?_
      refine lv_iload_n hx hb dX8_digit_45 rfl (lv_at hl 2 rfl) ?_
      refine lv_i2l (v := (Int32.toInt64 lo9)) hx hb dX8_digit_46 rfl ?_
      refine lv_iload_n hx hb dX8_digit_47 rfl (lv_at hl 3 rfl) ?_
      refine lv_i2l (v := (Int32.toInt64 hi9)) hx hb dX8_digit_48 rfl ?_
      refine k_ai (wr := [(m0, .inr (8, [.int rf, .ref sc0, .int (nI ss), .int (nI sp), .int ig, .int lo, .ref rd0, .ref nw0, .ref tr0, .ref di0, .int (nI ac), .ref ke0, .ref ik0, .ref cp0, .ref cn0, .ref be0])), (sc0, .inl (g 0, 120, .inl sc))]) (w2 := [(m0, .inr (8, [.int rf, .ref sc0, .int (nI ss), .int (nI sp), .int ig, .int lo, .ref rd0, .ref nw0, .ref tr0, .ref di0, .int (nI ac), .ref ke0, .ref ik0, .ref cp0, .ref cn0, .ref be0])), (sc0, .inl (g 0, 120, .inl sc))]) (va_runS (As := [.long (Int32.toInt64 (-10000)), .long (Int32.toInt64 lo9), .long (Int32.toInt64 hi9)]) (rest := [.ref m0]) ⟨hx, hb, hml, hown, hts⟩ (c_X8_in l D g H.size (Int32.toInt64 (-10000)) (Int32.toInt64 lo9) (Int32.toInt64 hi9)) (va_cwS 3 hts gX8_digit_X8_in rfl rfl rfl (by decide +kernel) (k_lvl (by omega) (by decide))) (kPS hP hD hK hS hA hE [] rfl (by decide)) rfl rfl hl.1 rfl (lv_room (Nat.le_of_ble_eq_true rfl)) dX8_digit_49 ⟨Nat.le_of_ble_eq_true rfl, Nat.le_of_ble_eq_true rfl⟩) hP hD hS hA [] [0, 1] [0, 1] rfl rfl (by decide) (by decide) rfl (by decide) (fun H locs hP hD hS => ?_)
      refine lv_if_eq (tgt := 59) hx hb dX8_digit_52 (by decide) (fun c_4 => ?_) (fun c_4 => ?_)
      · refine lv_iconst (v := 0) hx hb dX8_digit_59 (by decide) ?_
        refine k_av (wr := [(sc0, .inl (g 0, 120, .inl sc))]) (w2 := [(m0, .inr (8, [.int rf, .ref sc0, .int (nI ss), .int (nI (kAccS sp ig 0)), .int (kAccG ig 0), .int lo, .ref rd0, .ref nw0, .ref tr0, .ref di0, .int (nI ac), .ref ke0, .ref ik0, .ref cp0, .ref cn0, .ref be0])), (sc0, .inl (g 0, 120, .inl sc))]) (va_runV (As := [.int 0]) (rest := []) ⟨hx, hb, hml, hown, hts⟩ (c_X8_accept l D g m0 sc0 rd0 nw0 tr0 di0 ke0 ik0 cp0 cn0 be0 H.size rf ss sp ig lo ac 0 (by omega)) (cwV 1 hts gX8_digit_X8_accept rfl rfl rfl (by decide +kernel) (k_lvl (by omega) (by decide))) (kPV hP hD hK hS hA hE [0] rfl (by decide) 0 8 rfl rfl rfl) rfl rfl hl.1 rfl (lv_room (Nat.le_of_ble_eq_true rfl)) dX8_digit_60 ⟨Nat.le_of_ble_eq_true rfl, Nat.le_of_ble_eq_true rfl⟩) hP hD hS hA [0] [1] [1, 0] rfl rfl (by decide) (by decide) rfl (by decide) (fun H locs hP hD hS => ?_)
        refine lv_aload_n hx hb dX8_digit_63 rfl (lv_at hl 1 rfl) ?_
        refine va_get (D := D) (ci := 8) (v := .int (kAccG ig 0)) (C := RX8) (T := TX8) (N := 16) hx hb hts (fun w h => (List.mem_cons_of_mem _ (List.mem_append_right _ h))) hown hK hP 0 rfl rfl 4 (by decide) (hts _ qX8_digit_3) (fun _ h9 => h9) rfl dX8_digit_64 ?_
        refine lv_if_eq (tgt := 74) hx hb dX8_digit_67 (by decide) (fun c_5 => ?_) (fun c_5 => ?_)
        · refine lv_iload_n hx hb dX8_digit_74 rfl (lv_at hl 2 rfl) ?_
          have hdv : kDv ss sp sc = (-10000) := by unfold kDv; rw [if_pos c_1]
          have hdb : kDb ss sp sc lo9 hi9 = 0 := by unfold kDb; rw [hdv, if_neg c_2, if_pos c_4]
          subst hQ
          exact k_ri hx hb hr hlocks hP hD hS dX8_digit_75 (by unfold kDr; rw [hdb, if_pos c_5]) (by rw [hdb])
        · refine lv_iload_n hx hb dX8_digit_70 rfl (lv_at hl 0 rfl) ?_
          refine lv_goto (tgt := 75) hx hb dX8_digit_71 (by decide) ?_
          have hdv : kDv ss sp sc = (-10000) := by unfold kDv; rw [if_pos c_1]
          have hdb : kDb ss sp sc lo9 hi9 = 0 := by unfold kDb; rw [hdv, if_neg c_2, if_pos c_4]
          subst hQ
          exact k_ri hx hb hr hlocks hP hD hS dX8_digit_75 (by unfold kDr; rw [hdb, if_neg c_5, hdv]) (by rw [hdb])
      · refine lv_iconst (v := 1) hx hb dX8_digit_55 (by decide) ?_
        refine lv_goto (tgt := 60) hx hb dX8_digit_56 (by decide) ?_
        refine k_av (wr := [(sc0, .inl (g 0, 120, .inl sc))]) (w2 := [(m0, .inr (8, [.int rf, .ref sc0, .int (nI ss), .int (nI (kAccS sp ig 1)), .int (kAccG ig 1), .int lo, .ref rd0, .ref nw0, .ref tr0, .ref di0, .int (nI ac), .ref ke0, .ref ik0, .ref cp0, .ref cn0, .ref be0])), (sc0, .inl (g 0, 120, .inl sc))]) (va_runV (As := [.int 1]) (rest := []) ⟨hx, hb, hml, hown, hts⟩ (c_X8_accept l D g m0 sc0 rd0 nw0 tr0 di0 ke0 ik0 cp0 cn0 be0 H.size rf ss sp ig lo ac 1 (by omega)) (cwV 1 hts gX8_digit_X8_accept rfl rfl rfl (by decide +kernel) (k_lvl (by omega) (by decide))) (kPV hP hD hK hS hA hE [0] rfl (by decide) 0 8 rfl rfl rfl) rfl rfl hl.1 rfl (lv_room (Nat.le_of_ble_eq_true rfl)) dX8_digit_60 ⟨Nat.le_of_ble_eq_true rfl, Nat.le_of_ble_eq_true rfl⟩) hP hD hS hA [0] [1] [1, 0] rfl rfl (by decide) (by decide) rfl (by decide) (fun H locs hP hD hS => ?_)
        refine lv_aload_n hx hb dX8_digit_63 rfl (lv_at hl 1 rfl) ?_
        refine va_get (D := D) (ci := 8) (v := .int (kAccG ig 1)) (C := RX8) (T := TX8) (N := 16) hx hb hts (fun w h => (List.mem_cons_of_mem _ (List.mem_append_right _ h))) hown hK hP 0 rfl rfl 4 (by decide) (hts _ qX8_digit_3) (fun _ h9 => h9) rfl dX8_digit_64 ?_
        refine lv_if_eq (tgt := 74) hx hb dX8_digit_67 (by decide) (fun c_6 => ?_) (fun c_6 => ?_)
        · refine lv_iload_n hx hb dX8_digit_74 rfl (lv_at hl 2 rfl) ?_
          have hdv : kDv ss sp sc = (-10000) := by unfold kDv; rw [if_pos c_1]
          have hdb : kDb ss sp sc lo9 hi9 = 1 := by unfold kDb; rw [hdv, if_neg c_2, if_neg c_4]
          subst hQ
          exact k_ri hx hb hr hlocks hP hD hS dX8_digit_75 (by unfold kDr; rw [hdb, if_pos c_6]) (by rw [hdb])
        · refine lv_iload_n hx hb dX8_digit_70 rfl (lv_at hl 0 rfl) ?_
          refine lv_goto (tgt := 75) hx hb dX8_digit_71 (by decide) ?_
          have hdv : kDv ss sp sc = (-10000) := by unfold kDv; rw [if_pos c_1]
          have hdb : kDb ss sp sc lo9 hi9 = 1 := by unfold kDb; rw [hdv, if_neg c_2, if_neg c_4]
          subst hQ
          exact k_ri hx hb hr hlocks hP hD hS dX8_digit_75 (by unfold kDr; rw [hdb, if_neg c_6, hdv]) (by rw [hdb])
  · have c_1 : ¬ (ss ≤ sp) := fun h9 => c_1 ((nI_leI (a := ss) (b := sp) (by omega) (by omega)).mpr h9)
    refine lv_aload_n hx hb dX8_digit_11 rfl (lv_at hl 0 rfl) ?_
    refine va_get (D := D) (ci := 8) (v := .ref sc0) (C := RX8) (T := TX8) (N := 16) hx hb hts (fun w h => (List.mem_cons_of_mem _ (List.mem_append_right _ h))) hown hK hP 0 rfl rfl 1 (by decide) (hts _ qX8_digit_4) (fun _ h9 => h9) rfl dX8_digit_12 ?_
    refine lv_aload_n hx hb dX8_digit_15 rfl (lv_at hl 0 rfl) ?_
    refine va_get (D := D) (ci := 8) (v := .int (nI sp)) (C := RX8) (T := TX8) (N := 16) hx hb hts (fun w h => (List.mem_cons_of_mem _ (List.mem_append_right _ h))) hown hK hP 0 rfl rfl 3 (by decide) (hts _ qX8_digit_0) (fun _ h9 => h9) rfl dX8_digit_16 ?_
    refine va_iald (i := (nI sp)) hx hb hK hP 1 0 rfl rfl (vp_in_nI (n := sp) (by omega) (by omega)) dX8_digit_19 ?_
    refine k_top (y := (sc sp)) (by rw [nI_clamp (by omega)]) ?_
    refine lv_bipush (v := 48) hx hb dX8_digit_20 (by decide) ?_
    refine lv_isub hx hb dX8_digit_22 ?_
    refine lv_goto (tgt := 29) hx hb dX8_digit_23 (by decide) ?_
    refine lv_istore_n (lv' := [(3, .int ((sc sp) - 48)), (0, .ref m0), (1, .int lo9), (2, .int hi9)]) hx hb dX8_digit_29 rfl hl (by decide) rfl (fun ls hl => ?_)
    refine lv_aload_n hx hb dX8_digit_30 rfl (lv_at hl 1 rfl) ?_
    refine lv_iload_n hx hb dX8_digit_31 rfl (lv_at hl 0 rfl) ?_
    refine lv_i2l (v := (Int32.toInt64 ((sc sp) - 48))) hx hb dX8_digit_32 rfl ?_
    refine lv_lconst (v := 0) hx hb dX8_digit_33 (by decide) ?_
    refine lv_ldc2 hx hb hown (hts _ qX8_digit_2) dX8_digit_34 ?_
    refine k_ai (wr := [(m0, .inr (8, [.int rf, .ref sc0, .int (nI ss), .int (nI sp), .int ig, .int lo, .ref rd0, .ref nw0, .ref tr0, .ref di0, .int (nI ac), .ref ke0, .ref ik0, .ref cp0, .ref cn0, .ref be0])), (sc0, .inl (g 0, 120, .inl sc))]) (w2 := [(m0, .inr (8, [.int rf, .ref sc0, .int (nI ss), .int (nI sp), .int ig, .int lo, .ref rd0, .ref nw0, .ref tr0, .ref di0, .int (nI ac), .ref ke0, .ref ik0, .ref cp0, .ref cn0, .ref be0])), (sc0, .inl (g 0, 120, .inl sc))]) (va_runS (As := [.long (Int32.toInt64 ((sc sp) - 48)), .long 0, .long 9]) (rest := [.ref m0]) ⟨hx, hb, hml, hown, hts⟩ (c_X8_in l D g H.size (Int32.toInt64 ((sc sp) - 48)) 0 9) (va_cwS 3 hts gX8_digit_X8_in rfl rfl rfl (by decide +kernel) (k_lvl (by omega) (by decide))) (kPS hP hD hK hS hA hE [] rfl (by decide)) rfl rfl hl.1 rfl (lv_room (Nat.le_of_ble_eq_true rfl)) dX8_digit_37 ⟨Nat.le_of_ble_eq_true rfl, Nat.le_of_ble_eq_true rfl⟩) hP hD hS hA [] [0, 1] [0, 1] rfl rfl (by decide) (by decide) rfl (by decide) (fun H locs hP hD hS => ?_)
    refine lv_if_eq (tgt := 59) hx hb dX8_digit_40 (by decide) (fun c_7 => ?_) (fun c_7 => ?_)
    · refine lv_iconst (v := 0) hx hb dX8_digit_59 (by decide) ?_
      refine k_av (wr := [(sc0, .inl (g 0, 120, .inl sc))]) (w2 := [(m0, .inr (8, [.int rf, .ref sc0, .int (nI ss), .int (nI (kAccS sp ig 0)), .int (kAccG ig 0), .int lo, .ref rd0, .ref nw0, .ref tr0, .ref di0, .int (nI ac), .ref ke0, .ref ik0, .ref cp0, .ref cn0, .ref be0])), (sc0, .inl (g 0, 120, .inl sc))]) (va_runV (As := [.int 0]) (rest := []) ⟨hx, hb, hml, hown, hts⟩ (c_X8_accept l D g m0 sc0 rd0 nw0 tr0 di0 ke0 ik0 cp0 cn0 be0 H.size rf ss sp ig lo ac 0 (by omega)) (cwV 1 hts gX8_digit_X8_accept rfl rfl rfl (by decide +kernel) (k_lvl (by omega) (by decide))) (kPV hP hD hK hS hA hE [0] rfl (by decide) 0 8 rfl rfl rfl) rfl rfl hl.1 rfl (lv_room (Nat.le_of_ble_eq_true rfl)) dX8_digit_60 ⟨Nat.le_of_ble_eq_true rfl, Nat.le_of_ble_eq_true rfl⟩) hP hD hS hA [0] [1] [1, 0] rfl rfl (by decide) (by decide) rfl (by decide) (fun H locs hP hD hS => ?_)
      refine lv_aload_n hx hb dX8_digit_63 rfl (lv_at hl 1 rfl) ?_
      refine va_get (D := D) (ci := 8) (v := .int (kAccG ig 0)) (C := RX8) (T := TX8) (N := 16) hx hb hts (fun w h => (List.mem_cons_of_mem _ (List.mem_append_right _ h))) hown hK hP 0 rfl rfl 4 (by decide) (hts _ qX8_digit_3) (fun _ h9 => h9) rfl dX8_digit_64 ?_
      refine lv_if_eq (tgt := 74) hx hb dX8_digit_67 (by decide) (fun c_8 => ?_) (fun c_8 => ?_)
      · refine lv_iload_n hx hb dX8_digit_74 rfl (lv_at hl 2 rfl) ?_
        have hdv : kDv ss sp sc = (sc sp) - 48 := by unfold kDv; rw [if_neg c_1]
        have hdb : kDb ss sp sc lo9 hi9 = 0 := by unfold kDb; rw [hdv, if_pos c_7]
        subst hQ
        exact k_ri hx hb hr hlocks hP hD hS dX8_digit_75 (by unfold kDr; rw [hdb, if_pos c_8]) (by rw [hdb])
      · refine lv_iload_n hx hb dX8_digit_70 rfl (lv_at hl 0 rfl) ?_
        refine lv_goto (tgt := 75) hx hb dX8_digit_71 (by decide) ?_
        have hdv : kDv ss sp sc = (sc sp) - 48 := by unfold kDv; rw [if_neg c_1]
        have hdb : kDb ss sp sc lo9 hi9 = 0 := by unfold kDb; rw [hdv, if_pos c_7]
        subst hQ
        exact k_ri hx hb hr hlocks hP hD hS dX8_digit_75 (by unfold kDr; rw [hdb, if_neg c_8, hdv]) (by rw [hdb])
    · refine lv_iload_n hx hb dX8_digit_43 rfl (lv_at hl 0 rfl) ?_
      refine lv_i2l (v := (Int32.toInt64 ((sc sp) - 48))) hx hb dX8_digit_44 rfl ?_
      refine lv_iload_n hx hb dX8_digit_45 rfl (lv_at hl 2 rfl) ?_
      refine lv_i2l (v := (Int32.toInt64 lo9)) hx hb dX8_digit_46 rfl ?_
      refine lv_iload_n hx hb dX8_digit_47 rfl (lv_at hl 3 rfl) ?_
      refine lv_i2l (v := (Int32.toInt64 hi9)) hx hb dX8_digit_48 rfl ?_
      refine k_ai (wr := [(m0, .inr (8, [.int rf, .ref sc0, .int (nI ss), .int (nI sp), .int ig, .int lo, .ref rd0, .ref nw0, .ref tr0, .ref di0, .int (nI ac), .ref ke0, .ref ik0, .ref cp0, .ref cn0, .ref be0])), (sc0, .inl (g 0, 120, .inl sc))]) (w2 := [(m0, .inr (8, [.int rf, .ref sc0, .int (nI ss), .int (nI sp), .int ig, .int lo, .ref rd0, .ref nw0, .ref tr0, .ref di0, .int (nI ac), .ref ke0, .ref ik0, .ref cp0, .ref cn0, .ref be0])), (sc0, .inl (g 0, 120, .inl sc))]) (va_runS (As := [.long (Int32.toInt64 ((sc sp) - 48)), .long (Int32.toInt64 lo9), .long (Int32.toInt64 hi9)]) (rest := [.ref m0]) ⟨hx, hb, hml, hown, hts⟩ (c_X8_in l D g H.size (Int32.toInt64 ((sc sp) - 48)) (Int32.toInt64 lo9) (Int32.toInt64 hi9)) (va_cwS 3 hts gX8_digit_X8_in rfl rfl rfl (by decide +kernel) (k_lvl (by omega) (by decide))) (kPS hP hD hK hS hA hE [] rfl (by decide)) rfl rfl hl.1 rfl (lv_room (Nat.le_of_ble_eq_true rfl)) dX8_digit_49 ⟨Nat.le_of_ble_eq_true rfl, Nat.le_of_ble_eq_true rfl⟩) hP hD hS hA [] [0, 1] [0, 1] rfl rfl (by decide) (by decide) rfl (by decide) (fun H locs hP hD hS => ?_)
      refine lv_if_eq (tgt := 59) hx hb dX8_digit_52 (by decide) (fun c_9 => ?_) (fun c_9 => ?_)
      · refine lv_iconst (v := 0) hx hb dX8_digit_59 (by decide) ?_
        refine k_av (wr := [(sc0, .inl (g 0, 120, .inl sc))]) (w2 := [(m0, .inr (8, [.int rf, .ref sc0, .int (nI ss), .int (nI (kAccS sp ig 0)), .int (kAccG ig 0), .int lo, .ref rd0, .ref nw0, .ref tr0, .ref di0, .int (nI ac), .ref ke0, .ref ik0, .ref cp0, .ref cn0, .ref be0])), (sc0, .inl (g 0, 120, .inl sc))]) (va_runV (As := [.int 0]) (rest := []) ⟨hx, hb, hml, hown, hts⟩ (c_X8_accept l D g m0 sc0 rd0 nw0 tr0 di0 ke0 ik0 cp0 cn0 be0 H.size rf ss sp ig lo ac 0 (by omega)) (cwV 1 hts gX8_digit_X8_accept rfl rfl rfl (by decide +kernel) (k_lvl (by omega) (by decide))) (kPV hP hD hK hS hA hE [0] rfl (by decide) 0 8 rfl rfl rfl) rfl rfl hl.1 rfl (lv_room (Nat.le_of_ble_eq_true rfl)) dX8_digit_60 ⟨Nat.le_of_ble_eq_true rfl, Nat.le_of_ble_eq_true rfl⟩) hP hD hS hA [0] [1] [1, 0] rfl rfl (by decide) (by decide) rfl (by decide) (fun H locs hP hD hS => ?_)
        refine lv_aload_n hx hb dX8_digit_63 rfl (lv_at hl 1 rfl) ?_
        refine va_get (D := D) (ci := 8) (v := .int (kAccG ig 0)) (C := RX8) (T := TX8) (N := 16) hx hb hts (fun w h => (List.mem_cons_of_mem _ (List.mem_append_right _ h))) hown hK hP 0 rfl rfl 4 (by decide) (hts _ qX8_digit_3) (fun _ h9 => h9) rfl dX8_digit_64 ?_
        refine lv_if_eq (tgt := 74) hx hb dX8_digit_67 (by decide) (fun c_10 => ?_) (fun c_10 => ?_)
        · refine lv_iload_n hx hb dX8_digit_74 rfl (lv_at hl 2 rfl) ?_
          have hdv : kDv ss sp sc = (sc sp) - 48 := by unfold kDv; rw [if_neg c_1]
          have hdb : kDb ss sp sc lo9 hi9 = 0 := by unfold kDb; rw [hdv, if_neg c_7, if_pos c_9]
          subst hQ
          exact k_ri hx hb hr hlocks hP hD hS dX8_digit_75 (by unfold kDr; rw [hdb, if_pos c_10]) (by rw [hdb])
        · refine lv_iload_n hx hb dX8_digit_70 rfl (lv_at hl 0 rfl) ?_
          refine lv_goto (tgt := 75) hx hb dX8_digit_71 (by decide) ?_
          have hdv : kDv ss sp sc = (sc sp) - 48 := by unfold kDv; rw [if_neg c_1]
          have hdb : kDb ss sp sc lo9 hi9 = 0 := by unfold kDb; rw [hdv, if_neg c_7, if_pos c_9]
          subst hQ
          exact k_ri hx hb hr hlocks hP hD hS dX8_digit_75 (by unfold kDr; rw [hdb, if_neg c_10, hdv]) (by rw [hdb])
      · refine lv_iconst (v := 1) hx hb dX8_digit_55 (by decide) ?_
        refine lv_goto (tgt := 60) hx hb dX8_digit_56 (by decide) ?_
        refine k_av (wr := [(sc0, .inl (g 0, 120, .inl sc))]) (w2 := [(m0, .inr (8, [.int rf, .ref sc0, .int (nI ss), .int (nI (kAccS sp ig 1)), .int (kAccG ig 1), .int lo, .ref rd0, .ref nw0, .ref tr0, .ref di0, .int (nI ac), .ref ke0, .ref ik0, .ref cp0, .ref cn0, .ref be0])), (sc0, .inl (g 0, 120, .inl sc))]) (va_runV (As := [.int 1]) (rest := []) ⟨hx, hb, hml, hown, hts⟩ (c_X8_accept l D g m0 sc0 rd0 nw0 tr0 di0 ke0 ik0 cp0 cn0 be0 H.size rf ss sp ig lo ac 1 (by omega)) (cwV 1 hts gX8_digit_X8_accept rfl rfl rfl (by decide +kernel) (k_lvl (by omega) (by decide))) (kPV hP hD hK hS hA hE [0] rfl (by decide) 0 8 rfl rfl rfl) rfl rfl hl.1 rfl (lv_room (Nat.le_of_ble_eq_true rfl)) dX8_digit_60 ⟨Nat.le_of_ble_eq_true rfl, Nat.le_of_ble_eq_true rfl⟩) hP hD hS hA [0] [1] [1, 0] rfl rfl (by decide) (by decide) rfl (by decide) (fun H locs hP hD hS => ?_)
        refine lv_aload_n hx hb dX8_digit_63 rfl (lv_at hl 1 rfl) ?_
        refine va_get (D := D) (ci := 8) (v := .int (kAccG ig 1)) (C := RX8) (T := TX8) (N := 16) hx hb hts (fun w h => (List.mem_cons_of_mem _ (List.mem_append_right _ h))) hown hK hP 0 rfl rfl 4 (by decide) (hts _ qX8_digit_3) (fun _ h9 => h9) rfl dX8_digit_64 ?_
        refine lv_if_eq (tgt := 74) hx hb dX8_digit_67 (by decide) (fun c_11 => ?_) (fun c_11 => ?_)
        · refine lv_iload_n hx hb dX8_digit_74 rfl (lv_at hl 2 rfl) ?_
          have hdv : kDv ss sp sc = (sc sp) - 48 := by unfold kDv; rw [if_neg c_1]
          have hdb : kDb ss sp sc lo9 hi9 = 1 := by unfold kDb; rw [hdv, if_neg c_7, if_neg c_9]
          subst hQ
          exact k_ri hx hb hr hlocks hP hD hS dX8_digit_75 (by unfold kDr; rw [hdb, if_pos c_11]) (by rw [hdb])
        · refine lv_iload_n hx hb dX8_digit_70 rfl (lv_at hl 0 rfl) ?_
          refine lv_goto (tgt := 75) hx hb dX8_digit_71 (by decide) ?_
          have hdv : kDv ss sp sc = (sc sp) - 48 := by unfold kDv; rw [if_neg c_1]
          have hdb : kDb ss sp sc lo9 hi9 = 1 := by unfold kDb; rw [hdv, if_neg c_7, if_neg c_9]
          subst hQ
          exact k_ri hx hb hr hlocks hP hD hS dX8_digit_75 (by unfold kDr; rw [hdb, if_neg c_11, hdv]) (by rw [hdb])
