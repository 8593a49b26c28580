-- MODULE: the reference, its methods, 4
noncomputable section
theorem rdOk_net {rw : Nat → Int32} {p : Nat} {x : Int32} (ho : rdOk rw) : rdOk (upd rw (1 + 8 * p + 4) x) := by
  obtain ⟨⟨mn, h1, h2⟩, h3⟩ := ho
  refine ⟨⟨mn, by rw [pk_un (by omega), h1], h2⟩, fun k hk => ?_⟩
  rw [pk_un (by omega)]
  exact h3 k hk
theorem rdOk_drop {rw : Nat → Int32} {sd p : Nat} {x : Int32} (ho : rdOk rw) : rdOk (upd rw (81 + 5 * (10 * sd + p) + 0) x) := rdOk_low (fun i hi => pk_un (by omega)) ho
def f_X8_isTrial (tr : Nat → Int32) (pa : Nat) : Int32 :=
  let mt_0 := (tr 0).toNatClampNeg
  if mt_0 ≤ pa then
    0
  else
    1
theorem qX8_isTrial_0 : Cond.fieldLink RX8 19 "BlameChainsModel" "trial" "[I" ∈ wsX8_isTrial := (List.mem_cons_of_mem _ (List.mem_append_left _ (List.mem_of_getElem? (i := 0) rfl)))
set_option maxHeartbeats 4000000 in
set_option maxRecDepth 100000 in
theorem c_X8_isTrial (l : Launch) (D : va_G) (g : Nat → Nat) (m0 sc0 rd0 nw0 tr0 di0 ke0 ik0 cp0 cn0 be0 : Nat) (sz : Nat) (rf : Int32) (ss : Nat) (sp : Nat) (ig : Int32) (lo : Int32) (ac : Nat) (tr : Nat → Int32) (pa : Nat) (hT : rdOk tr) (hpa : pa < 10) : kMi l D g yX8_isTrial wsX8_isTrial 1 0 0 [.ref m0, .int (nI pa)] [(m0, .inr (8, [.int rf, .ref sc0, .int (nI ss), .int (nI sp), .int ig, .int lo, .ref rd0, .ref nw0, .ref tr0, .ref di0, .int (nI ac), .ref ke0, .ref ik0, .ref cp0, .ref cn0, .ref be0])), (tr0, .inl (g 0, 748, .inl tr))] sz (f_X8_isTrial tr pa) [(m0, .inr (8, [.int rf, .ref sc0, .int (nI ss), .int (nI sp), .int ig, .int lo, .ref rd0, .ref nw0, .ref tr0, .ref di0, .int (nI ac), .ref ke0, .ref ik0, .ref cp0, .ref cn0, .ref be0])), (tr0, .inl (g 0, 748, .inl tr))] := by
  refine k_enter (nm := "isTrial") (own := RX8) (bytes := cX8_isTrial) (maxL := 2) (ret := (some .boolean)) (Qf := fun A => kQi D [(m0, .inr (8, [.int rf, .ref sc0, .int (nI ss), .int (nI sp), .int ig, .int lo, .ref rd0, .ref nw0, .ref tr0, .ref di0, .int (nI ac), .ref ke0, .ref ik0, .ref cp0, .ref cn0, .ref be0])), (tr0, .inl (g 0, 748, .inl tr))] A (f_X8_isTrial tr pa)) (by decide) rfl rfl rfl (Nat.le_of_ble_eq_true rfl) ?_
  rintro pp ee s mm below meth cc A ls args Q H locs hQ ⟨hx, hb, hr, hml, hown, hts, hlocks, hin⟩ hP hK hD hA hS hE hl
  have hl : lv_has ls 2 [(0, .ref m0), (1, .int (nI pa))] := hl
  obtain ⟨mt_0, emt_0⟩ : ∃ z, z = (tr 0).toNatClampNeg := ⟨_, rfl⟩
  have hmt : tr 0 = nI mt_0 := by rw [emt_0]; exact (rdOk_mn hT).1
  have ht9 : mt_0 ≤ 10 := by rw [emt_0]; exact (rdOk_mn hT).2
  have kemt_0 : kEq mt_0 (tr 0).toNatClampNeg := emt_0
  clear emt_0
  refine lv_iload_n hx hb dX8_isTrial_0 rfl (lv_at hl 1 rfl) ?_
  refine lv_aload_n hx hb dX8_isTrial_1 rfl (lv_at hl 0 rfl) ?_
  refine va_get (D := D) (ci := 8) (v := .ref tr0) (C := RX8) (T := TX8) (N := 16) hx hb hts (fun w h => (List.mem_cons_of_mem _ (List.mem_append_right _ h))) hown hK hP 0 rfl rfl 8 (by decide) (hts _ qX8_isTrial_0) (fun _ h9 => h9) rfl dX8_isTrial_2 ?_
  refine lv_iconst (v := 0) hx hb dX8_isTrial_5 (by decide) ?_
  refine va_iald (i := 0) hx hb hK hP 1 0 rfl rfl (vp_in_nI (n := 0) (by decide) (by decide)) dX8_isTrial_6 ?_
  refine k_top (y := (tr 0)) rfl ?_
  refine k_top (y := (nI mt_0)) (hmt) ?_
  refine lv_icmp_ge (tgt := 14) hx hb dX8_isTrial_7 (by decide) (fun c_1 => ?_) (fun c_1 => ?_)
  · have c_1 : mt_0 ≤ pa := (nI_leI (a := mt_0) (b := pa) (by omega) (by omega)).mp c_1
    refine lv_iconst (v := 0) hx hb dX8_isTrial_14 (by decide) ?_
    have emt_0 : (tr 0).toNatClampNeg = mt_0 := Eq.symm kemt_0
    have hE2 : (f_X8_isTrial tr pa) = 0 := by
      subst emt_0
      exact (if_pos c_1).trans (rfl)
    subst hQ
    exact k_rz hx hb hr hlocks hP hD hS dX8_isTrial_15 (by rfl) (hE2.symm) (rfl)
  · have c_1 : ¬ (mt_0 ≤ pa) := fun h9 => c_1 ((nI_leI (a := mt_0) (b := pa) (by omega) (by omega)).mpr h9)
    refine lv_iconst (v := 1) hx hb dX8_isTrial_10 (by decide) ?_
    refine lv_goto (tgt := 15) hx hb dX8_isTrial_11 (by decide) ?_
    have emt_0 : (tr 0).toNatClampNeg = mt_0 := Eq.symm kemt_0
    have hE2 : (f_X8_isTrial tr pa) = 1 := by
      subst emt_0
      exact (if_neg c_1).trans (rfl)
    subst hQ
    exact k_rz hx hb hr hlocks hP hD hS dX8_isTrial_15 (by rfl) (hE2.symm) (rfl)
def f_X8_chains (tr : Nat → Int32) (pa : Nat) (qa : Nat) : Int32 × (Nat → Int32) :=
  if (f_X8_isTrial tr pa) = 0 then
    (0, tr)
  else
    if qa < pa then
      (1, (f_X8_chainIn tr pa (nI qa) 0))
    else
      (0, tr)
theorem qX8_chains_0 : Cond.fieldLink RX8 19 "BlameChainsModel" "trial" "[I" ∈ wsX8_chains := (List.mem_cons_of_mem _ (List.mem_append_left _ (List.mem_of_getElem? (i := 0) rfl)))
set_option maxHeartbeats 4000000 in
set_option maxRecDepth 100000 in
theorem c_X8_chains (l : Launch) (D : va_G) (g : Nat → Nat) (m0 sc0 rd0 nw0 tr0 di0 ke0 ik0 cp0 cn0 be0 : Nat) (sz : Nat) (rf : Int32) (ss : Nat) (sp : Nat) (ig : Int32) (lo : Int32) (ac : Nat) (tr : Nat → Int32) (pa : Nat) (qa : Nat) (hT : rdOk tr) (hpa : pa < 10) (hqa : qa < 10) : kMi l D g yX8_chains wsX8_chains 3 0 0 [.ref m0, .int (nI pa), .int (nI qa)] [(m0, .inr (8, [.int rf, .ref sc0, .int (nI ss), .int (nI sp), .int ig, .int lo, .ref rd0, .ref nw0, .ref tr0, .ref di0, .int (nI ac), .ref ke0, .ref ik0, .ref cp0, .ref cn0, .ref be0])), (tr0, .inl (g 0, 748, .inl tr))] sz ((f_X8_chains tr pa qa).1) [(m0, .inr (8, [.int rf, .ref sc0, .int (nI ss), .int (nI sp), .int ig, .int lo, .ref rd0, .ref nw0, .ref tr0, .ref di0, .int (nI ac), .ref ke0, .ref ik0, .ref cp0, .ref cn0, .ref be0])), (tr0, .inl (g 0, 748, .inl ((f_X8_chains tr pa qa).2)))] := by
  refine k_enter (nm := "chains") (own := RX8) (bytes := cX8_chains) (maxL := 3) (ret := (some .boolean)) (Qf := fun A => kQi D [(m0, .inr (8, [.int rf, .ref sc0, .int (nI ss), .int (nI sp), .int ig, .int lo, .ref rd0, .ref nw0, .ref tr0, .ref di0, .int (nI ac), .ref ke0, .ref ik0, .ref cp0, .ref cn0, .ref be0])), (tr0, .inl (g 0, 748, .inl ((f_X8_chains tr pa qa).2)))] A ((f_X8_chains tr pa qa).1)) (by decide) rfl rfl rfl (Nat.le_of_ble_eq_true rfl) ?_
  rintro pp ee s mm below meth cc A ls args Q H locs hQ ⟨hx, hb, hr, hml, hown, hts, hlocks, hin⟩ hP hK hD hA hS hE hl
  have hl : lv_has ls 3 [(0, .ref m0), (1, .int (nI pa)), (2, .int (nI qa))] := hl
  refine lv_aload_n hx hb dX8_chains_0 rfl (lv_at hl 0 rfl) ?_
  refine lv_iload_n hx hb dX8_chains_1 rfl (lv_at hl 1 rfl) ?_
  refine k_ai (wr := []) (w2 := [(m0, .inr (8, [.int rf, .ref sc0, .int (nI ss), .int (nI sp), .int ig, .int lo, .ref rd0, .ref nw0, .ref tr0, .ref di0, .int (nI ac), .ref ke0, .ref ik0, .ref cp0, .ref cn0, .ref be0])), (tr0, .inl (g 0, 748, .inl tr))]) (va_runV (As := [.int (nI pa)]) (rest := []) ⟨hx, hb, hml, hown, hts⟩ (c_X8_isTrial l D g m0 sc0 rd0 nw0 tr0 di0 ke0 ik0 cp0 cn0 be0 H.size rf ss sp ig lo ac tr pa hT (by omega)) (cwV 1 hts gX8_chains_X8_isTrial rfl rfl rfl (by decide +kernel) (k_lvl (by omega) (by decide))) (kPV hP hD hK hS hA hE [0, 1] rfl (by decide) 0 8 rfl rfl rfl) rfl rfl hl.1 rfl (lv_room (Nat.le_of_ble_eq_true rfl)) dX8_chains_2 ⟨Nat.le_of_ble_eq_true rfl, Nat.le_of_ble_eq_true rfl⟩) hP hD hS hA [0, 1] [] [0, 1] rfl rfl (by decide) (by decide) rfl (by decide) (fun H locs hP hD hS => ?_)
  refine lv_if_eq (tgt := 13) hx hb dX8_chains_5 (by decide) (fun c_1 => ?_) (fun c_1 => ?_)
  · refine lv_iconst (v := 0) hx hb dX8_chains_13 (by decide) ?_
    have hE2 : (f_X8_chains tr pa qa) = (0, tr) := by
      exact (if_pos c_1).trans (rfl)
    subst hQ
    exact k_rz hx hb hr hlocks hP hD hS dX8_chains_14 (by rfl) (by rw [hE2]) (by rw [hE2])
  · refine lv_iload_n hx hb dX8_chains_8 rfl (lv_at hl 2 rfl) ?_
    refine lv_iload_n hx hb dX8_chains_9 rfl (lv_at hl 1 rfl) ?_
    refine lv_icmp_lt (tgt := 15) hx hb dX8_chains_10 (by decide) (fun c_2 => ?_) (fun c_2 => ?_)
    · have c_2 : qa < pa := (nI_ltI (a := qa) (b := pa) (by omega) (by omega)).mp c_2
      refine lv_aload_n hx hb dX8_chains_15 rfl (lv_at hl 0 rfl) ?_
      refine va_get (D := D) (ci := 8) (v := .ref tr0) (C := RX8) (T := TX8) (N := 16) hx hb hts (fun w h => (List.mem_cons_of_mem _ (List.mem_append_right _ h))) hown hK hP 0 rfl rfl 8 (by decide) (hts _ qX8_chains_0) (fun _ h9 => h9) rfl dX8_chains_16 ?_
      refine lv_iload_n hx hb dX8_chains_19 rfl (lv_at hl 1 rfl) ?_
      refine lv_iload_n hx hb dX8_chains_20 rfl (lv_at hl 2 rfl) ?_
      refine lv_iconst (v := 0) hx hb dX8_chains_21 (by decide) ?_
      refine k_av (wr := [(m0, .inr (8, [.int rf, .ref sc0, .int (nI ss), .int (nI sp), .int ig, .int lo, .ref rd0, .ref nw0, .ref tr0, .ref di0, .int (nI ac), .ref ke0, .ref ik0, .ref cp0, .ref cn0, .ref be0]))]) (w2 := [(m0, .inr (8, [.int rf, .ref sc0, .int (nI ss), .int (nI sp), .int ig, .int lo, .ref rd0, .ref nw0, .ref tr0, .ref di0, .int (nI ac), .ref ke0, .ref ik0, .ref cp0, .ref cn0, .ref be0])), (tr0, .inl (g 0, 748, .inl (f_X8_chainIn tr pa (nI qa) 0)))]) (va_runS (As := [.ref tr0, .int (nI pa), .int (nI qa), .int 0]) (rest := []) ⟨hx, hb, hml, hown, hts⟩ (c_X8_chainIn l D g tr0 H.size tr pa (nI qa) 0 (by omega)) (va_cwS 4 hts gX8_chains_X8_chainIn rfl rfl rfl (by decide +kernel) (k_lvl (by omega) (by decide))) (kPS hP hD hK hS hA hE [1] rfl (by decide)) rfl rfl hl.1 rfl (lv_room (Nat.le_of_ble_eq_true rfl)) dX8_chains_22 ⟨Nat.le_of_ble_eq_true rfl, Nat.le_of_ble_eq_true rfl⟩) hP hD hS hA [1] [0] [0, 1] rfl rfl (by decide) (by decide) rfl (by decide) (fun H locs hP hD hS => ?_)
      refine lv_iconst (v := 1) hx hb dX8_chains_25 (by decide) ?_
      have hE2 : (f_X8_chains tr pa qa) = (1, (f_X8_chainIn tr pa (nI qa) 0)) := by
        exact (if_neg c_1).trans ((if_pos c_2).trans (rfl))
      subst hQ
      exact k_rz hx hb hr hlocks hP hD hS dX8_chains_26 (by rfl) (by rw [hE2]) (by rw [hE2])
    · have c_2 : ¬ (qa < pa) := fun h9 => c_2 ((nI_ltI (a := qa) (b := pa) (by omega) (by omega)).mpr h9)
      refine lv_iconst (v := 0) hx hb dX8_chains_13 (by decide) ?_
      have hE2 : (f_X8_chains tr pa qa) = (0, tr) := by
        exact (if_neg c_1).trans ((if_neg c_2).trans (rfl))
      subst hQ
      exact k_rz hx hb hr hlocks hP hD hS dX8_chains_14 (by rfl) (by rw [hE2]) (by rw [hE2])
def f_X8_nets (tr : Nat → Int32) (pa : Nat) (net : Int32) : Int32 × (Nat → Int32) :=
  if (f_X8_isTrial tr pa) = 0 then
    (0, tr)
  else
    (1, (upd tr (1 + 8 * pa + 4) net))
theorem qX8_nets_0 : Cond.fieldLink RX8 19 "BlameChainsModel" "trial" "[I" ∈ wsX8_nets := (List.mem_cons_of_mem _ (List.mem_append_left _ (List.mem_of_getElem? (i := 0) rfl)))
set_option maxHeartbeats 4000000 in
set_option maxRecDepth 100000 in
theorem c_X8_nets (l : Launch) (D : va_G) (g : Nat → Nat) (m0 sc0 rd0 nw0 tr0 di0 ke0 ik0 cp0 cn0 be0 : Nat) (sz : Nat) (rf : Int32) (ss : Nat) (sp : Nat) (ig : Int32) (lo : Int32) (ac : Nat) (tr : Nat → Int32) (pa : Nat) (net : Int32) (hT : rdOk tr) (hpa : pa < 10) : kMi l D g yX8_nets wsX8_nets 2 0 0 [.ref m0, .int (nI pa), .int net] [(m0, .inr (8, [.int rf, .ref sc0, .int (nI ss), .int (nI sp), .int ig, .int lo, .ref rd0, .ref nw0, .ref tr0, .ref di0, .int (nI ac), .ref ke0, .ref ik0, .ref cp0, .ref cn0, .ref be0])), (tr0, .inl (g 0, 748, .inl tr))] sz ((f_X8_nets tr pa net).1) [(m0, .inr (8, [.int rf, .ref sc0, .int (nI ss), .int (nI sp), .int ig, .int lo, .ref rd0, .ref nw0, .ref tr0, .ref di0, .int (nI ac), .ref ke0, .ref ik0, .ref cp0, .ref cn0, .ref be0])), (tr0, .inl (g 0, 748, .inl ((f_X8_nets tr pa net).2)))] := by
  refine k_enter (nm := "nets") (own := RX8) (bytes := cX8_nets) (maxL := 3) (ret := (some .boolean)) (Qf := fun A => kQi D [(m0, .inr (8, [.int rf, .ref sc0, .int (nI ss), .int (nI sp), .int ig, .int lo, .ref rd0, .ref nw0, .ref tr0, .ref di0, .int (nI ac), .ref ke0, .ref ik0, .ref cp0, .ref cn0, .ref be0])), (tr0, .inl (g 0, 748, .inl ((f_X8_nets tr pa net).2)))] A ((f_X8_nets tr pa net).1)) (by decide) rfl rfl rfl (Nat.le_of_ble_eq_true rfl) ?_
  rintro pp ee s mm below meth cc A ls args Q H locs hQ ⟨hx, hb, hr, hml, hown, hts, hlocks, hin⟩ hP hK hD hA hS hE hl
  have hl : lv_has ls 3 [(0, .ref m0), (1, .int (nI pa)), (2, .int net)] := hl
  refine lv_aload_n hx hb dX8_nets_0 rfl (lv_at hl 0 rfl) ?_
  refine lv_iload_n hx hb dX8_nets_1 rfl (lv_at hl 1 rfl) ?_
  refine k_ai (wr := []) (w2 := [(m0, .inr (8, [.int rf, .ref sc0, .int (nI ss), .int (nI sp), .int ig, .int lo, .ref rd0, .ref nw0, .ref tr0, .ref di0, .int (nI ac), .ref ke0, .ref ik0, .ref cp0, .ref cn0, .ref be0])), (tr0, .inl (g 0, 748, .inl tr))]) (va_runV (As := [.int (nI pa)]) (rest := []) ⟨hx, hb, hml, hown, hts⟩ (c_X8_isTrial l D g m0 sc0 rd0 nw0 tr0 di0 ke0 ik0 cp0 cn0 be0 H.size rf ss sp ig lo ac tr pa hT (by omega)) (cwV 1 hts gX8_nets_X8_isTrial rfl rfl rfl (by decide +kernel) (k_lvl (by omega) (by decide))) (kPV hP hD hK hS hA hE [0, 1] rfl (by decide) 0 8 rfl rfl rfl) rfl rfl hl.1 rfl (lv_room (Nat.le_of_ble_eq_true rfl)) dX8_nets_2 ⟨Nat.le_of_ble_eq_true rfl, Nat.le_of_ble_eq_true rfl⟩) hP hD hS hA [0, 1] [] [0, 1] rfl rfl (by decide) (by decide) rfl (by decide) (fun H locs hP hD hS => ?_)
  refine lv_if_ne (tgt := 10) hx hb dX8_nets_5 (by decide) (fun c_1 => ?_) (fun c_1 => ?_)
  · refine lv_aload_n hx hb dX8_nets_10 rfl (lv_at hl 0 rfl) ?_
    refine va_get (D := D) (ci := 8) (v := .ref tr0) (C := RX8) (T := TX8) (N := 16) hx hb hts (fun w h => (List.mem_cons_of_mem _ (List.mem_append_right _ h))) hown hK hP 0 rfl rfl 8 (by decide) (hts _ qX8_nets_0) (fun _ h9 => h9) rfl dX8_nets_11 ?_
    refine lv_iload_n hx hb dX8_nets_14 rfl (lv_at hl 1 rfl) ?_
    refine lv_iconst (v := 4) hx hb dX8_nets_15 (by decide) ?_
    refine k_ai (wr := [(m0, .inr (8, [.int rf, .ref sc0, .int (nI ss), .int (nI sp), .int ig, .int lo, .ref rd0, .ref nw0, .ref tr0, .ref di0, .int (nI ac), .ref ke0, .ref ik0, .ref cp0, .ref cn0, .ref be0])), (tr0, .inl (g 0, 748, .inl tr))]) (w2 := [(m0, .inr (8, [.int rf, .ref sc0, .int (nI ss), .int (nI sp), .int ig, .int lo, .ref rd0, .ref nw0, .ref tr0, .ref di0, .int (nI ac), .ref ke0, .ref ik0, .ref cp0, .ref cn0, .ref be0])), (tr0, .inl (g 0, 748, .inl tr))]) (va_runS (As := [.int (nI pa), .int 4]) (rest := [.ref tr0]) ⟨hx, hb, hml, hown, hts⟩ (c_X8_partAt l D g H.size pa 4) (va_cwS 2 hts gX8_nets_X8_partAt rfl rfl rfl (by decide +kernel) (k_lvl (by omega) (by decide))) (kPS hP hD hK hS hA hE [] rfl (by decide)) rfl rfl hl.1 rfl (lv_room (Nat.le_of_ble_eq_true rfl)) dX8_nets_16 ⟨Nat.le_of_ble_eq_true rfl, Nat.le_of_ble_eq_true rfl⟩) hP hD hS hA [] [0, 1] [0, 1] rfl rfl (by decide) (by decide) rfl (by decide) (fun H locs hP hD hS => ?_)
    refine lv_iload_n hx hb dX8_nets_19 rfl (lv_at hl 2 rfl) ?_
    refine va_iast (i := (nI (1 + 8 * pa + 4))) (x := net) hx hb hK hP hD hS 1 0 rfl rfl (vp_in_nI (n := (1 + 8 * pa + 4)) (by omega) (by omega)) dX8_nets_20 (fun H locs hP hD hS => ?_)
    rw [nI_clamp (n := (1 + 8 * pa + 4)) (by omega)] at hP hD
    have hP : va_P D vwCl [(m0, .inr (8, [.int rf, .ref sc0, .int (nI ss), .int (nI sp), .int ig, .int lo, .ref rd0, .ref nw0, .ref tr0, .ref di0, .int (nI ac), .ref ke0, .ref ik0, .ref cp0, .ref cn0, .ref be0])), (tr0, .inl (g 0, 748, .inl (upd tr (1 + 8 * pa + 4) net)))] H := hP
    have hD : va_D A [(m0, .inr (8, [.int rf, .ref sc0, .int (nI ss), .int (nI sp), .int ig, .int lo, .ref rd0, .ref nw0, .ref tr0, .ref di0, .int (nI ac), .ref ke0, .ref ik0, .ref cp0, .ref cn0, .ref be0])), (tr0, .inl (g 0, 748, .inl (upd tr (1 + 8 * pa + 4) net)))] := hD
    refine lv_iconst (v := 1) hx hb dX8_nets_21 (by decide) ?_
    have hE2 : (f_X8_nets tr pa net) = (1, (upd tr (1 + 8 * pa + 4) net)) := by
      exact (if_neg c_1).trans (rfl)
    subst hQ
    exact k_rz hx hb hr hlocks hP hD hS dX8_nets_22 (by rfl) (by rw [hE2]) (by rw [hE2])
  · refine lv_iconst (v := 0) hx hb dX8_nets_8 (by decide) ?_
    have hE2 : (f_X8_nets tr pa net) = (0, tr) := by
      exact (if_pos c_1).trans (rfl)
    subst hQ
    exact k_rz hx hb hr hlocks hP hD hS dX8_nets_9 (by rfl) (by rw [hE2]) (by rw [hE2])
def f_X8_drops (tr : Nat → Int32) (sd : Nat) (pa : Nat) : Int32 × (Nat → Int32) :=
  if (f_X8_isTrial tr pa) = 0 then
    (0, tr)
  else
    if (f_X8_hasContract tr sd pa) = 0 then
      (0, tr)
    else
      (1, (upd tr (81 + 5 * (10 * sd + pa) + 0) 0))
theorem qX8_drops_0 : Cond.fieldLink RX8 19 "BlameChainsModel" "trial" "[I" ∈ wsX8_drops := (List.mem_cons_of_mem _ (List.mem_append_left _ (List.mem_of_getElem? (i := 0) rfl)))
set_option maxHeartbeats 4000000 in
set_option maxRecDepth 100000 in
theorem c_X8_drops (l : Launch) (D : va_G) (g : Nat → Nat) (m0 sc0 rd0 nw0 tr0 di0 ke0 ik0 cp0 cn0 be0 : Nat) (sz : Nat) (rf : Int32) (ss : Nat) (sp : Nat) (ig : Int32) (lo : Int32) (ac : Nat) (tr : Nat → Int32) (sd : Nat) (pa : Nat) (hT : rdOk tr) (hsd : sd < 12) (hpa : pa < 10) : kMi l D g yX8_drops wsX8_drops 3 0 0 [.ref m0, .int (nI sd), .int (nI pa)] [(m0, .inr (8, [.int rf, .ref sc0, .int (nI ss), .int (nI sp), .int ig, .int lo, .ref rd0, .ref nw0, .ref tr0, .ref di0, .int (nI ac), .ref ke0, .ref ik0, .ref cp0, .ref cn0, .ref be0])), (tr0, .inl (g 0, 748, .inl tr))] sz ((f_X8_drops tr sd pa).1) [(m0, .inr (8, [.int rf, .ref sc0, .int (nI ss), .int (nI sp), .int ig, .int lo, .ref rd0, .ref nw0, .ref tr0, .ref di0, .int (nI ac), .ref ke0, .ref ik0, .ref cp0, .ref cn0, .ref be0])), (tr0, .inl (g 0, 748, .inl ((f_X8_drops tr sd pa).2)))] := by
  refine k_enter (nm := "drops") (own := RX8) (bytes := cX8_drops) (maxL := 3) (ret := (some .boolean)) (Qf := fun A => kQi D [(m0, .inr (8, [.int rf, .ref sc0, .int (nI ss), .int (nI sp), .int ig, .int lo, .ref rd0, .ref nw0, .ref tr0, .ref di0, .int (nI ac), .ref ke0, .ref ik0, .ref cp0, .ref cn0, .ref be0])), (tr0, .inl (g 0, 748, .inl ((f_X8_drops tr sd pa).2)))] A ((f_X8_drops tr sd pa).1)) (by decide) rfl rfl rfl (Nat.le_of_ble_eq_true rfl) ?_
  rintro pp ee s mm below meth cc A ls args Q H locs hQ ⟨hx, hb, hr, hml, hown, hts, hlocks, hin⟩ hP hK hD hA hS hE hl
  have hl : lv_has ls 3 [(0, .ref m0), (1, .int (nI sd)), (2, .int (nI pa))] := hl
  refine lv_aload_n hx hb dX8_drops_0 rfl (lv_at hl 0 rfl) ?_
  refine lv_iload_n hx hb dX8_drops_1 rfl (lv_at hl 2 rfl) ?_
  refine k_ai (wr := []) (w2 := [(m0, .inr (8, [.int rf, .ref sc0, .int (nI ss), .int (nI sp), .int ig, .int lo, .ref rd0, .ref nw0, .ref tr0, .ref di0, .int (nI ac), .ref ke0, .ref ik0, .ref cp0, .ref cn0, .ref be0])), (tr0, .inl (g 0, 748, .inl tr))]) (va_runV (As := [.int (nI pa)]) (rest := []) ⟨hx, hb, hml, hown, hts⟩ (c_X8_isTrial l D g m0 sc0 rd0 nw0 tr0 di0 ke0 ik0 cp0 cn0 be0 H.size rf ss sp ig lo ac tr pa hT (by omega)) (cwV 1 hts gX8_drops_X8_isTrial rfl rfl rfl (by decide +kernel) (k_lvl (by omega) (by decide))) (kPV hP hD hK hS hA hE [0, 1] rfl (by decide) 0 8 rfl rfl rfl) rfl rfl hl.1 rfl (lv_room (Nat.le_of_ble_eq_true rfl)) dX8_drops_2 ⟨Nat.le_of_ble_eq_true rfl, Nat.le_of_ble_eq_true rfl⟩) hP hD hS hA [0, 1] [] [0, 1] rfl rfl (by decide) (by decide) rfl (by decide) (fun H locs hP hD hS => ?_)
  refine lv_if_eq (tgt := 20) hx hb dX8_drops_5 (by decide) (fun c_1 => ?_) (fun c_1 => ?_)
  · refine lv_iconst (v := 0) hx hb dX8_drops_20 (by decide) ?_
    have hE2 : (f_X8_drops tr sd pa) = (0, tr) := by
      exact (if_pos c_1).trans (rfl)
    subst hQ
    exact k_rz hx hb hr hlocks hP hD hS dX8_drops_21 (by rfl) (by rw [hE2]) (by rw [hE2])
  · refine lv_aload_n hx hb dX8_drops_8 rfl (lv_at hl 0 rfl) ?_
    refine va_get (D := D) (ci := 8) (v := .ref tr0) (C := RX8) (T := TX8) (N := 16) hx hb hts (fun w h => (List.mem_cons_of_mem _ (List.mem_append_right _ h))) hown hK hP 0 rfl rfl 8 (by decide) (hts _ qX8_drops_0) (fun _ h9 => h9) rfl dX8_drops_9 ?_
    refine lv_iload_n hx hb dX8_drops_12 rfl (lv_at hl 1 rfl) ?_
    refine lv_iload_n hx hb dX8_drops_13 rfl (lv_at hl 2 rfl) ?_
    refine k_ai (wr := [(m0, .inr (8, [.int rf, .ref sc0, .int (nI ss), .int (nI sp), .int ig, .int lo, .ref rd0, .ref nw0, .ref tr0, .ref di0, .int (nI ac), .ref ke0, .ref ik0, .ref cp0, .ref cn0, .ref be0]))]) (w2 := [(m0, .inr (8, [.int rf, .ref sc0, .int (nI ss), .int (nI sp), .int ig, .int lo, .ref rd0, .ref nw0, .ref tr0, .ref di0, .int (nI ac), .ref ke0, .ref ik0, .ref cp0, .ref cn0, .ref be0])), (tr0, .inl (g 0, 748, .inl tr))]) (va_runS (As := [.ref tr0, .int (nI sd), .int (nI pa)]) (rest := []) ⟨hx, hb, hml, hown, hts⟩ (c_X8_hasContract l D g tr0 H.size tr sd pa (by omega) (by omega)) (va_cwS 3 hts gX8_drops_X8_hasContract rfl rfl rfl (by decide +kernel) (k_lvl (by omega) (by decide))) (kPS hP hD hK hS hA hE [1] rfl (by decide)) rfl rfl hl.1 rfl (lv_room (Nat.le_of_ble_eq_true rfl)) dX8_drops_14 ⟨Nat.le_of_ble_eq_true rfl, Nat.le_of_ble_eq_true rfl⟩) hP hD hS hA [1] [0] [0, 1] rfl rfl (by decide) (by decide) rfl (by decide) (fun H locs hP hD hS => ?_)
    refine lv_if_ne (tgt := 22) hx hb dX8_drops_17 (by decide) (fun c_2 => ?_) (fun c_2 => ?_)
    · refine lv_aload_n hx hb dX8_drops_22 rfl (lv_at hl 0 rfl) ?_
      refine va_get (D := D) (ci := 8) (v := .ref tr0) (C := RX8) (T := TX8) (N := 16) hx hb hts (fun w h => (List.mem_cons_of_mem _ (List.mem_append_right _ h))) hown hK hP 0 rfl rfl 8 (by decide) (hts _ qX8_drops_0) (fun _ h9 => h9) rfl dX8_drops_23 ?_
      refine lv_iload_n hx hb dX8_drops_26 rfl (lv_at hl 1 rfl) ?_
      refine lv_iload_n hx hb dX8_drops_27 rfl (lv_at hl 2 rfl) ?_
      refine lv_iconst (v := 0) hx hb dX8_drops_28 (by decide) ?_
      refine k_ai (wr := [(m0, .inr (8, [.int rf, .ref sc0, .int (nI ss), .int (nI sp), .int ig, .int lo, .ref rd0, .ref nw0, .ref tr0, .ref di0, .int (nI ac), .ref ke0, .ref ik0, .ref cp0, .ref cn0, .ref be0])), (tr0, .inl (g 0, 748, .inl tr))]) (w2 := [(m0, .inr (8, [.int rf, .ref sc0, .int (nI ss), .int (nI sp), .int ig, .int lo, .ref rd0, .ref nw0, .ref tr0, .ref di0, .int (nI ac), .ref ke0, .ref ik0, .ref cp0, .ref cn0, .ref be0])), (tr0, .inl (g 0, 748, .inl tr))]) (va_runS (As := [.int (nI sd), .int (nI pa), .int 0]) (rest := [.ref tr0]) ⟨hx, hb, hml, hown, hts⟩ (c_X8_contractAt l D g H.size sd pa 0) (va_cwS 3 hts gX8_drops_X8_contractAt rfl rfl rfl (by decide +kernel) (k_lvl (by omega) (by decide))) (kPS hP hD hK hS hA hE [] rfl (by decide)) rfl rfl hl.1 rfl (lv_room (Nat.le_of_ble_eq_true rfl)) dX8_drops_29 ⟨Nat.le_of_ble_eq_true rfl, Nat.le_of_ble_eq_true rfl⟩) hP hD hS hA [] [0, 1] [0, 1] rfl rfl (by decide) (by decide) rfl (by decide) (fun H locs hP hD hS => ?_)
      refine lv_iconst (v := 0) hx hb dX8_drops_32 (by decide) ?_
      refine va_iast (i := (nI (81 + 5 * (10 * sd + pa) + 0))) (x := 0) hx hb hK hP hD hS 1 0 rfl rfl (vp_in_nI (n := (81 + 5 * (10 * sd + pa) + 0)) (by omega) (by omega)) dX8_drops_33 (fun H locs hP hD hS => ?_)
      rw [nI_clamp (n := (81 + 5 * (10 * sd + pa) + 0)) (by omega)] at hP hD
      have hP : va_P D vwCl [(m0, .inr (8, [.int rf, .ref sc0, .int (nI ss), .int (nI sp), .int ig, .int lo, .ref rd0, .ref nw0, .ref tr0, .ref di0, .int (nI ac), .ref ke0, .ref ik0, .ref cp0, .ref cn0, .ref be0])), (tr0, .inl (g 0, 748, .inl (upd tr (81 + 5 * (10 * sd + pa) + 0) 0)))] H := hP
      have hD : va_D A [(m0, .inr (8, [.int rf, .ref sc0, .int (nI ss), .int (nI sp), .int ig, .int lo, .ref rd0, .ref nw0, .ref tr0, .ref di0, .int (nI ac), .ref ke0, .ref ik0, .ref cp0, .ref cn0, .ref be0])), (tr0, .inl (g 0, 748, .inl (upd tr (81 + 5 * (10 * sd + pa) + 0) 0)))] := hD
      refine lv_iconst (v := 1) hx hb dX8_drops_34 (by decide) ?_
      have hE2 : (f_X8_drops tr sd pa) = (1, (upd tr (81 + 5 * (10 * sd + pa) + 0) 0)) := by
        exact (if_neg c_1).trans ((if_neg c_2).trans (rfl))
      subst hQ
      exact k_rz hx hb hr hlocks hP hD hS dX8_drops_35 (by rfl) (by rw [hE2]) (by rw [hE2])
    · refine lv_iconst (v := 0) hx hb dX8_drops_20 (by decide) ?_
      have hE2 : (f_X8_drops tr sd pa) = (0, tr) := by
        exact (if_neg c_1).trans ((if_pos c_2).trans (rfl))
      subst hQ
      exact k_rz hx hb hr hlocks hP hD hS dX8_drops_21 (by rfl) (by rw [hE2]) (by rw [hE2])
def f_X8_asked (tr : Nat → Int32) (cp : Nat → Int32) (cn : Nat → Int32) (pa : Nat) (x : Int32) : Int32 × (Nat → Int32) × (Nat → Int32) :=
  let v_1 := (h_X8_callIn cp cn tr pa x)
  (v_1.1, v_1.2.2.1, v_1.2.2.2)
theorem qX8_asked_0 : Cond.fieldLink RX8 19 "BlameChainsModel" "trial" "[I" ∈ wsX8_asked := (List.mem_cons_of_mem _ (List.mem_append_left _ (List.mem_append_left _ (List.mem_of_getElem? (i := 0) rfl))))
theorem qX8_asked_1 : Cond.fieldLink RX8 38 "BlameChainsModel" "before" "[I" ∈ wsX8_asked := (List.mem_cons_of_mem _ (List.mem_append_left _ (List.mem_append_left _ (List.mem_of_getElem? (i := 1) rfl))))
set_option maxHeartbeats 4000000 in
set_option maxRecDepth 100000 in
theorem c_X8_asked (l : Launch) (D : va_G) (g : Nat → Nat) (m0 sc0 rd0 nw0 tr0 di0 ke0 ik0 cp0 cn0 be0 : Nat) (sz : Nat) (rf : Int32) (ss : Nat) (sp : Nat) (ig : Int32) (lo : Int32) (ac : Nat) (tr : Nat → Int32) (be : Nat → Int32) (cp : Nat → Int32) (cn : Nat → Int32) (pa : Nat) (x : Int32) (hT : rdOk tr) (hpa : pa < 10) : kMi l D g yX8_asked wsX8_asked 6 0 0 [.ref m0, .int (nI pa), .int x] [(m0, .inr (8, [.int rf, .ref sc0, .int (nI ss), .int (nI sp), .int ig, .int lo, .ref rd0, .ref nw0, .ref tr0, .ref di0, .int (nI ac), .ref ke0, .ref ik0, .ref cp0, .ref cn0, .ref be0])), (tr0, .inl (g 0, 748, .inl tr)), (be0, .inl (g 0, 748, .inl be)), (cp0, .inl (g 0, 10, .inl cp)), (cn0, .inl (g 0, 10, .inl cn))] sz ((f_X8_asked tr cp cn pa x).1) [(m0, .inr (8, [.int rf, .ref sc0, .int (nI ss), .int (nI sp), .int ig, .int lo, .ref rd0, .ref nw0, .ref tr0, .ref di0, .int (nI ac), .ref ke0, .ref ik0, .ref cp0, .ref cn0, .ref be0])), (tr0, .inl (g 0, 748, .inl tr)), (be0, .inl (g 0, 748, .inl tr)), (cp0, .inl (g 0, 10, .inl ((f_X8_asked tr cp cn pa x).2.1))), (cn0, .inl (g 0, 10, .inl ((f_X8_asked tr cp cn pa x).2.2)))] := by
  refine k_enter (nm := "asked") (own := RX8) (bytes := cX8_asked) (maxL := 4) (ret := (some .int)) (Qf := fun A => kQi D [(m0, .inr (8, [.int rf, .ref sc0, .int (nI ss), .int (nI sp), .int ig, .int lo, .ref rd0, .ref nw0, .ref tr0, .ref di0, .int (nI ac), .ref ke0, .ref ik0, .ref cp0, .ref cn0, .ref be0])), (tr0, .inl (g 0, 748, .inl tr)), (be0, .inl (g 0, 748, .inl tr)), (cp0, .inl (g 0, 10, .inl ((f_X8_asked tr cp cn pa x).2.1))), (cn0, .inl (g 0, 10, .inl ((f_X8_asked tr cp cn pa x).2.2)))] A ((f_X8_asked tr cp cn pa x).1)) (by decide) rfl rfl rfl (Nat.le_of_ble_eq_true rfl) ?_
  rintro pp ee s mm below meth cc A ls args Q H locs hQ ⟨hx, hb, hr, hml, hown, hts, hlocks, hin⟩ hP hK hD hA hS hE hl
  have hl : lv_has ls 4 [(0, .ref m0), (1, .int (nI pa)), (2, .int x)] := hl
  refine lv_aload_n hx hb dX8_asked_0 rfl (lv_at hl 0 rfl) ?_
  refine va_get (D := D) (ci := 8) (v := .ref tr0) (C := RX8) (T := TX8) (N := 16) hx hb hts (fun w h => (List.mem_cons_of_mem _ (List.mem_append_right _ h))) hown hK hP 0 rfl rfl 8 (by decide) (hts _ qX8_asked_0) (fun _ h9 => h9) rfl dX8_asked_1 ?_
  refine lv_iconst (v := 0) hx hb dX8_asked_4 (by decide) ?_
  refine lv_aload_n hx hb dX8_asked_5 rfl (lv_at hl 0 rfl) ?_
  refine va_get (D := D) (ci := 8) (v := .ref be0) (C := RX8) (T := TX8) (N := 16) hx hb hts (fun w h => (List.mem_cons_of_mem _ (List.mem_append_right _ h))) hown hK hP 0 rfl rfl 15 (by decide) (hts _ qX8_asked_1) (fun _ h9 => h9) rfl dX8_asked_6 ?_
  refine lv_iconst (v := 0) hx hb dX8_asked_9 (by decide) ?_
  refine lv_sipush (v := 748) hx hb dX8_asked_10 (by decide) ?_
  refine k_av (wr := [(m0, .inr (8, [.int rf, .ref sc0, .int (nI ss), .int (nI sp), .int ig, .int lo, .ref rd0, .ref nw0, .ref tr0, .ref di0, .int (nI ac), .ref ke0, .ref ik0, .ref cp0, .ref cn0, .ref be0])), (cp0, .inl (g 0, 10, .inl cp)), (cn0, .inl (g 0, 10, .inl cn))]) (w2 := [(m0, .inr (8, [.int rf, .ref sc0, .int (nI ss), .int (nI sp), .int ig, .int lo, .ref rd0, .ref nw0, .ref tr0, .ref di0, .int (nI ac), .ref ke0, .ref ik0, .ref cp0, .ref cn0, .ref be0])), (tr0, .inl (g 0, 748, .inl tr)), (be0, .inl (g 0, 748, .inl tr)), (cp0, .inl (g 0, 10, .inl cp)), (cn0, .inl (g 0, 10, .inl cn))]) (va_runS (As := [.ref tr0, .int 0, .ref be0, .int 0, .int 748]) (rest := []) ⟨hx, hb, hml, hown, hts⟩ ((fun l D g f0 t0 sz ff tf => c_X8_copyF l D g f0 t0 sz ff tf 748 (by decide)) l D g tr0 be0 H.size tr be) (va_cwS 5 hts gX8_asked_X8_copy rfl rfl rfl (by decide +kernel) (k_lvl (by omega) (by decide))) (kPS hP hD hK hS hA hE [1, 2] rfl (by decide)) rfl rfl hl.1 rfl (lv_room (Nat.le_of_ble_eq_true rfl)) dX8_asked_13 ⟨Nat.le_of_ble_eq_true rfl, Nat.le_of_ble_eq_true rfl⟩) hP hD hS hA [1, 2] [0, 3, 4] [0, 3, 4, 1, 2] rfl rfl (by decide) (by decide) rfl (by decide) (fun H locs hP hD hS => ?_)
  refine lv_aload_n hx hb dX8_asked_16 rfl (lv_at hl 0 rfl) ?_
  refine lv_aload_n hx hb dX8_asked_17 rfl (lv_at hl 0 rfl) ?_
  refine va_get (D := D) (ci := 8) (v := .ref tr0) (C := RX8) (T := TX8) (N := 16) hx hb hts (fun w h => (List.mem_cons_of_mem _ (List.mem_append_right _ h))) hown hK hP 0 rfl rfl 8 (by decide) (hts _ qX8_asked_0) (fun _ h9 => h9) rfl dX8_asked_18 ?_
  refine lv_iload_n hx hb dX8_asked_21 rfl (lv_at hl 1 rfl) ?_
  refine lv_iload_n hx hb dX8_asked_22 rfl (lv_at hl 2 rfl) ?_
  have hC := c_X8_callInH l D g m0 tr0 sc0 rd0 nw0 tr0 di0 ke0 ik0 cp0 cn0 be0 H.size rf ss sp ig lo ac cp cn tr pa x (by omega) hT.2
  obtain ⟨v_1, ev_1⟩ : ∃ z, z = (h_X8_callIn cp cn tr pa x) := ⟨_, rfl⟩
  rw [← ev_1] at hC
  have kev_1 : kEq v_1 (h_X8_callIn cp cn tr pa x) := ev_1
  clear ev_1
  refine k_ai (wr := [(be0, .inl (g 0, 748, .inl tr))]) (w2 := [(m0, .inr (8, [.int rf, .ref sc0, .int (nI ss), .int (nI sp), .int ig, .int lo, .ref rd0, .ref nw0, .ref tr0, .ref di0, .int (nI ac), .ref ke0, .ref ik0, .ref cp0, .ref cn0, .ref be0])), (tr0, .inl (g 0, 748, .inl v_1.2.1)), (be0, .inl (g 0, 748, .inl tr)), (cp0, .inl (g 0, 10, .inl v_1.2.2.1)), (cn0, .inl (g 0, 10, .inl v_1.2.2.2))]) (va_runV (As := [.ref tr0, .int (nI pa), .int x]) (rest := []) ⟨hx, hb, hml, hown, hts⟩ hC (cwV 3 hts gX8_asked_X8_callIn rfl rfl rfl (by decide +kernel) (k_lvl (by omega) (by decide))) (kPV hP hD hK hS hA hE [0, 3, 4, 1] rfl (by decide) 0 8 rfl rfl rfl) rfl rfl hl.1 rfl (lv_room (Nat.le_of_ble_eq_true rfl)) dX8_asked_23 ⟨Nat.le_of_ble_eq_true rfl, Nat.le_of_ble_eq_true rfl⟩) hP hD hS hA [0, 3, 4, 1] [2] [1, 4, 0, 2, 3] rfl rfl (by decide) (by decide) rfl (by decide) (fun H locs hP hD hS => ?_)
  refine lv_istore_n (lv' := [(3, .int v_1.1), (0, .ref m0), (1, .int (nI pa)), (2, .int x)]) hx hb dX8_asked_26 rfl hl (by decide) rfl (fun ls hl => ?_)
  refine lv_aload_n hx hb dX8_asked_27 rfl (lv_at hl 1 rfl) ?_
  refine va_get (D := D) (ci := 8) (v := .ref be0) (C := RX8) (T := TX8) (N := 16) hx hb hts (fun w h => (List.mem_cons_of_mem _ (List.mem_append_right _ h))) hown hK hP 0 rfl rfl 15 (by decide) (hts _ qX8_asked_1) (fun _ h9 => h9) rfl dX8_asked_28 ?_
  refine lv_iconst (v := 0) hx hb dX8_asked_31 (by decide) ?_
  refine lv_aload_n hx hb dX8_asked_32 rfl (lv_at hl 1 rfl) ?_
  refine va_get (D := D) (ci := 8) (v := .ref tr0) (C := RX8) (T := TX8) (N := 16) hx hb hts (fun w h => (List.mem_cons_of_mem _ (List.mem_append_right _ h))) hown hK hP 0 rfl rfl 8 (by decide) (hts _ qX8_asked_0) (fun _ h9 => h9) rfl dX8_asked_33 ?_
  refine lv_iconst (v := 0) hx hb dX8_asked_36 (by decide) ?_
  refine lv_sipush (v := 748) hx hb dX8_asked_37 (by decide) ?_
  refine k_av (wr := [(m0, .inr (8, [.int rf, .ref sc0, .int (nI ss), .int (nI sp), .int ig, .int lo, .ref rd0, .ref nw0, .ref tr0, .ref di0, .int (nI ac), .ref ke0, .ref ik0, .ref cp0, .ref cn0, .ref be0])), (cp0, .inl (g 0, 10, .inl v_1.2.2.1)), (cn0, .inl (g 0, 10, .inl v_1.2.2.2))]) (w2 := [(m0, .inr (8, [.int rf, .ref sc0, .int (nI ss), .int (nI sp), .int ig, .int lo, .ref rd0, .ref nw0, .ref tr0, .ref di0, .int (nI ac), .ref ke0, .ref ik0, .ref cp0, .ref cn0, .ref be0])), (tr0, .inl (g 0, 748, .inl tr)), (be0, .inl (g 0, 748, .inl tr)), (cp0, .inl (g 0, 10, .inl v_1.2.2.1)), (cn0, .inl (g 0, 10, .inl v_1.2.2.2))]) (va_runS (As := [.ref be0, .int 0, .ref tr0, .int 0, .int 748]) (rest := []) ⟨hx, hb, hml, hown, hts⟩ ((fun l D g f0 t0 sz ff tf => c_X8_copyF l D g f0 t0 sz ff tf 748 (by decide)) l D g be0 tr0 H.size tr v_1.2.1) (va_cwS 5 hts gX8_asked_X8_copy rfl rfl rfl (by decide +kernel) (k_lvl (by omega) (by decide))) (kPS hP hD hK hS hA hE [2, 1] rfl (by decide)) rfl rfl hl.1 rfl (lv_room (Nat.le_of_ble_eq_true rfl)) dX8_asked_40 ⟨Nat.le_of_ble_eq_true rfl, Nat.le_of_ble_eq_true rfl⟩) hP hD hS hA [2, 1] [0, 3, 4] [0, 4, 3, 1, 2] rfl rfl (by decide) (by decide) rfl (by decide) (fun H locs hP hD hS => ?_)
  refine lv_iload_n hx hb dX8_asked_43 rfl (lv_at hl 0 rfl) ?_
  have ev_1 : (h_X8_callIn cp cn tr pa x) = v_1 := Eq.symm kev_1
  have hE2 : (f_X8_asked tr cp cn pa x) = (v_1.1, v_1.2.2.1, v_1.2.2.2) := by
    subst ev_1
    exact rfl
  subst hQ
  exact k_ri hx hb hr hlocks hP hD hS dX8_asked_44 (by rw [hE2]) (by rw [hE2])
def f_X8_does (tr : Nat → Int32) (be : Nat → Int32) (cp : Nat → Int32) (cn : Nat → Int32) (gr : Nat) : Int32 × (Nat → Int32) × (Nat → Int32) × (Nat → Int32) × (Nat → Int32) :=
  let w_0 := (gr) / 10000
  let p_0 := (((gr) / 1000)) % 10
  let xyz_0 := (gr) % 1000
  let two_0 := (((gr) / 100)) % 10
  let nn_0 := (gr) % 100
  let v_3 := (h_X8_callIn cp cn tr p_0 ((nI xyz_0) - 500))
  let v_7 := (h_X8_callIn cp cn tr p_0 ((nI xyz_0) - 500))
  let v_11 := (f_X8_chains tr p_0 two_0)
  let v_15 := (f_X8_nets tr p_0 (nI nn_0))
  let v_19 := (f_X8_drops tr 0 p_0)
  let v_24 := (f_X8_drops tr (2 + p_0) two_0)
  let v_36 := (f_X8_asked tr cp cn p_0 0)
  if w_0 = 1 then
    if (f_X8_isTrial tr p_0) = 0 then
      (0, tr, be, cp, cn)
    else
      if v_3.1 = (-10000) then
        (0, v_3.2.1, be, v_3.2.2.1, v_3.2.2.2)
      else
        (1, v_3.2.1, be, v_3.2.2.1, v_3.2.2.2)
  else
    if w_0 = 2 then
      if (f_X8_isTrial tr p_0) = 0 then
        (0, tr, be, cp, cn)
      else
        if v_7.1 = (-10000) then
          (1, v_7.2.1, be, v_7.2.2.1, v_7.2.2.2)
        else
          (0, v_7.2.1, be, v_7.2.2.1, v_7.2.2.2)
    else
      if w_0 = 3 then
        if nn_0 = 0 then
          if v_11.1 = 0 then
            (0, v_11.2, be, cp, cn)
          else
            (1, v_11.2, be, cp, cn)
        else
          (0, tr, be, cp, cn)
      else
        if w_0 = 4 then
          if two_0 = 0 then
            if v_15.1 = 0 then
              (0, v_15.2, be, cp, cn)
            else
              (1, v_15.2, be, cp, cn)
          else
            (0, tr, be, cp, cn)
        else
          if w_0 = 5 then
            if xyz_0 = 0 then
              if v_19.1 = 0 then
                (0, v_19.2, be, cp, cn)
              else
                (1, v_19.2, be, cp, cn)
            else
              (0, tr, be, cp, cn)
          else
            if w_0 = 6 then
              if nn_0 = 0 then
                if (f_X8_isTrial tr p_0) = 0 then
                  (0, tr, be, cp, cn)
                else
                  if v_24.1 = 0 then
                    (0, v_24.2, be, cp, cn)
                  else
                    (1, v_24.2, be, cp, cn)
              else
                (0, tr, be, cp, cn)
            else
              if w_0 = 7 then
                if two_0 = 0 then
                  if (f_X8_isTrial tr p_0) = 0 then
                    (0, tr, be, cp, cn)
                  else
                    if (nI nn_0) < (tr (1 + 8 * p_0 + 6)) then
                      (0, tr, be, cp, cn)
                    else
                      (1, tr, be, cp, cn)
                else
                  (0, tr, be, cp, cn)
              else
                if w_0 = 8 then
                  if p_0 = 0 then
                    if two_0 = 0 then
                      if (nI nn_0) < (tr 683) then
                        (0, tr, be, cp, cn)
                      else
                        (1, tr, be, cp, cn)
                    else
                      (0, tr, be, cp, cn)
                  else
                    (0, tr, be, cp, cn)
                else
                  if w_0 = 9 then
                    if (f_X8_isTrial tr p_0) = 0 then
                      (0, tr, be, cp, cn)
                    else
                      if v_36.1 = ((nI xyz_0) - 500) then
                        (1, tr, tr, v_36.2.1, v_36.2.2)
                      else
                        (0, tr, tr, v_36.2.1, v_36.2.2)
                  else
                    (0, tr, be, cp, cn)
theorem qX8_does_0 : Cond.fieldLink RX8 19 "BlameChainsModel" "trial" "[I" ∈ wsX8_does := (List.mem_cons_of_mem _ (List.mem_append_left _ (List.mem_append_left _ (List.mem_of_getElem? (i := 0) rfl))))
set_option maxHeartbeats 4000000 in
set_option maxRecDepth 100000 in
theorem c_X8_does (l : Launch) (D : va_G) (g : Nat → Nat) (m0 sc0 rd0 nw0 tr0 di0 ke0 ik0 cp0 cn0 be0 : Nat) (sz : Nat) (rf : Int32) (ss : Nat) (sp : Nat) (ig : Int32) (lo : Int32) (ac : Nat) (tr : Nat → Int32) (be : Nat → Int32) (cp : Nat → Int32) (cn : Nat → Int32) (gr : Nat) (hT : rdOk tr) (hgr : gr ≤ 99999) : kMi l D g yX8_does wsX8_does 7 0 0 [.ref m0, .int (nI gr)] [(m0, .inr (8, [.int rf, .ref sc0, .int (nI ss), .int (nI sp), .int ig, .int lo, .ref rd0, .ref nw0, .ref tr0, .ref di0, .int (nI ac), .ref ke0, .ref ik0, .ref cp0, .ref cn0, .ref be0])), (tr0, .inl (g 0, 748, .inl tr)), (be0, .inl (g 0, 748, .inl be)), (cp0, .inl (g 0, 10, .inl cp)), (cn0, .inl (g 0, 10, .inl cn))] sz ((f_X8_does tr be cp cn gr).1) [(m0, .inr (8, [.int rf, .ref sc0, .int (nI ss), .int (nI sp), .int ig, .int lo, .ref rd0, .ref nw0, .ref tr0, .ref di0, .int (nI ac), .ref ke0, .ref ik0, .ref cp0, .ref cn0, .ref be0])), (tr0, .inl (g 0, 748, .inl ((f_X8_does tr be cp cn gr).2.1))), (be0, .inl (g 0, 748, .inl ((f_X8_does tr be cp cn gr).2.2.1))), (cp0, .inl (g 0, 10, .inl ((f_X8_does tr be cp cn gr).2.2.2.1))), (cn0, .inl (g 0, 10, .inl ((f_X8_does tr be cp cn gr).2.2.2.2)))] := by
  refine k_enter (nm := "does") (own := RX8) (bytes := cX8_does) (maxL := 7) (ret := (some .boolean)) (Qf := fun A => kQi D [(m0, .inr (8, [.int rf, .ref sc0, .int (nI ss), .int (nI sp), .int ig, .int lo, .ref rd0, .ref nw0, .ref tr0, .ref di0, .int (nI ac), .ref ke0, .ref ik0, .ref cp0, .ref cn0, .ref be0])), (tr0, .inl (g 0, 748, .inl ((f_X8_does tr be cp cn gr).2.1))), (be0, .inl (g 0, 748, .inl ((f_X8_does tr be cp cn gr).2.2.1))), (cp0, .inl (g 0, 10, .inl ((f_X8_does tr be cp cn gr).2.2.2.1))), (cn0, .inl (g 0, 10, .inl ((f_X8_does tr be cp cn gr).2.2.2.2)))] A ((f_X8_does tr be cp cn gr).1)) (by decide) rfl rfl rfl (Nat.le_of_ble_eq_true rfl) ?_
  rintro pp ee s mm below meth cc A ls args Q H locs hQ ⟨hx, hb, hr, hml, hown, hts, hlocks, hin⟩ hP hK hD hA hS hE hl
  have hl : lv_has ls 7 [(0, .ref m0), (1, .int (nI gr))] := hl
  refine lv_iload_n hx hb dX8_does_0 rfl (lv_at hl 1 rfl) ?_
  refine lv_sipush (v := 10000) hx hb dX8_does_1 (by decide) ?_
  refine lv_idiv hx hb dX8_does_4 (by decide) ?_
  refine k_top (y := (nI ((gr) / 10000))) (pk_div (a := gr) (d := 10000) (by omega) (by decide) (by decide)) ?_
  refine lv_istore_n (lv' := [(2, .int (nI ((gr) / 10000))), (0, .ref m0), (1, .int (nI gr))]) hx hb dX8_does_5 rfl hl (by decide) rfl (fun ls hl => ?_)
  refine lv_iload_n hx hb dX8_does_6 rfl (lv_at hl 2 rfl) ?_
  refine lv_sipush (v := 1000) hx hb dX8_does_7 (by decide) ?_
  refine lv_idiv hx hb dX8_does_10 (by decide) ?_
  refine k_top (y := (nI ((gr) / 1000))) (pk_div (a := gr) (d := 1000) (by omega) (by decide) (by decide)) ?_
  refine lv_bipush (v := 10) hx hb dX8_does_11 (by decide) ?_
  refine lv_irem hx hb dX8_does_13 (by decide) ?_
  refine k_top (y := (nI ((((gr) / 1000)) % 10))) (pk_rem (a := ((gr) / 1000)) (d := 10) (by omega) (by decide) (by decide)) ?_
  refine lv_istore_n (lv' := [(3, .int (nI ((((gr) / 1000)) % 10))), (2, .int (nI ((gr) / 10000))), (0, .ref m0), (1, .int (nI gr))]) hx hb dX8_does_14 rfl hl (by decide) rfl (fun ls hl => ?_)
  refine lv_iload_n hx hb dX8_does_15 rfl (lv_at hl 3 rfl) ?_
  refine lv_sipush (v := 1000) hx hb dX8_does_16 (by decide) ?_
  refine lv_irem hx hb dX8_does_19 (by decide) ?_
  refine k_top (y := (nI ((gr) % 1000))) (pk_rem (a := gr) (d := 1000) (by omega) (by decide) (by decide)) ?_
  refine lv_istore (lv' := [(4, .int (nI ((gr) % 1000))), (3, .int (nI ((((gr) / 1000)) % 10))), (2, .int (nI ((gr) / 10000))), (0, .ref m0), (1, .int (nI gr))]) hx hb dX8_does_20 hl (by decide) rfl (fun ls hl => ?_)
  refine lv_iload_n hx hb dX8_does_22 rfl (lv_at hl 4 rfl) ?_
  refine lv_bipush (v := 100) hx hb dX8_does_23 (by decide) ?_
  refine lv_idiv hx hb dX8_does_25 (by decide) ?_
  refine k_top (y := (nI ((gr) / 100))) (pk_div (a := gr) (d := 100) (by omega) (by decide) (by decide)) ?_
  refine lv_bipush (v := 10) hx hb dX8_does_26 (by decide) ?_
  refine lv_irem hx hb dX8_does_28 (by decide) ?_
  refine k_top (y := (nI ((((gr) / 100)) % 10))) (pk_rem (a := ((gr) / 100)) (d := 10) (by omega) (by decide) (by decide)) ?_
  refine lv_istore (lv' := [(5, .int (nI ((((gr) / 100)) % 10))), (4, .int (nI ((gr) % 1000))), (3, .int (nI ((((gr) / 1000)) % 10))), (2, .int (nI ((gr) / 10000))), (0, .ref m0), (1, .int (nI gr))]) hx hb dX8_does_29 hl (by decide) rfl (fun ls hl => ?_)
  refine lv_iload_n hx hb dX8_does_31 rfl (lv_at hl 5 rfl) ?_
  refine lv_bipush (v := 100) hx hb dX8_does_32 (by decide) ?_
  refine lv_irem hx hb dX8_does_34 (by decide) ?_
  refine k_top (y := (nI ((gr) % 100))) (pk_rem (a := gr) (d := 100) (by omega) (by decide) (by decide)) ?_
  refine lv_istore (lv' := [(6, .int (nI ((gr) % 100))), (5, .int (nI ((((gr) / 100)) % 10))), (4, .int (nI ((gr) % 1000))), (3, .int (nI ((((gr) / 1000)) % 10))), (2, .int (nI ((gr) / 10000))), (0, .ref m0), (1, .int (nI gr))]) hx hb dX8_does_35 hl (by decide) rfl (fun ls hl => ?_)
  obtain ⟨w_0, ew_0⟩ : ∃ z, z = (gr) / 10000 := ⟨_, rfl⟩
  have bw_0 : w_0 ≤ 9 := by rw [ew_0]; omega
  rw [← ew_0] at hl
  have kew_0 : kEq w_0 ((gr) / 10000) := ew_0
  clear ew_0
  have hl : lv_has ls 7 [(6, .int (nI ((gr) % 100))), (5, .int (nI ((((gr) / 100)) % 10))), (4, .int (nI ((gr) % 1000))), (3, .int (nI ((((gr) / 1000)) % 10))), (2, .int (nI w_0)), (0, .ref m0), (1, .int (nI gr))] := hl
  obtain ⟨p_0, ep_0⟩ : ∃ z, z = (((gr) / 1000)) % 10 := ⟨_, rfl⟩
  have bp_0 : p_0 ≤ 9 := by rw [ep_0]; omega
  rw [← ep_0] at hl
  have kep_0 : kEq p_0 ((((gr) / 1000)) % 10) := ep_0
  clear ep_0
  have hl : lv_has ls 7 [(6, .int (nI ((gr) % 100))), (5, .int (nI ((((gr) / 100)) % 10))), (4, .int (nI ((gr) % 1000))), (3, .int (nI p_0)), (2, .int (nI w_0)), (0, .ref m0), (1, .int (nI gr))] := hl
  obtain ⟨xyz_0, exyz_0⟩ : ∃ z, z = (gr) % 1000 := ⟨_, rfl⟩
  have bxyz_0 : xyz_0 ≤ 999 := by rw [exyz_0]; omega
  rw [← exyz_0] at hl
  have kexyz_0 : kEq xyz_0 ((gr) % 1000) := exyz_0
  clear exyz_0
  have hl : lv_has ls 7 [(6, .int (nI ((gr) % 100))), (5, .int (nI ((((gr) / 100)) % 10))), (4, .int (nI xyz_0)), (3, .int (nI p_0)), (2, .int (nI w_0)), (0, .ref m0), (1, .int (nI gr))] := hl
  obtain ⟨two_0, etwo_0⟩ : ∃ z, z = (((gr) / 100)) % 10 := ⟨_, rfl⟩
  have btwo_0 : two_0 ≤ 9 := by rw [etwo_0]; omega
  rw [← etwo_0] at hl
  have ketwo_0 : kEq two_0 ((((gr) / 100)) % 10) := etwo_0
  clear etwo_0
  have hl : lv_has ls 7 [(6, .int (nI ((gr) % 100))), (5, .int (nI two_0)), (4, .int (nI xyz_0)), (3, .int (nI p_0)), (2, .int (nI w_0)), (0, .ref m0), (1, .int (nI gr))] := hl
  obtain ⟨nn_0, enn_0⟩ : ∃ z, z = (gr) % 100 := ⟨_, rfl⟩
  have bnn_0 : nn_0 ≤ 99 := by rw [enn_0]; omega
  rw [← enn_0] at hl
  have kenn_0 : kEq nn_0 ((gr) % 100) := enn_0
  clear enn_0
  have hl : lv_has ls 7 [(6, .int (nI nn_0)), (5, .int (nI two_0)), (4, .int (nI xyz_0)), (3, .int (nI p_0)), (2, .int (nI w_0)), (0, .ref m0), (1, .int (nI gr))] := hl
  refine lv_iload_n hx hb dX8_does_37 rfl (lv_at hl 4 rfl) ?_
  by_cases c_1 : w_0 = 1
  · refine k_tabIn (v := 1) (off := 50) (tgt := 88) hx hb dX8_does_38 (congrArg nI c_1) (by decide) (by decide) rfl (by decide) ?_
    refine lv_aload_n hx hb dX8_does_88 rfl (lv_at hl 5 rfl) ?_
    refine lv_iload_n hx hb dX8_does_89 rfl (lv_at hl 3 rfl) ?_
    refine k_ai (wr := [(be0, .inl (g 0, 748, .inl be)), (cp0, .inl (g 0, 10, .inl cp)), (cn0, .inl (g 0, 10, .inl cn))]) (w2 := [(m0, .inr (8, [.int rf, .ref sc0, .int (nI ss), .int (nI sp), .int ig, .int lo, .ref rd0, .ref nw0, .ref tr0, .ref di0, .int (nI ac), .ref ke0, .ref ik0, .ref cp0, .ref cn0, .ref be0])), (tr0, .inl (g 0, 748, .inl tr)), (be0, .inl (g 0, 748, .inl be)), (cp0, .inl (g 0, 10, .inl cp)), (cn0, .inl (g 0, 10, .inl cn))]) (va_runV (As := [.int (nI p_0)]) (rest := []) ⟨hx, hb, hml, hown, hts⟩ (c_X8_isTrial l D g m0 sc0 rd0 nw0 tr0 di0 ke0 ik0 cp0 cn0 be0 H.size rf ss sp ig lo ac tr p_0 hT (by omega)) (cwV 1 hts gX8_does_X8_isTrial rfl rfl rfl (by decide +kernel) (k_lvl (by omega) (by decide))) (kPV hP hD hK hS hA hE [0, 1] rfl (by decide) 0 8 rfl rfl rfl) rfl rfl hl.1 rfl (lv_room (Nat.le_of_ble_eq_true rfl)) dX8_does_90 ⟨Nat.le_of_ble_eq_true rfl, Nat.le_of_ble_eq_true rfl⟩) hP hD hS hA [0, 1] [2, 3, 4] [3, 4, 0, 1, 2] rfl rfl (by decide) (by decide) rfl (by decide) (fun H locs hP hD hS => ?_)
    refine lv_if_eq (tgt := 121) hx hb dX8_does_93 (by decide) (fun c_2 => ?_) (fun c_2 => ?_)
    · refine lv_iconst (v := 0) hx hb dX8_does_121 (by decide) ?_
      have enn_0 : (gr) % 100 = nn_0 := Eq.symm kenn_0
      have etwo_0 : (((gr) / 100)) % 10 = two_0 := Eq.symm ketwo_0
      have exyz_0 : (gr) % 1000 = xyz_0 := Eq.symm kexyz_0
      have ep_0 : (((gr) / 1000)) % 10 = p_0 := Eq.symm kep_0
      have ew_0 : (gr) / 10000 = w_0 := Eq.symm kew_0
      have hE2 : (f_X8_does tr be cp cn gr) = (0, tr, be, cp, cn) := by
        subst enn_0
        subst etwo_0
        subst exyz_0
        subst ep_0
        subst ew_0
        exact (if_pos c_1).trans ((if_pos c_2).trans (rfl))
      subst hQ
      exact k_rz hx hb hr hlocks hP hD hS dX8_does_122 (by rfl) (by rw [hE2]) (by rw [hE2])
    · refine lv_aload_n hx hb dX8_does_96 rfl (lv_at hl 5 rfl) ?_
      refine lv_aload_n hx hb dX8_does_97 rfl (lv_at hl 5 rfl) ?_
      refine va_get (D := D) (ci := 8) (v := .ref tr0) (C := RX8) (T := TX8) (N := 16) hx hb hts (fun w h => (List.mem_cons_of_mem _ (List.mem_append_right _ h))) hown hK hP 0 rfl rfl 8 (by decide) (hts _ qX8_does_0) (fun _ h9 => h9) rfl dX8_does_98 ?_
      refine lv_iload_n hx hb dX8_does_101 rfl (lv_at hl 3 rfl) ?_
      refine lv_iload hx hb dX8_does_102 (lv_at hl 2 rfl) ?_
      refine lv_sipush (v := 500) hx hb dX8_does_104 (by decide) ?_
      refine lv_isub hx hb dX8_does_107 ?_
      have hC := c_X8_callInH l D g m0 tr0 sc0 rd0 nw0 tr0 di0 ke0 ik0 cp0 cn0 be0 H.size rf ss sp ig lo ac cp cn tr p_0 ((nI xyz_0) - 500) (by omega) hT.2
      obtain ⟨v_3, ev_3⟩ : ∃ z, z = (h_X8_callIn cp cn tr p_0 ((nI xyz_0) - 500)) := ⟨_, rfl⟩
      rw [← ev_3] at hC
      have kev_3 : kEq v_3 (h_X8_callIn cp cn tr p_0 ((nI xyz_0) - 500)) := ev_3
      clear ev_3
      refine k_ai (wr := [(be0, .inl (g 0, 748, .inl be))]) (w2 := [(m0, .inr (8, [.int rf, .ref sc0, .int (nI ss), .int (nI sp), .int ig, .int lo, .ref rd0, .ref nw0, .ref tr0, .ref di0, .int (nI ac), .ref ke0, .ref ik0, .ref cp0, .ref cn0, .ref be0])), (tr0, .inl (g 0, 748, .inl v_3.2.1)), (be0, .inl (g 0, 748, .inl be)), (cp0, .inl (g 0, 10, .inl v_3.2.2.1)), (cn0, .inl (g 0, 10, .inl v_3.2.2.2))]) (va_runV (As := [.ref tr0, .int (nI p_0), .int ((nI xyz_0) - 500)]) (rest := []) ⟨hx, hb, hml, hown, hts⟩ hC (cwV 3 hts gX8_does_X8_callIn rfl rfl rfl (by decide +kernel) (k_lvl (by omega) (by decide))) (kPV hP hD hK hS hA hE [0, 3, 4, 1] rfl (by decide) 0 8 rfl rfl rfl) rfl rfl hl.1 rfl (lv_room (Nat.le_of_ble_eq_true rfl)) dX8_does_108 ⟨Nat.le_of_ble_eq_true rfl, Nat.le_of_ble_eq_true rfl⟩) hP hD hS hA [0, 3, 4, 1] [2] [1, 4, 0, 2, 3] rfl rfl (by decide) (by decide) rfl (by decide) (fun H locs hP hD hS => ?_)
      refine lv_sipush (v := (-10000)) hx hb dX8_does_111 (by decide) ?_
      refine lv_icmp_eq (tgt := 121) hx hb dX8_does_114 (by decide) (fun c_4 => ?_) (fun c_4 => ?_)
      · refine lv_iconst (v := 0) hx hb dX8_does_121 (by decide) ?_
        have ev_3 : (h_X8_callIn cp cn tr p_0 ((nI xyz_0) - 500)) = v_3 := Eq.symm kev_3
        have enn_0 : (gr) % 100 = nn_0 := Eq.symm kenn_0
        have etwo_0 : (((gr) / 100)) % 10 = two_0 := Eq.symm ketwo_0
        have exyz_0 : (gr) % 1000 = xyz_0 := Eq.symm kexyz_0
        have ep_0 : (((gr) / 1000)) % 10 = p_0 := Eq.symm kep_0
        have ew_0 : (gr) / 10000 = w_0 := Eq.symm kew_0
        have hE2 : (f_X8_does tr be cp cn gr) = (0, v_3.2.1, be, v_3.2.2.1, v_3.2.2.2) := by
          subst ev_3
          subst enn_0
          subst etwo_0
          subst exyz_0
          subst ep_0
          subst ew_0
          exact (if_pos c_1).trans ((if_neg c_2).trans ((if_pos c_4).trans (rfl)))
        subst hQ
        exact k_rz hx hb hr hlocks hP hD hS dX8_does_122 (by rfl) (by rw [hE2]) (by rw [hE2])
      · refine lv_iconst (v := 1) hx hb dX8_does_117 (by decide) ?_
        refine lv_goto (tgt := 122) hx hb dX8_does_118 (by decide) ?_
        have ev_3 : (h_X8_callIn cp cn tr p_0 ((nI xyz_0) - 500)) = v_3 := Eq.symm kev_3
        have enn_0 : (gr) % 100 = nn_0 := Eq.symm kenn_0
        have etwo_0 : (((gr) / 100)) % 10 = two_0 := Eq.symm ketwo_0
        have exyz_0 : (gr) % 1000 = xyz_0 := Eq.symm kexyz_0
        have ep_0 : (((gr) / 1000)) % 10 = p_0 := Eq.symm kep_0
        have ew_0 : (gr) / 10000 = w_0 := Eq.symm kew_0
        have hE2 : (f_X8_does tr be cp cn gr) = (1, v_3.2.1, be, v_3.2.2.1, v_3.2.2.2) := by
          subst ev_3
          subst enn_0
          subst etwo_0
          subst exyz_0
          subst ep_0
          subst ew_0
          exact (if_pos c_1).trans ((if_neg c_2).trans ((if_neg c_4).trans (rfl)))
        subst hQ
        exact k_rz hx hb hr hlocks hP hD hS dX8_does_122 (by rfl) (by rw [hE2]) (by rw [hE2])
  by_cases c_5 : w_0 = 2
  · refine k_tabIn (v := 2) (off := 85) (tgt := 123) hx hb dX8_does_38 (congrArg nI c_5) (by decide) (by decide) rfl (by decide) ?_
    refine lv_aload_n hx hb dX8_does_123 rfl (lv_at hl 5 rfl) ?_
    refine lv_iload_n hx hb dX8_does_124 rfl (lv_at hl 3 rfl) ?_
    refine k_ai (wr := [(be0, .inl (g 0, 748, .inl be)), (cp0, .inl (g 0, 10, .inl cp)), (cn0, .inl (g 0, 10, .inl cn))]) (w2 := [(m0, .inr (8, [.int rf, .ref sc0, .int (nI ss), .int (nI sp), .int ig, .int lo, .ref rd0, .ref nw0, .ref tr0, .ref di0, .int (nI ac), .ref ke0, .ref ik0, .ref cp0, .ref cn0, .ref be0])), (tr0, .inl (g 0, 748, .inl tr)), (be0, .inl (g 0, 748, .inl be)), (cp0, .inl (g 0, 10, .inl cp)), (cn0, .inl (g 0, 10, .inl cn))]) (va_runV (As := [.int (nI p_0)]) (rest := []) ⟨hx, hb, hml, hown, hts⟩ (c_X8_isTrial l D g m0 sc0 rd0 nw0 tr0 di0 ke0 ik0 cp0 cn0 be0 H.size rf ss sp ig lo ac tr p_0 hT (by omega)) (cwV 1 hts gX8_does_X8_isTrial rfl rfl rfl (by decide +kernel) (k_lvl (by omega) (by decide))) (kPV hP hD hK hS hA hE [0, 1] rfl (by decide) 0 8 rfl rfl rfl) rfl rfl hl.1 rfl (lv_room (Nat.le_of_ble_eq_true rfl)) dX8_does_125 ⟨Nat.le_of_ble_eq_true rfl, Nat.le_of_ble_eq_true rfl⟩) hP hD hS hA [0, 1] [2, 3, 4] [3, 4, 0, 1, 2] rfl rfl (by decide) (by decide) rfl (by decide) (fun H locs hP hD hS => ?_)
    refine lv_if_eq (tgt := 156) hx hb dX8_does_128 (by decide) (fun c_6 => ?_) (fun c_6 => ?_)
    · refine lv_iconst (v := 0) hx hb dX8_does_156 (by decide) ?_
      have enn_0 : (gr) % 100 = nn_0 := Eq.symm kenn_0
      have etwo_0 : (((gr) / 100)) % 10 = two_0 := Eq.symm ketwo_0
      have exyz_0 : (gr) % 1000 = xyz_0 := Eq.symm kexyz_0
      have ep_0 : (((gr) / 1000)) % 10 = p_0 := Eq.symm kep_0
      have ew_0 : (gr) / 10000 = w_0 := Eq.symm kew_0
      have hE2 : (f_X8_does tr be cp cn gr) = (0, tr, be, cp, cn) := by
        subst enn_0
        subst etwo_0
        subst exyz_0
        subst ep_0
        subst ew_0
        exact (if_neg c_1).trans ((if_pos c_5).trans ((if_pos c_6).trans (rfl)))
      subst hQ
      exact k_rz hx hb hr hlocks hP hD hS dX8_does_157 (by rfl) (by rw [hE2]) (by rw [hE2])
    · refine lv_aload_n hx hb dX8_does_131 rfl (lv_at hl 5 rfl) ?_
      refine lv_aload_n hx hb dX8_does_132 rfl (lv_at hl 5 rfl) ?_
      refine va_get (D := D) (ci := 8) (v := .ref tr0) (C := RX8) (T := TX8) (N := 16) hx hb hts (fun w h => (List.mem_cons_of_mem _ (List.mem_append_right _ h))) hown hK hP 0 rfl rfl 8 (by decide) (hts _ qX8_does_0) (fun _ h9 => h9) rfl dX8_does_133 ?_
      refine lv_iload_n hx hb dX8_does_136 rfl (lv_at hl 3 rfl) ?_
      refine lv_iload hx hb dX8_does_137 (lv_at hl 2 rfl) ?_
      refine lv_sipush (v := 500) hx hb dX8_does_139 (by decide) ?_
      refine lv_isub hx hb dX8_does_142 ?_
      have hC := c_X8_callInH l D g m0 tr0 sc0 rd0 nw0 tr0 di0 ke0 ik0 cp0 cn0 be0 H.size rf ss sp ig lo ac cp cn tr p_0 ((nI xyz_0) - 500) (by omega) hT.2
      obtain ⟨v_7, ev_7⟩ : ∃ z, z = (h_X8_callIn cp cn tr p_0 ((nI xyz_0) - 500)) := ⟨_, rfl⟩
      rw [← ev_7] at hC
      have kev_7 : kEq v_7 (h_X8_callIn cp cn tr p_0 ((nI xyz_0) - 500)) := ev_7
      clear ev_7
      refine k_ai (wr := [(be0, .inl (g 0, 748, .inl be))]) (w2 := [(m0, .inr (8, [.int rf, .ref sc0, .int (nI ss), .int (nI sp), .int ig, .int lo, .ref rd0, .ref nw0, .ref tr0, .ref di0, .int (nI ac), .ref ke0, .ref ik0, .ref cp0, .ref cn0, .ref be0])), (tr0, .inl (g 0, 748, .inl v_7.2.1)), (be0, .inl (g 0, 748, .inl be)), (cp0, .inl (g 0, 10, .inl v_7.2.2.1)), (cn0, .inl (g 0, 10, .inl v_7.2.2.2))]) (va_runV (As := [.ref tr0, .int (nI p_0), .int ((nI xyz_0) - 500)]) (rest := []) ⟨hx, hb, hml, hown, hts⟩ hC (cwV 3 hts gX8_does_X8_callIn rfl rfl rfl (by decide +kernel) (k_lvl (by omega) (by decide))) (kPV hP hD hK hS hA hE [0, 3, 4, 1] rfl (by decide) 0 8 rfl rfl rfl) rfl rfl hl.1 rfl (lv_room (Nat.le_of_ble_eq_true rfl)) dX8_does_143 ⟨Nat.le_of_ble_eq_true rfl, Nat.le_of_ble_eq_true rfl⟩) hP hD hS hA [0, 3, 4, 1] [2] [1, 4, 0, 2, 3] rfl rfl (by decide) (by decide) rfl (by decide) (fun H locs hP hD hS => ?_)
      refine lv_sipush (v := (-10000)) hx hb dX8_does_146 (by decide) ?_
      refine lv_icmp_ne (tgt := 156) hx hb dX8_does_149 (by decide) (fun c_8 => ?_) (fun c_8 => ?_)
      · refine lv_iconst (v := 0) hx hb dX8_does_156 (by decide) ?_
        have ev_7 : (h_X8_callIn cp cn tr p_0 ((nI xyz_0) - 500)) = v_7 := Eq.symm kev_7
        have enn_0 : (gr) % 100 = nn_0 := Eq.symm kenn_0
        have etwo_0 : (((gr) / 100)) % 10 = two_0 := Eq.symm ketwo_0
        have exyz_0 : (gr) % 1000 = xyz_0 := Eq.symm kexyz_0
        have ep_0 : (((gr) / 1000)) % 10 = p_0 := Eq.symm kep_0
        have ew_0 : (gr) / 10000 = w_0 := Eq.symm kew_0
        have hE2 : (f_X8_does tr be cp cn gr) = (0, v_7.2.1, be, v_7.2.2.1, v_7.2.2.2) := by
          subst ev_7
          subst enn_0
          subst etwo_0
          subst exyz_0
          subst ep_0
          subst ew_0
          exact (if_neg c_1).trans ((if_pos c_5).trans ((if_neg c_6).trans ((if_neg c_8).trans (rfl))))
        subst hQ
        exact k_rz hx hb hr hlocks hP hD hS dX8_does_157 (by rfl) (by rw [hE2]) (by rw [hE2])
      · refine lv_iconst (v := 1) hx hb dX8_does_152 (by decide) ?_
        refine lv_goto (tgt := 157) hx hb dX8_does_153 (by decide) ?_
        have ev_7 : (h_X8_callIn cp cn tr p_0 ((nI xyz_0) - 500)) = v_7 := Eq.symm kev_7
        have enn_0 : (gr) % 100 = nn_0 := Eq.symm kenn_0
        have etwo_0 : (((gr) / 100)) % 10 = two_0 := Eq.symm ketwo_0
        have exyz_0 : (gr) % 1000 = xyz_0 := Eq.symm kexyz_0
        have ep_0 : (((gr) / 1000)) % 10 = p_0 := Eq.symm kep_0
        have ew_0 : (gr) / 10000 = w_0 := Eq.symm kew_0
        have hE2 : (f_X8_does tr be cp cn gr) = (1, v_7.2.1, be, v_7.2.2.1, v_7.2.2.2) := by
          subst ev_7
          subst enn_0
          subst etwo_0
          subst exyz_0
          subst ep_0
          subst ew_0
          exact (if_neg c_1).trans ((if_pos c_5).trans ((if_neg c_6).trans ((if_pos c_8).trans (rfl))))
        subst hQ
        exact k_rz hx hb hr hlocks hP hD hS dX8_does_157 (by rfl) (by rw [hE2]) (by rw [hE2])
  by_cases c_9 : w_0 = 3
  · refine k_tabIn (v := 3) (off := 120) (tgt := 158) hx hb dX8_does_38 (congrArg nI c_9) (by decide) (by decide) rfl (by decide) ?_
    refine lv_iload hx hb dX8_does_158 (lv_at hl 0 rfl) ?_
    refine lv_if_ne (tgt := 177) hx hb dX8_does_160 (by decide) (fun c_10 => ?_) (fun c_10 => ?_)
    · have c_10 : ¬ (nn_0 = 0) := fun h9 => c_10 ((nI_eq (a := nn_0) (b := 0) (by omega) (by omega)).mpr h9)
      refine lv_iconst (v := 0) hx hb dX8_does_177 (by decide) ?_
      have enn_0 : (gr) % 100 = nn_0 := Eq.symm kenn_0
      have etwo_0 : (((gr) / 100)) % 10 = two_0 := Eq.symm ketwo_0
      have exyz_0 : (gr) % 1000 = xyz_0 := Eq.symm kexyz_0
      have ep_0 : (((gr) / 1000)) % 10 = p_0 := Eq.symm kep_0
      have ew_0 : (gr) / 10000 = w_0 := Eq.symm kew_0
      have hE2 : (f_X8_does tr be cp cn gr) = (0, tr, be, cp, cn) := by
        subst enn_0
        subst etwo_0
        subst exyz_0
        subst ep_0
        subst ew_0
        exact (if_neg c_1).trans ((if_neg c_5).trans ((if_pos c_9).trans ((if_neg c_10).trans (rfl))))
      subst hQ
      exact k_rz hx hb hr hlocks hP hD hS dX8_does_178 (by rfl) (by rw [hE2]) (by rw [hE2])
    · have c_10 : nn_0 = 0 := (nI_eq (a := nn_0) (b := 0) (by omega) (by omega)).mp c_10
      refine lv_aload_n hx hb dX8_does_163 rfl (lv_at hl 5 rfl) ?_
      refine lv_iload_n hx hb dX8_does_164 rfl (lv_at hl 3 rfl) ?_
      refine lv_iload hx hb dX8_does_165 (lv_at hl 1 rfl) ?_
      have hC := c_X8_chains l D g m0 sc0 rd0 nw0 tr0 di0 ke0 ik0 cp0 cn0 be0 H.size rf ss sp ig lo ac tr p_0 two_0 hT (by omega) (by omega)
      obtain ⟨v_11, ev_11⟩ : ∃ z, z = (f_X8_chains tr p_0 two_0) := ⟨_, rfl⟩
      rw [← ev_11] at hC
      have kev_11 : kEq v_11 (f_X8_chains tr p_0 two_0) := ev_11
      clear ev_11
      refine k_ai (wr := [(be0, .inl (g 0, 748, .inl be)), (cp0, .inl (g 0, 10, .inl cp)), (cn0, .inl (g 0, 10, .inl cn))]) (w2 := [(m0, .inr (8, [.int rf, .ref sc0, .int (nI ss), .int (nI sp), .int ig, .int lo, .ref rd0, .ref nw0, .ref tr0, .ref di0, .int (nI ac), .ref ke0, .ref ik0, .ref cp0, .ref cn0, .ref be0])), (tr0, .inl (g 0, 748, .inl v_11.2)), (be0, .inl (g 0, 748, .inl be)), (cp0, .inl (g 0, 10, .inl cp)), (cn0, .inl (g 0, 10, .inl cn))]) (va_runV (As := [.int (nI p_0), .int (nI two_0)]) (rest := []) ⟨hx, hb, hml, hown, hts⟩ hC (cwV 2 hts gX8_does_X8_chains rfl rfl rfl (by decide +kernel) (k_lvl (by omega) (by decide))) (kPV hP hD hK hS hA hE [0, 1] rfl (by decide) 0 8 rfl rfl rfl) rfl rfl hl.1 rfl (lv_room (Nat.le_of_ble_eq_true rfl)) dX8_does_167 ⟨Nat.le_of_ble_eq_true rfl, Nat.le_of_ble_eq_true rfl⟩) hP hD hS hA [0, 1] [2, 3, 4] [3, 4, 0, 1, 2] rfl rfl (by decide) (by decide) rfl (by decide) (fun H locs hP hD hS => ?_)
      refine lv_if_eq (tgt := 177) hx hb dX8_does_170 (by decide) (fun c_12 => ?_) (fun c_12 => ?_)
      · refine lv_iconst (v := 0) hx hb dX8_does_177 (by decide) ?_
        have ev_11 : (f_X8_chains tr p_0 two_0) = v_11 := Eq.symm kev_11
        have enn_0 : (gr) % 100 = nn_0 := Eq.symm kenn_0
        have etwo_0 : (((gr) / 100)) % 10 = two_0 := Eq.symm ketwo_0
        have exyz_0 : (gr) % 1000 = xyz_0 := Eq.symm kexyz_0
        have ep_0 : (((gr) / 1000)) % 10 = p_0 := Eq.symm kep_0
        have ew_0 : (gr) / 10000 = w_0 := Eq.symm kew_0
        have hE2 : (f_X8_does tr be cp cn gr) = (0, v_11.2, be, cp, cn) := by
          subst ev_11
          subst enn_0
          subst etwo_0
          subst exyz_0
          subst ep_0
          subst ew_0
          exact (if_neg c_1).trans ((if_neg c_5).trans ((if_pos c_9).trans ((if_pos c_10).trans ((if_pos c_12).trans (rfl)))))
        subst hQ
        exact k_rz hx hb hr hlocks hP hD hS dX8_does_178 (by rfl) (by rw [hE2]) (by rw [hE2])
      · refine lv_iconst (v := 1) hx hb dX8_does_173 (by decide) ?_
        refine lv_goto (tgt := 178) hx hb dX8_does_174 (by decide) ?_
        have ev_11 : (f_X8_chains tr p_0 two_0) = v_11 := Eq.symm kev_11
        have enn_0 : (gr) % 100 = nn_0 := Eq.symm kenn_0
        have etwo_0 : (((gr) / 100)) % 10 = two_0 := Eq.symm ketwo_0
        have exyz_0 : (gr) % 1000 = xyz_0 := Eq.symm kexyz_0
        have ep_0 : (((gr) / 1000)) % 10 = p_0 := Eq.symm kep_0
        have ew_0 : (gr) / 10000 = w_0 := Eq.symm kew_0
        have hE2 : (f_X8_does tr be cp cn gr) = (1, v_11.2, be, cp, cn) := by
          subst ev_11
          subst enn_0
          subst etwo_0
          subst exyz_0
          subst ep_0
          subst ew_0
          exact (if_neg c_1).trans ((if_neg c_5).trans ((if_pos c_9).trans ((if_pos c_10).trans ((if_neg c_12).trans (rfl)))))
        subst hQ
        exact k_rz hx hb hr hlocks hP hD hS dX8_does_178 (by rfl) (by rw [hE2]) (by rw [hE2])
  by_cases c_13 : w_0 = 4
  · refine k_tabIn (v := 4) (off := 141) (tgt := 179) hx hb dX8_does_38 (congrArg nI c_13) (by decide) (by decide) rfl (by decide) ?_
    refine lv_iload hx hb dX8_does_179 (lv_at hl 1 rfl) ?_
    refine lv_if_ne (tgt := 198) hx hb dX8_does_181 (by decide) (fun c_14 => ?_) (fun c_14 => ?_)
    · have c_14 : ¬ (two_0 = 0) := fun h9 => c_14 ((nI_eq (a := two_0) (b := 0) (by omega) (by omega)).mpr h9)
      refine lv_iconst (v := 0) hx hb dX8_does_198 (by decide) ?_
      have enn_0 : (gr) % 100 = nn_0 := Eq.symm kenn_0
      have etwo_0 : (((gr) / 100)) % 10 = two_0 := Eq.symm ketwo_0
      have exyz_0 : (gr) % 1000 = xyz_0 := Eq.symm kexyz_0
      have ep_0 : (((gr) / 1000)) % 10 = p_0 := Eq.symm kep_0
      have ew_0 : (gr) / 10000 = w_0 := Eq.symm kew_0
      have hE2 : (f_X8_does tr be cp cn gr) = (0, tr, be, cp, cn) := by
        subst enn_0
        subst etwo_0
        subst exyz_0
        subst ep_0
        subst ew_0
        exact (if_neg c_1).trans ((if_neg c_5).trans ((if_neg c_9).trans ((if_pos c_13).trans ((if_neg c_14).trans (rfl)))))
      subst hQ
      exact k_rz hx hb hr hlocks hP hD hS dX8_does_199 (by rfl) (by rw [hE2]) (by rw [hE2])
    · have c_14 : two_0 = 0 := (nI_eq (a := two_0) (b := 0) (by omega) (by omega)).mp c_14
      refine lv_aload_n hx hb dX8_does_184 rfl (lv_at hl 5 rfl) ?_
      refine lv_iload_n hx hb dX8_does_185 rfl (lv_at hl 3 rfl) ?_
      refine lv_iload hx hb dX8_does_186 (lv_at hl 0 rfl) ?_
      have hC := c_X8_nets l D g m0 sc0 rd0 nw0 tr0 di0 ke0 ik0 cp0 cn0 be0 H.size rf ss sp ig lo ac tr p_0 (nI nn_0) hT (by omega)
      obtain ⟨v_15, ev_15⟩ : ∃ z, z = (f_X8_nets tr p_0 (nI nn_0)) := ⟨_, rfl⟩
      rw [← ev_15] at hC
      have kev_15 : kEq v_15 (f_X8_nets tr p_0 (nI nn_0)) := ev_15
      clear ev_15
      refine k_ai (wr := [(be0, .inl (g 0, 748, .inl be)), (cp0, .inl (g 0, 10, .inl cp)), (cn0, .inl (g 0, 10, .inl cn))]) (w2 := [(m0, .inr (8, [.int rf, .ref sc0, .int (nI ss), .int (nI sp), .int ig, .int lo, .ref rd0, .ref nw0, .ref tr0, .ref di0, .int (nI ac), .ref ke0, .ref ik0, .ref cp0, .ref cn0, .ref be0])), (tr0, .inl (g 0, 748, .inl v_15.2)), (be0, .inl (g 0, 748, .inl be)), (cp0, .inl (g 0, 10, .inl cp)), (cn0, .inl (g 0, 10, .inl cn))]) (va_runV (As := [.int (nI p_0), .int (nI nn_0)]) (rest := []) ⟨hx, hb, hml, hown, hts⟩ hC (cwV 2 hts gX8_does_X8_nets rfl rfl rfl (by decide +kernel) (k_lvl (by omega) (by decide))) (kPV hP hD hK hS hA hE [0, 1] rfl (by decide) 0 8 rfl rfl rfl) rfl rfl hl.1 rfl (lv_room (Nat.le_of_ble_eq_true rfl)) dX8_does_188 ⟨Nat.le_of_ble_eq_true rfl, Nat.le_of_ble_eq_true rfl⟩) hP hD hS hA [0, 1] [2, 3, 4] [3, 4, 0, 1, 2] rfl rfl (by decide) (by decide) rfl (by decide) (fun H locs hP hD hS => ?_)
      refine lv_if_eq (tgt := 198) hx hb dX8_does_191 (by decide) (fun c_16 => ?_) (fun c_16 => ?_)
      · refine lv_iconst (v := 0) hx hb dX8_does_198 (by decide) ?_
        have ev_15 : (f_X8_nets tr p_0 (nI nn_0)) = v_15 := Eq.symm kev_15
        have enn_0 : (gr) % 100 = nn_0 := Eq.symm kenn_0
        have etwo_0 : (((gr) / 100)) % 10 = two_0 := Eq.symm ketwo_0
        have exyz_0 : (gr) % 1000 = xyz_0 := Eq.symm kexyz_0
        have ep_0 : (((gr) / 1000)) % 10 = p_0 := Eq.symm kep_0
        have ew_0 : (gr) / 10000 = w_0 := Eq.symm kew_0
        have hE2 : (f_X8_does tr be cp cn gr) = (0, v_15.2, be, cp, cn) := by
          subst ev_15
          subst enn_0
          subst etwo_0
          subst exyz_0
          subst ep_0
          subst ew_0
          exact (if_neg c_1).trans ((if_neg c_5).trans ((if_neg c_9).trans ((if_pos c_13).trans ((if_pos c_14).trans ((if_pos c_16).trans (rfl))))))
        subst hQ
        exact k_rz hx hb hr hlocks hP hD hS dX8_does_199 (by rfl) (by rw [hE2]) (by rw [hE2])
      · refine lv_iconst (v := 1) hx hb dX8_does_194 (by decide) ?_
        refine lv_goto (tgt := 199) hx hb dX8_does_195 (by decide) ?_
        have ev_15 : (f_X8_nets tr p_0 (nI nn_0)) = v_15 := Eq.symm kev_15
        have enn_0 : (gr) % 100 = nn_0 := Eq.symm kenn_0
        have etwo_0 : (((gr) / 100)) % 10 = two_0 := Eq.symm ketwo_0
        have exyz_0 : (gr) % 1000 = xyz_0 := Eq.symm kexyz_0
        have ep_0 : (((gr) / 1000)) % 10 = p_0 := Eq.symm kep_0
        have ew_0 : (gr) / 10000 = w_0 := Eq.symm kew_0
        have hE2 : (f_X8_does tr be cp cn gr) = (1, v_15.2, be, cp, cn) := by
          subst ev_15
          subst enn_0
          subst etwo_0
          subst exyz_0
          subst ep_0
          subst ew_0
          exact (if_neg c_1).trans ((if_neg c_5).trans ((if_neg c_9).trans ((if_pos c_13).trans ((if_pos c_14).trans ((if_neg c_16).trans (rfl))))))
        subst hQ
        exact k_rz hx hb hr hlocks hP hD hS dX8_does_199 (by rfl) (by rw [hE2]) (by rw [hE2])
  by_cases c_17 : w_0 = 5
  · refine k_tabIn (v := 5) (off := 162) (tgt := 200) hx hb dX8_does_38 (congrArg nI c_17) (by decide) (by decide) rfl (by decide) ?_
    refine lv_iload hx hb dX8_does_200 (lv_at hl 2 rfl) ?_
    refine lv_if_ne (tgt := 218) hx hb dX8_does_202 (by decide) (fun c_18 => ?_) (fun c_18 => ?_)
    · have c_18 : ¬ (xyz_0 = 0) := fun h9 => c_18 ((nI_eq (a := xyz_0) (b := 0) (by omega) (by omega)).mpr h9)
      refine lv_iconst (v := 0) hx hb dX8_does_218 (by decide) ?_
      have enn_0 : (gr) % 100 = nn_0 := Eq.symm kenn_0
      have etwo_0 : (((gr) / 100)) % 10 = two_0 := Eq.symm ketwo_0
      have exyz_0 : (gr) % 1000 = xyz_0 := Eq.symm kexyz_0
      have ep_0 : (((gr) / 1000)) % 10 = p_0 := Eq.symm kep_0
      have ew_0 : (gr) / 10000 = w_0 := Eq.symm kew_0
      have hE2 : (f_X8_does tr be cp cn gr) = (0, tr, be, cp, cn) := by
        subst enn_0
        subst etwo_0
        subst exyz_0
        subst ep_0
        subst ew_0
        exact (if_neg c_1).trans ((if_neg c_5).trans ((if_neg c_9).trans ((if_neg c_13).trans ((if_pos c_17).trans ((if_neg c_18).trans (rfl))))))
      subst hQ
      exact k_rz hx hb hr hlocks hP hD hS dX8_does_219 (by rfl) (by rw [hE2]) (by rw [hE2])
    · have c_18 : xyz_0 = 0 := (nI_eq (a := xyz_0) (b := 0) (by omega) (by omega)).mp c_18
      refine lv_aload_n hx hb dX8_does_205 rfl (lv_at hl 5 rfl) ?_
      refine lv_iconst (v := 0) hx hb dX8_does_206 (by decide) ?_
      refine lv_iload_n hx hb dX8_does_207 rfl (lv_at hl 3 rfl) ?_
      have hC := c_X8_drops l D g m0 sc0 rd0 nw0 tr0 di0 ke0 ik0 cp0 cn0 be0 H.size rf ss sp ig lo ac tr 0 p_0 hT (by omega) (by omega)
      obtain ⟨v_19, ev_19⟩ : ∃ z, z = (f_X8_drops tr 0 p_0) := ⟨_, rfl⟩
      rw [← ev_19] at hC
      have kev_19 : kEq v_19 (f_X8_drops tr 0 p_0) := ev_19
      clear ev_19
      refine k_ai (wr := [(be0, .inl (g 0, 748, .inl be)), (cp0, .inl (g 0, 10, .inl cp)), (cn0, .inl (g 0, 10, .inl cn))]) (w2 := [(m0, .inr (8, [.int rf, .ref sc0, .int (nI ss), .int (nI sp), .int ig, .int lo, .ref rd0, .ref nw0, .ref tr0, .ref di0, .int (nI ac), .ref ke0, .ref ik0, .ref cp0, .ref cn0, .ref be0])), (tr0, .inl (g 0, 748, .inl v_19.2)), (be0, .inl (g 0, 748, .inl be)), (cp0, .inl (g 0, 10, .inl cp)), (cn0, .inl (g 0, 10, .inl cn))]) (va_runV (As := [.int 0, .int (nI p_0)]) (rest := []) ⟨hx, hb, hml, hown, hts⟩ hC (cwV 2 hts gX8_does_X8_drops rfl rfl rfl (by decide +kernel) (k_lvl (by omega) (by decide))) (kPV hP hD hK hS hA hE [0, 1] rfl (by decide) 0 8 rfl rfl rfl) rfl rfl hl.1 rfl (lv_room (Nat.le_of_ble_eq_true rfl)) dX8_does_208 ⟨Nat.le_of_ble_eq_true rfl, Nat.le_of_ble_eq_true rfl⟩) hP hD hS hA [0, 1] [2, 3, 4] [3, 4, 0, 1, 2] rfl rfl (by decide) (by decide) rfl (by decide) (fun H locs hP hD hS => ?_)
      refine lv_if_eq (tgt := 218) hx hb dX8_does_211 (by decide) (fun c_20 => ?_) (fun c_20 => ?_)
      · refine lv_iconst (v := 0) hx hb dX8_does_218 (by decide) ?_
        have ev_19 : (f_X8_drops tr 0 p_0) = v_19 := Eq.symm kev_19
        have enn_0 : (gr) % 100 = nn_0 := Eq.symm kenn_0
        have etwo_0 : (((gr) / 100)) % 10 = two_0 := Eq.symm ketwo_0
        have exyz_0 : (gr) % 1000 = xyz_0 := Eq.symm kexyz_0
        have ep_0 : (((gr) / 1000)) % 10 = p_0 := Eq.symm kep_0
        have ew_0 : (gr) / 10000 = w_0 := Eq.symm kew_0
        have hE2 : (f_X8_does tr be cp cn gr) = (0, v_19.2, be, cp, cn) := by
          subst ev_19
          subst enn_0
          subst etwo_0
          subst exyz_0
          subst ep_0
          subst ew_0
          exact (if_neg c_1).trans ((if_neg c_5).trans ((if_neg c_9).trans ((if_neg c_13).trans ((if_pos c_17).trans ((if_pos c_18).trans ((if_pos c_20).trans (rfl)))))))
        subst hQ
        exact k_rz hx hb hr hlocks hP hD hS dX8_does_219 (by rfl) (by rw [hE2]) (by rw [hE2])
      · refine lv_iconst (v := 1) hx hb dX8_does_214 (by decide) ?_
        refine lv_goto (tgt := 219) hx hb dX8_does_215 (by decide) ?_
        have ev_19 : (f_X8_drops tr 0 p_0) = v_19 := Eq.symm kev_19
        have enn_0 : (gr) % 100 = nn_0 := Eq.symm kenn_0
        have etwo_0 : (((gr) / 100)) % 10 = two_0 := Eq.symm ketwo_0
        have exyz_0 : (gr) % 1000 = xyz_0 := Eq.symm kexyz_0
        have ep_0 : (((gr) / 1000)) % 10 = p_0 := Eq.symm kep_0
        have ew_0 : (gr) / 10000 = w_0 := Eq.symm kew_0
        have hE2 : (f_X8_does tr be cp cn gr) = (1, v_19.2, be, cp, cn) := by
          subst ev_19
          subst enn_0
          subst etwo_0
          subst exyz_0
          subst ep_0
          subst ew_0
          exact (if_neg c_1).trans ((if_neg c_5).trans ((if_neg c_9).trans ((if_neg c_13).trans ((if_pos c_17).trans ((if_pos c_18).trans ((if_neg c_20).trans (rfl)))))))
        subst hQ
        exact k_rz hx hb hr hlocks hP hD hS dX8_does_219 (by rfl) (by rw [hE2]) (by rw [hE2])
  by_cases c_21 : w_0 = 6
  · refine k_tabIn (v := 6) (off := 182) (tgt := 220) hx hb dX8_does_38 (congrArg nI c_21) (by decide) (by decide) rfl (by decide) ?_
    refine lv_iload hx hb dX8_does_220 (lv_at hl 0 rfl) ?_
    refine lv_if_ne (tgt := 249) hx hb dX8_does_222 (by decide) (fun c_22 => ?_) (fun c_22 => ?_)
    · have c_22 : ¬ (nn_0 = 0) := fun h9 => c_22 ((nI_eq (a := nn_0) (b := 0) (by omega) (by omega)).mpr h9)
      refine lv_iconst (v := 0) hx hb dX8_does_249 (by decide) ?_
      have enn_0 : (gr) % 100 = nn_0 := Eq.symm kenn_0
      have etwo_0 : (((gr) / 100)) % 10 = two_0 := Eq.symm ketwo_0
      have exyz_0 : (gr) % 1000 = xyz_0 := Eq.symm kexyz_0
      have ep_0 : (((gr) / 1000)) % 10 = p_0 := Eq.symm kep_0
      have ew_0 : (gr) / 10000 = w_0 := Eq.symm kew_0
      have hE2 : (f_X8_does tr be cp cn gr) = (0, tr, be, cp, cn) := by
        subst enn_0
        subst etwo_0
        subst exyz_0
        subst ep_0
        subst ew_0
        exact (if_neg c_1).trans ((if_neg c_5).trans ((if_neg c_9).trans ((if_neg c_13).trans ((if_neg c_17).trans ((if_pos c_21).trans ((if_neg c_22).trans (rfl)))))))
      subst hQ
      exact k_rz hx hb hr hlocks hP hD hS dX8_does_250 (by rfl) (by rw [hE2]) (by rw [hE2])
    · have c_22 : nn_0 = 0 := (nI_eq (a := nn_0) (b := 0) (by omega) (by omega)).mp c_22
      refine lv_aload_n hx hb dX8_does_225 rfl (lv_at hl 5 rfl) ?_
      refine lv_iload_n hx hb dX8_does_226 rfl (lv_at hl 3 rfl) ?_
      refine k_ai (wr := [(be0, .inl (g 0, 748, .inl be)), (cp0, .inl (g 0, 10, .inl cp)), (cn0, .inl (g 0, 10, .inl cn))]) (w2 := [(m0, .inr (8, [.int rf, .ref sc0, .int (nI ss), .int (nI sp), .int ig, .int lo, .ref rd0, .ref nw0, .ref tr0, .ref di0, .int (nI ac), .ref ke0, .ref ik0, .ref cp0, .ref cn0, .ref be0])), (tr0, .inl (g 0, 748, .inl tr)), (be0, .inl (g 0, 748, .inl be)), (cp0, .inl (g 0, 10, .inl cp)), (cn0, .inl (g 0, 10, .inl cn))]) (va_runV (As := [.int (nI p_0)]) (rest := []) ⟨hx, hb, hml, hown, hts⟩ (c_X8_isTrial l D g m0 sc0 rd0 nw0 tr0 di0 ke0 ik0 cp0 cn0 be0 H.size rf ss sp ig lo ac tr p_0 hT (by omega)) (cwV 1 hts gX8_does_X8_isTrial rfl rfl rfl (by decide +kernel) (k_lvl (by omega) (by decide))) (kPV hP hD hK hS hA hE [0, 1] rfl (by decide) 0 8 rfl rfl rfl) rfl rfl hl.1 rfl (lv_room (Nat.le_of_ble_eq_true rfl)) dX8_does_227 ⟨Nat.le_of_ble_eq_true rfl, Nat.le_of_ble_eq_true rfl⟩) hP hD hS hA [0, 1] [2, 3, 4] [3, 4, 0, 1, 2] rfl rfl (by decide) (by decide) rfl (by decide) (fun H locs hP hD hS => ?_)
      refine lv_if_eq (tgt := 249) hx hb dX8_does_230 (by decide) (fun c_23 => ?_) (fun c_23 => ?_)
      · refine lv_iconst (v := 0) hx hb dX8_does_249 (by decide) ?_
        have enn_0 : (gr) % 100 = nn_0 := Eq.symm kenn_0
        have etwo_0 : (((gr) / 100)) % 10 = two_0 := Eq.symm ketwo_0
        have exyz_0 : (gr) % 1000 = xyz_0 := Eq.symm kexyz_0
        have ep_0 : (((gr) / 1000)) % 10 = p_0 := Eq.symm kep_0
        have ew_0 : (gr) / 10000 = w_0 := Eq.symm kew_0
        have hE2 : (f_X8_does tr be cp cn gr) = (0, tr, be, cp, cn) := by
          subst enn_0
          subst etwo_0
          subst exyz_0
          subst ep_0
          subst ew_0
          exact (if_neg c_1).trans ((if_neg c_5).trans ((if_neg c_9).trans ((if_neg c_13).trans ((if_neg c_17).trans ((if_pos c_21).trans ((if_pos c_22).trans ((if_pos c_23).trans (rfl))))))))
        subst hQ
        exact k_rz hx hb hr hlocks hP hD hS dX8_does_250 (by rfl) (by rw [hE2]) (by rw [hE2])
      · refine lv_aload_n hx hb dX8_does_233 rfl (lv_at hl 5 rfl) ?_
        refine lv_iconst (v := 2) hx hb dX8_does_234 (by decide) ?_
        refine lv_iload_n hx hb dX8_does_235 rfl (lv_at hl 3 rfl) ?_
        refine lv_iadd hx hb dX8_does_236 ?_
        refine k_top (y := (nI (2 + p_0))) (nI_add 2 p_0) ?_
        refine lv_iload hx hb dX8_does_237 (lv_at hl 1 rfl) ?_
        have hC := c_X8_drops l D g m0 sc0 rd0 nw0 tr0 di0 ke0 ik0 cp0 cn0 be0 H.size rf ss sp ig lo ac tr (2 + p_0) two_0 hT (by omega) (by omega)
        obtain ⟨v_24, ev_24⟩ : ∃ z, z = (f_X8_drops tr (2 + p_0) two_0) := ⟨_, rfl⟩
        rw [← ev_24] at hC
        have kev_24 : kEq v_24 (f_X8_drops tr (2 + p_0) two_0) := ev_24
        clear ev_24
        refine k_ai (wr := [(be0, .inl (g 0, 748, .inl be)), (cp0, .inl (g 0, 10, .inl cp)), (cn0, .inl (g 0, 10, .inl cn))]) (w2 := [(m0, .inr (8, [.int rf, .ref sc0, .int (nI ss), .int (nI sp), .int ig, .int lo, .ref rd0, .ref nw0, .ref tr0, .ref di0, .int (nI ac), .ref ke0, .ref ik0, .ref cp0, .ref cn0, .ref be0])), (tr0, .inl (g 0, 748, .inl v_24.2)), (be0, .inl (g 0, 748, .inl be)), (cp0, .inl (g 0, 10, .inl cp)), (cn0, .inl (g 0, 10, .inl cn))]) (va_runV (As := [.int (nI (2 + p_0)), .int (nI two_0)]) (rest := []) ⟨hx, hb, hml, hown, hts⟩ hC (cwV 2 hts gX8_does_X8_drops rfl rfl rfl (by decide +kernel) (k_lvl (by omega) (by decide))) (kPV hP hD hK hS hA hE [0, 1] rfl (by decide) 0 8 rfl rfl rfl) rfl rfl hl.1 rfl (lv_room (Nat.le_of_ble_eq_true rfl)) dX8_does_239 ⟨Nat.le_of_ble_eq_true rfl, Nat.le_of_ble_eq_true rfl⟩) hP hD hS hA [0, 1] [2, 3, 4] [3, 4, 0, 1, 2] rfl rfl (by decide) (by decide) rfl (by decide) (fun H locs hP hD hS => ?_)
        refine lv_if_eq (tgt := 249) hx hb dX8_does_242 (by decide) (fun c_25 => ?_) (fun c_25 => ?_)
        · refine lv_iconst (v := 0) hx hb dX8_does_249 (by decide) ?_
          have ev_24 : (f_X8_drops tr (2 + p_0) two_0) = v_24 := Eq.symm kev_24
          have enn_0 : (gr) % 100 = nn_0 := Eq.symm kenn_0
          have etwo_0 : (((gr) / 100)) % 10 = two_0 := Eq.symm ketwo_0
          have exyz_0 : (gr) % 1000 = xyz_0 := Eq.symm kexyz_0
          have ep_0 : (((gr) / 1000)) % 10 = p_0 := Eq.symm kep_0
          have ew_0 : (gr) / 10000 = w_0 := Eq.symm kew_0
          have hE2 : (f_X8_does tr be cp cn gr) = (0, v_24.2, be, cp, cn) := by
            subst ev_24
            subst enn_0
            subst etwo_0
            subst exyz_0
            subst ep_0
            subst ew_0
            exact (if_neg c_1).trans ((if_neg c_5).trans ((if_neg c_9).trans ((if_neg c_13).trans ((if_neg c_17).trans ((if_pos c_21).trans ((if_pos c_22).trans ((if_neg c_23).trans ((if_pos c_25).trans (rfl)))))))))
          subst hQ
          exact k_rz hx hb hr hlocks hP hD hS dX8_does_250 (by rfl) (by rw [hE2]) (by rw [hE2])
        · refine lv_iconst (v := 1) hx hb dX8_does_245 (by decide) ?_
          refine lv_goto (tgt := 250) hx hb dX8_does_246 (by decide) ?_
          have ev_24 : (f_X8_drops tr (2 + p_0) two_0) = v_24 := Eq.symm kev_24
          have enn_0 : (gr) % 100 = nn_0 := Eq.symm kenn_0
          have etwo_0 : (((gr) / 100)) % 10 = two_0 := Eq.symm ketwo_0
          have exyz_0 : (gr) % 1000 = xyz_0 := Eq.symm kexyz_0
          have ep_0 : (((gr) / 1000)) % 10 = p_0 := Eq.symm kep_0
          have ew_0 : (gr) / 10000 = w_0 := Eq.symm kew_0
          have hE2 : (f_X8_does tr be cp cn gr) = (1, v_24.2, be, cp, cn) := by
            subst ev_24
            subst enn_0
            subst etwo_0
            subst exyz_0
            subst ep_0
            subst ew_0
            exact (if_neg c_1).trans ((if_neg c_5).trans ((if_neg c_9).trans ((if_neg c_13).trans ((if_neg c_17).trans ((if_pos c_21).trans ((if_pos c_22).trans ((if_neg c_23).trans ((if_neg c_25).trans (rfl)))))))))
          subst hQ
          exact k_rz hx hb hr hlocks hP hD hS dX8_does_250 (by rfl) (by rw [hE2]) (by rw [hE2])
  by_cases c_26 : w_0 = 7
  · refine k_tabIn (v := 7) (off := 213) (tgt := 251) hx hb dX8_does_38 (congrArg nI c_26) (by decide) (by decide) rfl (by decide) ?_
    refine lv_iload hx hb dX8_does_251 (lv_at hl 1 rfl) ?_
    refine lv_if_ne (tgt := 284) hx hb dX8_does_253 (by decide) (fun c_27 => ?_) (fun c_27 => ?_)
    · have c_27 : ¬ (two_0 = 0) := fun h9 => c_27 ((nI_eq (a := two_0) (b := 0) (by omega) (by omega)).mpr h9)
      refine lv_iconst (v := 0) hx hb dX8_does_284 (by decide) ?_
      have enn_0 : (gr) % 100 = nn_0 := Eq.symm kenn_0
      have etwo_0 : (((gr) / 100)) % 10 = two_0 := Eq.symm ketwo_0
      have exyz_0 : (gr) % 1000 = xyz_0 := Eq.symm kexyz_0
      have ep_0 : (((gr) / 1000)) % 10 = p_0 := Eq.symm kep_0
      have ew_0 : (gr) / 10000 = w_0 := Eq.symm kew_0
      have hE2 : (f_X8_does tr be cp cn gr) = (0, tr, be, cp, cn) := by
        subst enn_0
        subst etwo_0
        subst exyz_0
        subst ep_0
        subst ew_0
        exact (if_neg c_1).trans ((if_neg c_5).trans ((if_neg c_9).trans ((if_neg c_13).trans ((if_neg c_17).trans ((if_neg c_21).trans ((if_pos c_26).trans ((if_neg c_27).trans (rfl))))))))
      subst hQ
      exact k_rz hx hb hr hlocks hP hD hS dX8_does_285 (by rfl) (by rw [hE2]) (by rw [hE2])
    · have c_27 : two_0 = 0 := (nI_eq (a := two_0) (b := 0) (by omega) (by omega)).mp c_27
      refine lv_aload_n hx hb dX8_does_256 rfl (lv_at hl 5 rfl) ?_
      refine lv_iload_n hx hb dX8_does_257 rfl (lv_at hl 3 rfl) ?_
      refine k_ai (wr := [(be0, .inl (g 0, 748, .inl be)), (cp0, .inl (g 0, 10, .inl cp)), (cn0, .inl (g 0, 10, .inl cn))]) (w2 := [(m0, .inr (8, [.int rf, .ref sc0, .int (nI ss), .int (nI sp), .int ig, .int lo, .ref rd0, .ref nw0, .ref tr0, .ref di0, .int (nI ac), .ref ke0, .ref ik0, .ref cp0, .ref cn0, .ref be0])), (tr0, .inl (g 0, 748, .inl tr)), (be0, .inl (g 0, 748, .inl be)), (cp0, .inl (g 0, 10, .inl cp)), (cn0, .inl (g 0, 10, .inl cn))]) (va_runV (As := [.int (nI p_0)]) (rest := []) ⟨hx, hb, hml, hown, hts⟩ (c_X8_isTrial l D g m0 sc0 rd0 nw0 tr0 di0 ke0 ik0 cp0 cn0 be0 H.size rf ss sp ig lo ac tr p_0 hT (by omega)) (cwV 1 hts gX8_does_X8_isTrial rfl rfl rfl (by decide +kernel) (k_lvl (by omega) (by decide))) (kPV hP hD hK hS hA hE [0, 1] rfl (by decide) 0 8 rfl rfl rfl) rfl rfl hl.1 rfl (lv_room (Nat.le_of_ble_eq_true rfl)) dX8_does_258 ⟨Nat.le_of_ble_eq_true rfl, Nat.le_of_ble_eq_true rfl⟩) hP hD hS hA [0, 1] [2, 3, 4] [3, 4, 0, 1, 2] rfl rfl (by decide) (by decide) rfl (by decide) (fun H locs hP hD hS => ?_)
      refine lv_if_eq (tgt := 284) hx hb dX8_does_261 (by decide) (fun c_28 => ?_) (fun c_28 => ?_)
      · refine lv_iconst (v := 0) hx hb dX8_does_284 (by decide) ?_
        have enn_0 : (gr) % 100 = nn_0 := Eq.symm kenn_0
        have etwo_0 : (((gr) / 100)) % 10 = two_0 := Eq.symm ketwo_0
        have exyz_0 : (gr) % 1000 = xyz_0 := Eq.symm kexyz_0
        have ep_0 : (((gr) / 1000)) % 10 = p_0 := Eq.symm kep_0
        have ew_0 : (gr) / 10000 = w_0 := Eq.symm kew_0
        have hE2 : (f_X8_does tr be cp cn gr) = (0, tr, be, cp, cn) := by
          subst enn_0
          subst etwo_0
          subst exyz_0
          subst ep_0
          subst ew_0
          exact (if_neg c_1).trans ((if_neg c_5).trans ((if_neg c_9).trans ((if_neg c_13).trans ((if_neg c_17).trans ((if_neg c_21).trans ((if_pos c_26).trans ((if_pos c_27).trans ((if_pos c_28).trans (rfl)))))))))
        subst hQ
        exact k_rz hx hb hr hlocks hP hD hS dX8_does_285 (by rfl) (by rw [hE2]) (by rw [hE2])
      · refine lv_aload_n hx hb dX8_does_264 rfl (lv_at hl 5 rfl) ?_
        refine va_get (D := D) (ci := 8) (v := .ref tr0) (C := RX8) (T := TX8) (N := 16) hx hb hts (fun w h => (List.mem_cons_of_mem _ (List.mem_append_right _ h))) hown hK hP 0 rfl rfl 8 (by decide) (hts _ qX8_does_0) (fun _ h9 => h9) rfl dX8_does_265 ?_
        refine lv_iload_n hx hb dX8_does_268 rfl (lv_at hl 3 rfl) ?_
        refine lv_bipush (v := 6) hx hb dX8_does_269 (by decide) ?_
        refine k_ai (wr := [(m0, .inr (8, [.int rf, .ref sc0, .int (nI ss), .int (nI sp), .int ig, .int lo, .ref rd0, .ref nw0, .ref tr0, .ref di0, .int (nI ac), .ref ke0, .ref ik0, .ref cp0, .ref cn0, .ref be0])), (tr0, .inl (g 0, 748, .inl tr)), (be0, .inl (g 0, 748, .inl be)), (cp0, .inl (g 0, 10, .inl cp)), (cn0, .inl (g 0, 10, .inl cn))]) (w2 := [(m0, .inr (8, [.int rf, .ref sc0, .int (nI ss), .int (nI sp), .int ig, .int lo, .ref rd0, .ref nw0, .ref tr0, .ref di0, .int (nI ac), .ref ke0, .ref ik0, .ref cp0, .ref cn0, .ref be0])), (tr0, .inl (g 0, 748, .inl tr)), (be0, .inl (g 0, 748, .inl be)), (cp0, .inl (g 0, 10, .inl cp)), (cn0, .inl (g 0, 10, .inl cn))]) (va_runS (As := [.int (nI p_0), .int 6]) (rest := [.ref tr0]) ⟨hx, hb, hml, hown, hts⟩ (c_X8_partAt l D g H.size p_0 6) (va_cwS 2 hts gX8_does_X8_partAt rfl rfl rfl (by decide +kernel) (k_lvl (by omega) (by decide))) (kPS hP hD hK hS hA hE [] rfl (by decide)) rfl rfl hl.1 rfl (lv_room (Nat.le_of_ble_eq_true rfl)) dX8_does_271 ⟨Nat.le_of_ble_eq_true rfl, Nat.le_of_ble_eq_true rfl⟩) hP hD hS hA [] [0, 1, 2, 3, 4] [0, 1, 2, 3, 4] rfl rfl (by decide) (by decide) rfl (by decide) (fun H locs hP hD hS => ?_)
        refine va_iald (i := (nI (1 + 8 * p_0 + 6))) hx hb hK hP 1 0 rfl rfl (vp_in_nI (n := (1 + 8 * p_0 + 6)) (by omega) (by omega)) dX8_does_274 ?_
        refine k_top (y := (tr (1 + 8 * p_0 + 6))) (by rw [nI_clamp (by omega)]) ?_
        refine lv_iload hx hb dX8_does_275 (lv_at hl 0 rfl) ?_
        refine lv_icmp_gt (tgt := 284) hx hb dX8_does_277 (by decide) (fun c_29 => ?_) (fun c_29 => ?_)
        · refine lv_iconst (v := 0) hx hb dX8_does_284 (by decide) ?_
          have enn_0 : (gr) % 100 = nn_0 := Eq.symm kenn_0
          have etwo_0 : (((gr) / 100)) % 10 = two_0 := Eq.symm ketwo_0
          have exyz_0 : (gr) % 1000 = xyz_0 := Eq.symm kexyz_0
          have ep_0 : (((gr) / 1000)) % 10 = p_0 := Eq.symm kep_0
          have ew_0 : (gr) / 10000 = w_0 := Eq.symm kew_0
          have hE2 : (f_X8_does tr be cp cn gr) = (0, tr, be, cp, cn) := by
            subst enn_0
            subst etwo_0
            subst exyz_0
            subst ep_0
            subst ew_0
            exact (if_neg c_1).trans ((if_neg c_5).trans ((if_neg c_9).trans ((if_neg c_13).trans ((if_neg c_17).trans ((if_neg c_21).trans ((if_pos c_26).trans ((if_pos c_27).trans ((if_neg c_28).trans ((if_pos c_29).trans (rfl))))))))))
          subst hQ
          exact k_rz hx hb hr hlocks hP hD hS dX8_does_285 (by rfl) (by rw [hE2]) (by rw [hE2])
        · refine lv_iconst (v := 1) hx hb dX8_does_280 (by decide) ?_
          refine lv_goto (tgt := 285) hx hb dX8_does_281 (by decide) ?_
          have enn_0 : (gr) % 100 = nn_0 := Eq.symm kenn_0
          have etwo_0 : (((gr) / 100)) % 10 = two_0 := Eq.symm ketwo_0
          have exyz_0 : (gr) % 1000 = xyz_0 := Eq.symm kexyz_0
          have ep_0 : (((gr) / 1000)) % 10 = p_0 := Eq.symm kep_0
          have ew_0 : (gr) / 10000 = w_0 := Eq.symm kew_0
          have hE2 : (f_X8_does tr be cp cn gr) = (1, tr, be, cp, cn) := by
            subst enn_0
            subst etwo_0
            subst exyz_0
            subst ep_0
            subst ew_0
            exact (if_neg c_1).trans ((if_neg c_5).trans ((if_neg c_9).trans ((if_neg c_13).trans ((if_neg c_17).trans ((if_neg c_21).trans ((if_pos c_26).trans ((if_pos c_27).trans ((if_neg c_28).trans ((if_neg c_29).trans (rfl))))))))))
          subst hQ
          exact k_rz hx hb hr hlocks hP hD hS dX8_does_285 (by rfl) (by rw [hE2]) (by rw [hE2])
  by_cases c_30 : w_0 = 8
  · refine k_tabIn (v := 8) (off := 248) (tgt := 286) hx hb dX8_does_38 (congrArg nI c_30) (by decide) (by decide) rfl (by decide) ?_
    refine lv_iload_n hx hb dX8_does_286 rfl (lv_at hl 3 rfl) ?_
    refine lv_if_ne (tgt := 312) hx hb dX8_does_287 (by decide) (fun c_31 => ?_) (fun c_31 => ?_)
    · have c_31 : ¬ (p_0 = 0) := fun h9 => c_31 ((nI_eq (a := p_0) (b := 0) (by omega) (by omega)).mpr h9)
      refine lv_iconst (v := 0) hx hb dX8_does_312 (by decide) ?_
      have enn_0 : (gr) % 100 = nn_0 := Eq.symm kenn_0
      have etwo_0 : (((gr) / 100)) % 10 = two_0 := Eq.symm ketwo_0
      have exyz_0 : (gr) % 1000 = xyz_0 := Eq.symm kexyz_0
      have ep_0 : (((gr) / 1000)) % 10 = p_0 := Eq.symm kep_0
      have ew_0 : (gr) / 10000 = w_0 := Eq.symm kew_0
      have hE2 : (f_X8_does tr be cp cn gr) = (0, tr, be, cp, cn) := by
        subst enn_0
        subst etwo_0
        subst exyz_0
        subst ep_0
        subst ew_0
        exact (if_neg c_1).trans ((if_neg c_5).trans ((if_neg c_9).trans ((if_neg c_13).trans ((if_neg c_17).trans ((if_neg c_21).trans ((if_neg c_26).trans ((if_pos c_30).trans ((if_neg c_31).trans (rfl)))))))))
      subst hQ
      exact k_rz hx hb hr hlocks hP hD hS dX8_does_313 (by rfl) (by rw [hE2]) (by rw [hE2])
    · have c_31 : p_0 = 0 := (nI_eq (a := p_0) (b := 0) (by omega) (by omega)).mp c_31
      refine lv_iload hx hb dX8_does_290 (lv_at hl 1 rfl) ?_
      refine lv_if_ne (tgt := 312) hx hb dX8_does_292 (by decide) (fun c_32 => ?_) (fun c_32 => ?_)
      · have c_32 : ¬ (two_0 = 0) := fun h9 => c_32 ((nI_eq (a := two_0) (b := 0) (by omega) (by omega)).mpr h9)
        refine lv_iconst (v := 0) hx hb dX8_does_312 (by decide) ?_
        have enn_0 : (gr) % 100 = nn_0 := Eq.symm kenn_0
        have etwo_0 : (((gr) / 100)) % 10 = two_0 := Eq.symm ketwo_0
        have exyz_0 : (gr) % 1000 = xyz_0 := Eq.symm kexyz_0
        have ep_0 : (((gr) / 1000)) % 10 = p_0 := Eq.symm kep_0
        have ew_0 : (gr) / 10000 = w_0 := Eq.symm kew_0
        have hE2 : (f_X8_does tr be cp cn gr) = (0, tr, be, cp, cn) := by
          subst enn_0
          subst etwo_0
          subst exyz_0
          subst ep_0
          subst ew_0
          exact (if_neg c_1).trans ((if_neg c_5).trans ((if_neg c_9).trans ((if_neg c_13).trans ((if_neg c_17).trans ((if_neg c_21).trans ((if_neg c_26).trans ((if_pos c_30).trans ((if_pos c_31).trans ((if_neg c_32).trans (rfl))))))))))
        subst hQ
        exact k_rz hx hb hr hlocks hP hD hS dX8_does_313 (by rfl) (by rw [hE2]) (by rw [hE2])
      · have c_32 : two_0 = 0 := (nI_eq (a := two_0) (b := 0) (by omega) (by omega)).mp c_32
        refine lv_aload_n hx hb dX8_does_295 rfl (lv_at hl 5 rfl) ?_
        refine va_get (D := D) (ci := 8) (v := .ref tr0) (C := RX8) (T := TX8) (N := 16) hx hb hts (fun w h => (List.mem_cons_of_mem _ (List.mem_append_right _ h))) hown hK hP 0 rfl rfl 8 (by decide) (hts _ qX8_does_0) (fun _ h9 => h9) rfl dX8_does_296 ?_
        refine lv_sipush (v := 683) hx hb dX8_does_299 (by decide) ?_
        refine va_iald (i := 683) hx hb hK hP 1 0 rfl rfl (vp_in_nI (n := 683) (by decide) (by decide)) dX8_does_302 ?_
        refine k_top (y := (tr 683)) rfl ?_
        refine lv_iload hx hb dX8_does_303 (lv_at hl 0 rfl) ?_
        refine lv_icmp_gt (tgt := 312) hx hb dX8_does_305 (by decide) (fun c_33 => ?_) (fun c_33 => ?_)
        · refine lv_iconst (v := 0) hx hb dX8_does_312 (by decide) ?_
          have enn_0 : (gr) % 100 = nn_0 := Eq.symm kenn_0
          have etwo_0 : (((gr) / 100)) % 10 = two_0 := Eq.symm ketwo_0
          have exyz_0 : (gr) % 1000 = xyz_0 := Eq.symm kexyz_0
          have ep_0 : (((gr) / 1000)) % 10 = p_0 := Eq.symm kep_0
          have ew_0 : (gr) / 10000 = w_0 := Eq.symm kew_0
          have hE2 : (f_X8_does tr be cp cn gr) = (0, tr, be, cp, cn) := by
            subst enn_0
            subst etwo_0
            subst exyz_0
            subst ep_0
            subst ew_0
            exact (if_neg c_1).trans ((if_neg c_5).trans ((if_neg c_9).trans ((if_neg c_13).trans ((if_neg c_17).trans ((if_neg c_21).trans ((if_neg c_26).trans ((if_pos c_30).trans ((if_pos c_31).trans ((if_pos c_32).trans ((if_pos c_33).trans (rfl)))))))))))
          subst hQ
          exact k_rz hx hb hr hlocks hP hD hS dX8_does_313 (by rfl) (by rw [hE2]) (by rw [hE2])
        · refine lv_iconst (v := 1) hx hb dX8_does_308 (by decide) ?_
          refine lv_goto (tgt := 313) hx hb dX8_does_309 (by decide) ?_
          have enn_0 : (gr) % 100 = nn_0 := Eq.symm kenn_0
          have etwo_0 : (((gr) / 100)) % 10 = two_0 := Eq.symm ketwo_0
          have exyz_0 : (gr) % 1000 = xyz_0 := Eq.symm kexyz_0
          have ep_0 : (((gr) / 1000)) % 10 = p_0 := Eq.symm kep_0
          have ew_0 : (gr) / 10000 = w_0 := Eq.symm kew_0
          have hE2 : (f_X8_does tr be cp cn gr) = (1, tr, be, cp, cn) := by
            subst enn_0
            subst etwo_0
            subst exyz_0
            subst ep_0
            subst ew_0
            exact (if_neg c_1).trans ((if_neg c_5).trans ((if_neg c_9).trans ((if_neg c_13).trans ((if_neg c_17).trans ((if_neg c_21).trans ((if_neg c_26).trans ((if_pos c_30).trans ((if_pos c_31).trans ((if_pos c_32).trans ((if_neg c_33).trans (rfl)))))))))))
          subst hQ
          exact k_rz hx hb hr hlocks hP hD hS dX8_does_313 (by rfl) (by rw [hE2]) (by rw [hE2])
  by_cases c_34 : w_0 = 9
  · refine k_tabIn (v := 9) (off := 276) (tgt := 314) hx hb dX8_does_38 (congrArg nI c_34) (by decide) (by decide) rfl (by decide) ?_
    refine lv_aload_n hx hb dX8_does_314 rfl (lv_at hl 5 rfl) ?_
    refine lv_iload_n hx hb dX8_does_315 rfl (lv_at hl 3 rfl) ?_
    refine k_ai (wr := [(be0, .inl (g 0, 748, .inl be)), (cp0, .inl (g 0, 10, .inl cp)), (cn0, .inl (g 0, 10, .inl cn))]) (w2 := [(m0, .inr (8, [.int rf, .ref sc0, .int (nI ss), .int (nI sp), .int ig, .int lo, .ref rd0, .ref nw0, .ref tr0, .ref di0, .int (nI ac), .ref ke0, .ref ik0, .ref cp0, .ref cn0, .ref be0])), (tr0, .inl (g 0, 748, .inl tr)), (be0, .inl (g 0, 748, .inl be)), (cp0, .inl (g 0, 10, .inl cp)), (cn0, .inl (g 0, 10, .inl cn))]) (va_runV (As := [.int (nI p_0)]) (rest := []) ⟨hx, hb, hml, hown, hts⟩ (c_X8_isTrial l D g m0 sc0 rd0 nw0 tr0 di0 ke0 ik0 cp0 cn0 be0 H.size rf ss sp ig lo ac tr p_0 hT (by omega)) (cwV 1 hts gX8_does_X8_isTrial rfl rfl rfl (by decide +kernel) (k_lvl (by omega) (by decide))) (kPV hP hD hK hS hA hE [0, 1] rfl (by decide) 0 8 rfl rfl rfl) rfl rfl hl.1 rfl (lv_room (Nat.le_of_ble_eq_true rfl)) dX8_does_316 ⟨Nat.le_of_ble_eq_true rfl, Nat.le_of_ble_eq_true rfl⟩) hP hD hS hA [0, 1] [2, 3, 4] [3, 4, 0, 1, 2] rfl rfl (by decide) (by decide) rfl (by decide) (fun H locs hP hD hS => ?_)
    refine lv_if_eq (tgt := 341) hx hb dX8_does_319 (by decide) (fun c_35 => ?_) (fun c_35 => ?_)
    · refine lv_iconst (v := 0) hx hb dX8_does_341 (by decide) ?_
      have enn_0 : (gr) % 100 = nn_0 := Eq.symm kenn_0
      have etwo_0 : (((gr) / 100)) % 10 = two_0 := Eq.symm ketwo_0
      have exyz_0 : (gr) % 1000 = xyz_0 := Eq.symm kexyz_0
      have ep_0 : (((gr) / 1000)) % 10 = p_0 := Eq.symm kep_0
      have ew_0 : (gr) / 10000 = w_0 := Eq.symm kew_0
      have hE2 : (f_X8_does tr be cp cn gr) = (0, tr, be, cp, cn) := by
        subst enn_0
        subst etwo_0
        subst exyz_0
        subst ep_0
        subst ew_0
        exact (if_neg c_1).trans ((if_neg c_5).trans ((if_neg c_9).trans ((if_neg c_13).trans ((if_neg c_17).trans ((if_neg c_21).trans ((if_neg c_26).trans ((if_neg c_30).trans ((if_pos c_34).trans ((if_pos c_35).trans (rfl))))))))))
      subst hQ
      exact k_rz hx hb hr hlocks hP hD hS dX8_does_342 (by rfl) (by rw [hE2]) (by rw [hE2])
    · refine lv_aload_n hx hb dX8_does_322 rfl (lv_at hl 5 rfl) ?_
      refine lv_iload_n hx hb dX8_does_323 rfl (lv_at hl 3 rfl) ?_
      refine lv_iconst (v := 0) hx hb dX8_does_324 (by decide) ?_
      have hC := c_X8_asked l D g m0 sc0 rd0 nw0 tr0 di0 ke0 ik0 cp0 cn0 be0 H.size rf ss sp ig lo ac tr be cp cn p_0 0 hT (by omega)
      obtain ⟨v_36, ev_36⟩ : ∃ z, z = (f_X8_asked tr cp cn p_0 0) := ⟨_, rfl⟩
      rw [← ev_36] at hC
      have kev_36 : kEq v_36 (f_X8_asked tr cp cn p_0 0) := ev_36
      clear ev_36
      refine k_ai (wr := []) (w2 := [(m0, .inr (8, [.int rf, .ref sc0, .int (nI ss), .int (nI sp), .int ig, .int lo, .ref rd0, .ref nw0, .ref tr0, .ref di0, .int (nI ac), .ref ke0, .ref ik0, .ref cp0, .ref cn0, .ref be0])), (tr0, .inl (g 0, 748, .inl tr)), (be0, .inl (g 0, 748, .inl tr)), (cp0, .inl (g 0, 10, .inl v_36.2.1)), (cn0, .inl (g 0, 10, .inl v_36.2.2))]) (va_runV (As := [.int (nI p_0), .int 0]) (rest := []) ⟨hx, hb, hml, hown, hts⟩ hC (cwV 2 hts gX8_does_X8_asked rfl rfl rfl (by decide +kernel) (k_lvl (by omega) (by decide))) (kPV hP hD hK hS hA hE [0, 1, 2, 3, 4] rfl (by decide) 0 8 rfl rfl rfl) rfl rfl hl.1 rfl (lv_room (Nat.le_of_ble_eq_true rfl)) dX8_does_325 ⟨Nat.le_of_ble_eq_true rfl, Nat.le_of_ble_eq_true rfl⟩) hP hD hS hA [0, 1, 2, 3, 4] [] [0, 1, 2, 3, 4] rfl rfl (by decide) (by decide) rfl (by decide) (fun H locs hP hD hS => ?_)
      refine lv_iload hx hb dX8_does_328 (lv_at hl 2 rfl) ?_
      refine lv_sipush (v := 500) hx hb dX8_does_330 (by decide) ?_
      refine lv_isub hx hb dX8_does_333 ?_
      refine lv_icmp_ne (tgt := 341) hx hb dX8_does_334 (by decide) (fun c_37 => ?_) (fun c_37 => ?_)
      · refine lv_iconst (v := 0) hx hb dX8_does_341 (by decide) ?_
        have ev_36 : (f_X8_asked tr cp cn p_0 0) = v_36 := Eq.symm kev_36
        have enn_0 : (gr) % 100 = nn_0 := Eq.symm kenn_0
        have etwo_0 : (((gr) / 100)) % 10 = two_0 := Eq.symm ketwo_0
        have exyz_0 : (gr) % 1000 = xyz_0 := Eq.symm kexyz_0
        have ep_0 : (((gr) / 1000)) % 10 = p_0 := Eq.symm kep_0
        have ew_0 : (gr) / 10000 = w_0 := Eq.symm kew_0
        have hE2 : (f_X8_does tr be cp cn gr) = (0, tr, tr, v_36.2.1, v_36.2.2) := by
          subst ev_36
          subst enn_0
          subst etwo_0
          subst exyz_0
          subst ep_0
          subst ew_0
          exact (if_neg c_1).trans ((if_neg c_5).trans ((if_neg c_9).trans ((if_neg c_13).trans ((if_neg c_17).trans ((if_neg c_21).trans ((if_neg c_26).trans ((if_neg c_30).trans ((if_pos c_34).trans ((if_neg c_35).trans ((if_neg c_37).trans (rfl)))))))))))
        subst hQ
        exact k_rz hx hb hr hlocks hP hD hS dX8_does_342 (by rfl) (by rw [hE2]) (by rw [hE2])
      · refine lv_iconst (v := 1) hx hb dX8_does_337 (by decide) ?_
        refine lv_goto (tgt := 342) hx hb dX8_does_338 (by decide) ?_
        have ev_36 : (f_X8_asked tr cp cn p_0 0) = v_36 := Eq.symm kev_36
        have enn_0 : (gr) % 100 = nn_0 := Eq.symm kenn_0
        have etwo_0 : (((gr) / 100)) % 10 = two_0 := Eq.symm ketwo_0
        have exyz_0 : (gr) % 1000 = xyz_0 := Eq.symm kexyz_0
        have ep_0 : (((gr) / 1000)) % 10 = p_0 := Eq.symm kep_0
        have ew_0 : (gr) / 10000 = w_0 := Eq.symm kew_0
        have hE2 : (f_X8_does tr be cp cn gr) = (1, tr, tr, v_36.2.1, v_36.2.2) := by
          subst ev_36
          subst enn_0
          subst etwo_0
          subst exyz_0
          subst ep_0
          subst ew_0
          exact (if_neg c_1).trans ((if_neg c_5).trans ((if_neg c_9).trans ((if_neg c_13).trans ((if_neg c_17).trans ((if_neg c_21).trans ((if_neg c_26).trans ((if_neg c_30).trans ((if_pos c_34).trans ((if_neg c_35).trans ((if_pos c_37).trans (rfl)))))))))))
        subst hQ
        exact k_rz hx hb hr hlocks hP hD hS dX8_does_342 (by rfl) (by rw [hE2]) (by rw [hE2])
  refine k_tabDef (tgt := 343) hx hb dX8_does_38 ?_ (by decide) ?_
  · intro v h1 h2 q
    rcases k_rng h1 with h3 | h1
    · subst h3; exact (c_1 ((nI_eq (by omega) (by omega)).mp (k_ti (k := nI 1) (by decide) q))).elim
    rcases k_rng h1 with h3 | h1
    · subst h3; exact (c_5 ((nI_eq (by omega) (by omega)).mp (k_ti (k := nI 2) (by decide) q))).elim
    rcases k_rng h1 with h3 | h1
    · subst h3; exact (c_9 ((nI_eq (by omega) (by omega)).mp (k_ti (k := nI 3) (by decide) q))).elim
    rcases k_rng h1 with h3 | h1
    · subst h3; exact (c_13 ((nI_eq (by omega) (by omega)).mp (k_ti (k := nI 4) (by decide) q))).elim
    rcases k_rng h1 with h3 | h1
    · subst h3; exact (c_17 ((nI_eq (by omega) (by omega)).mp (k_ti (k := nI 5) (by decide) q))).elim
    rcases k_rng h1 with h3 | h1
    · subst h3; exact (c_21 ((nI_eq (by omega) (by omega)).mp (k_ti (k := nI 6) (by decide) q))).elim
    rcases k_rng h1 with h3 | h1
    · subst h3; exact (c_26 ((nI_eq (by omega) (by omega)).mp (k_ti (k := nI 7) (by decide) q))).elim
    rcases k_rng h1 with h3 | h1
    · subst h3; exact (c_30 ((nI_eq (by omega) (by omega)).mp (k_ti (k := nI 8) (by decide) q))).elim
    rcases k_rng h1 with h3 | h1
    · subst h3; exact (c_34 ((nI_eq (by omega) (by omega)).mp (k_ti (k := nI 9) (by decide) q))).elim
    exfalso; omega
  refine lv_iconst (v := 0) hx hb dX8_does_343 (by decide) ?_
  have enn_0 : (gr) % 100 = nn_0 := Eq.symm kenn_0
  have etwo_0 : (((gr) / 100)) % 10 = two_0 := Eq.symm ketwo_0
  have exyz_0 : (gr) % 1000 = xyz_0 := Eq.symm kexyz_0
  have ep_0 : (((gr) / 1000)) % 10 = p_0 := Eq.symm kep_0
  have ew_0 : (gr) / 10000 = w_0 := Eq.symm kew_0
  have hE2 : (f_X8_does tr be cp cn gr) = (0, tr, be, cp, cn) := by
    subst enn_0
    subst etwo_0
    subst exyz_0
    subst ep_0
    subst ew_0
    exact (if_neg c_1).trans ((if_neg c_5).trans ((if_neg c_9).trans ((if_neg c_13).trans ((if_neg c_17).trans ((if_neg c_21).trans ((if_neg c_26).trans ((if_neg c_30).trans ((if_neg c_34).trans (rfl)))))))))
  subst hQ
  exact k_rz hx hb hr hlocks hP hD hS dX8_does_344 (by rfl) (by rw [hE2]) (by rw [hE2])
theorem chains_ok {tr : Nat → Int32} {pa qa : Nat} (hp : pa < 10) (h : rdOk tr) : rdOk (f_X8_chains tr pa qa).2 := by
  unfold f_X8_chains
  split
  · exact h
  · split
    · exact chainIn_ok hp (by omega) h
    · exact h
theorem nets_ok {tr : Nat → Int32} {pa : Nat} {x : Int32} (h : rdOk tr) : rdOk (f_X8_nets tr pa x).2 := by
  unfold f_X8_nets
  split
  · exact h
  · exact rdOk_net h
theorem drops_ok {tr : Nat → Int32} {sd pa : Nat} (h : rdOk tr) : rdOk (f_X8_drops tr sd pa).2 := by
  unfold f_X8_drops
  repeat' split
  all_goals first | exact h | exact rdOk_drop h
def h_X8_does := hid f_X8_does
theorem h_X8_does_eq : h_X8_does = f_X8_does := hid_eq _
theorem c_X8_doesH (l : Launch) (D : va_G) (g : Nat → Nat) (m0 sc0 rd0 nw0 tr0 di0 ke0 ik0 cp0 cn0 be0 : Nat) (sz : Nat) (rf : Int32) (ss : Nat) (sp : Nat) (ig : Int32) (lo : Int32) (ac : Nat) (tr : Nat → Int32) (be : Nat → Int32) (cp : Nat → Int32) (cn : Nat → Int32) (gr : Nat) (hT : rdOk tr) (hgr : gr ≤ 99999) : kMi l D g yX8_does wsX8_does 7 0 0 [.ref m0, .int (nI gr)] [(m0, .inr (8, [.int rf, .ref sc0, .int (nI ss), .int (nI sp), .int ig, .int lo, .ref rd0, .ref nw0, .ref tr0, .ref di0, .int (nI ac), .ref ke0, .ref ik0, .ref cp0, .ref cn0, .ref be0])), (tr0, .inl (g 0, 748, .inl tr)), (be0, .inl (g 0, 748, .inl be)), (cp0, .inl (g 0, 10, .inl cp)), (cn0, .inl (g 0, 10, .inl cn))] sz ((h_X8_does tr be cp cn gr).1) [(m0, .inr (8, [.int rf, .ref sc0, .int (nI ss), .int (nI sp), .int ig, .int lo, .ref rd0, .ref nw0, .ref tr0, .ref di0, .int (nI ac), .ref ke0, .ref ik0, .ref cp0, .ref cn0, .ref be0])), (tr0, .inl (g 0, 748, .inl ((h_X8_does tr be cp cn gr).2.1))), (be0, .inl (g 0, 748, .inl ((h_X8_does tr be cp cn gr).2.2.1))), (cp0, .inl (g 0, 10, .inl ((h_X8_does tr be cp cn gr).2.2.2.1))), (cn0, .inl (g 0, 10, .inl ((h_X8_does tr be cp cn gr).2.2.2.2)))] := by
  rw [h_X8_does_eq]
  exact c_X8_does l D g m0 sc0 rd0 nw0 tr0 di0 ke0 ik0 cp0 cn0 be0 sz rf ss sp ig lo ac tr be cp cn gr hT hgr
theorem ite_P {α : Type} {P : α → Prop} {c : Prop} [Decidable c] {a b : α} (ha : P a) (hb : P b) : P (if c then a else b) := by
  by_cases h : c
  · rw [if_pos h]; exact ha
  · rw [if_neg h]; exact hb
/-- what a script changes: the row that is tried, the row before, the chain's two rows -/
abbrev KS : Type := (Nat → Int32) × (Nat → Int32) × (Nat → Int32) × (Nat → Int32)
theorem does_ok {tr be cp cn : Nat → Int32} {gr : Nat} (hg : gr ≤ 99999) (h : rdOk tr) : rdOk (h_X8_does tr be cp cn gr).2.1 := by
  have hp : ((gr) / 1000) % 10 < 10 := by omega
  have hc : ∀ x, rdOk (h_X8_callIn cp cn tr (((gr) / 1000) % 10) x).2.1 := fun x => rdOk_same (callIn_same h.2 hp) h
  rw [h_X8_does_eq]
  unfold f_X8_does
  dsimp only
  refine ite_P (P := fun z : Int32 × KS => rdOk z.2.1) ?_ ?_
  · refine ite_P (P := fun z : Int32 × KS => rdOk z.2.1) ?_ ?_
    · exact h
    · refine ite_P (P := fun z : Int32 × KS => rdOk z.2.1) ?_ ?_
      · exact hc _
      · exact hc _
  · refine ite_P (P := fun z : Int32 × KS => rdOk z.2.1) ?_ ?_
    · refine ite_P (P := fun z : Int32 × KS => rdOk z.2.1) ?_ ?_
      · exact h
      · refine ite_P (P := fun z : Int32 × KS => rdOk z.2.1) ?_ ?_
        · exact hc _
        · exact hc _
    · refine ite_P (P := fun z : Int32 × KS => rdOk z.2.1) ?_ ?_
      · refine ite_P (P := fun z : Int32 × KS => rdOk z.2.1) ?_ ?_
        · refine ite_P (P := fun z : Int32 × KS => rdOk z.2.1) ?_ ?_
          · exact chains_ok hp h
          · exact chains_ok hp h
        · exact h
      · refine ite_P (P := fun z : Int32 × KS => rdOk z.2.1) ?_ ?_
        · refine ite_P (P := fun z : Int32 × KS => rdOk z.2.1) ?_ ?_
          · refine ite_P (P := fun z : Int32 × KS => rdOk z.2.1) ?_ ?_
            · exact nets_ok h
            · exact nets_ok h
          · exact h
        · refine ite_P (P := fun z : Int32 × KS => rdOk z.2.1) ?_ ?_
          · refine ite_P (P := fun z : Int32 × KS => rdOk z.2.1) ?_ ?_
            · refine ite_P (P := fun z : Int32 × KS => rdOk z.2.1) ?_ ?_
              · exact drops_ok h
              · exact drops_ok h
            · exact h
          · refine ite_P (P := fun z : Int32 × KS => rdOk z.2.1) ?_ ?_
            · refine ite_P (P := fun z : Int32 × KS => rdOk z.2.1) ?_ ?_
              · refine ite_P (P := fun z : Int32 × KS => rdOk z.2.1) ?_ ?_
                · exact h
                · refine ite_P (P := fun z : Int32 × KS => rdOk z.2.1) ?_ ?_
                  · exact drops_ok h
                  · exact drops_ok h
              · exact h
            · refine ite_P (P := fun z : Int32 × KS => rdOk z.2.1) ?_ ?_
              · refine ite_P (P := fun z : Int32 × KS => rdOk z.2.1) ?_ ?_
                · refine ite_P (P := fun z : Int32 × KS => rdOk z.2.1) ?_ ?_
                  · exact h
                  · refine ite_P (P := fun z : Int32 × KS => rdOk z.2.1) ?_ ?_
                    · exact h
                    · exact h
                · exact h
              · refine ite_P (P := fun z : Int32 × KS => rdOk z.2.1) ?_ ?_
                · refine ite_P (P := fun z : Int32 × KS => rdOk z.2.1) ?_ ?_
                  · refine ite_P (P := fun z : Int32 × KS => rdOk z.2.1) ?_ ?_
                    · refine ite_P (P := fun z : Int32 × KS => rdOk z.2.1) ?_ ?_
                      · exact h
                      · exact h
                    · exact h
                  · exact h
                · refine ite_P (P := fun z : Int32 × KS => rdOk z.2.1) ?_ ?_
                  · refine ite_P (P := fun z : Int32 × KS => rdOk z.2.1) ?_ ?_
                    · exact h
                    · refine ite_P (P := fun z : Int32 × KS => rdOk z.2.1) ?_ ?_
                      · exact h
                      · exact h
                  · exact h
/-- the groups of a script from the k-th on -/
def rRun (n t : Nat) : Nat → Nat → KS → Int32 × KS
  | 0, _, s => (-10000, s)
  | f + 1, k, s => if (h_X8_does s.1 s.2.1 s.2.2.1 s.2.2.2 (t / 10 ^ (5 * (n - 1 - k)) % 100000)).1 = 0 then (nI k, (h_X8_does s.1 s.2.1 s.2.2.1 s.2.2.2 (t / 10 ^ (5 * (n - 1 - k)) % 100000)).2) else rRun n t f (k + 1) (h_X8_does s.1 s.2.1 s.2.2.1 s.2.2.2 (t / 10 ^ (5 * (n - 1 - k)) % 100000)).2
theorem rRun_end {n t k : Nat} {s : KS} (h : n ≤ k) : rRun n t (n - k) k s = (-10000, s) := by
  rw [show n - k = 0 by omega]
  rfl
theorem rRun_hit {n t k : Nat} {s : KS} {v : Int32 × KS} (h : ¬ n ≤ k) (hv : v = h_X8_does s.1 s.2.1 s.2.2.1 s.2.2.2 (t / 10 ^ (5 * (n - 1 - k)) % 100000)) (hc : v.1 = 0) : rRun n t (n - k) k s = (nI k, v.2) := by
  obtain ⟨f, e⟩ : ∃ f, n - k = f + 1 := ⟨n - k - 1, by omega⟩
  rw [e, rRun, ← hv, if_pos hc]
theorem rRun_go {n t k : Nat} {s : KS} {v : Int32 × KS} (h : ¬ n ≤ k) (hv : v = h_X8_does s.1 s.2.1 s.2.2.1 s.2.2.2 (t / 10 ^ (5 * (n - 1 - k)) % 100000)) (hc : ¬ v.1 = 0) : rRun n t (n - (k + 1)) (k + 1) v.2 = rRun n t (n - k) k s := by
  obtain ⟨f, e⟩ : ∃ f, n - k = f + 1 := ⟨n - k - 1, by omega⟩
  rw [e, rRun, ← hv, if_neg hc, show n - (k + 1) = f by omega]
theorem kTen_l : ∀ k : Nat, k ≤ 15 → kTen k = lN (10 ^ k) := by
  have key : ∀ j : Fin 16, kTen j.val = lN (10 ^ j.val) := by decide +kernel
  exact fun k h => key ⟨k, by omega⟩
theorem kTen_pos {k : Nat} (h : k ≤ 15) : 0 < 10 ^ k ∧ 10 ^ k < 2 ^ 63 := by
  refine ⟨Nat.pow_pos (by decide), ?_⟩
  have key : ∀ j : Fin 16, 10 ^ j.val < 2 ^ 63 := by decide +kernel
  exact key ⟨k, by omega⟩
theorem told_N {t : Int64} {k : Nat} (hk : k ≤ 15) (h : ¬ f_X8_in t 0 (kTen k - 1) = 0) : t = lN t.toNatClampNeg ∧ t.toNatClampNeg < 10 ^ k := by
  have hp := kTen_pos hk
  have e1 : (kTen k - 1).toInt = (10 ^ k : Nat) - 1 := by
    rw [kTen_l k hk]
    rw [show (1 : Int64) = lN 1 from rfl]
    have h2 : lN (10 ^ k) - lN 1 = lN (10 ^ k - 1) := by
      have h3 : lN (10 ^ k) = lN (10 ^ k - 1) + lN 1 := by
        have h4 : (10 ^ k - 1) + 1 = 10 ^ k := by omega
        conv => lhs; rw [← h4]
        exact Int64.ofNat_add ..
      rw [h3, Int64.add_sub_cancel]
    rw [h2, pk_lT (by omega)]
    omega
  unfold f_X8_in at h
  have e0 : (0 : Int64).toInt = 0 := by decide
  by_cases h1 : t < 0
  · rw [if_pos h1] at h; exact absurd rfl h
  · rw [if_neg h1] at h
    by_cases h2 : kTen k - 1 < t
    · rw [if_pos h2] at h; exact absurd rfl h
    · obtain ⟨j, hj, ej⟩ := pk_lOf h1
      have h4 : ¬ (kTen k - 1).toInt < t.toInt := fun q => h2 (Int64.lt_iff_toInt_lt.mpr q)
      rw [e1, ej, pk_lT hj] at h4
      have h5 : t.toNatClampNeg = j := by
        rw [ej]
        show (lN j).toInt.toNat = j
        rw [pk_lT hj]
        omega
      rw [h5]
      exact ⟨ej, by omega⟩
theorem l2i_N {j : Nat} (h : j < 2 ^ 31) : Int64.toInt32 (lN j) = nI j := by
  apply Int32.toInt_inj.mp
  rw [Int64.toInt_toInt32, pk_lT (by omega), nI_toInt h, Int.bmod_def]
  omega
/-- what runScript answers before it does anything: 0, or which of its exceptions is thrown -/
def kc_X8_runScript (n : Int32) (told : Int64) : Int32 :=
  let n_0 := n.toNatClampNeg
  if (f_X8_in (Int32.toInt64 n) 1 3) = 0 then
    1
  else
    if (f_X8_in told 0 ((kTen (5 * n_0)) - 1)) = 0 then
      1
    else
      0
theorem qX8_runScript_0 : Cond.constantLong RX8 200 (3) ∈ wsX8_runScript := (List.mem_cons_of_mem _ (List.mem_append_left _ (List.mem_append_left _ (List.mem_of_getElem? (i := 0) rfl))))
theorem qX8_runScript_1 : Cond.constantLong RX8 268 (100000) ∈ wsX8_runScript := (List.mem_cons_of_mem _ (List.mem_append_left _ (List.mem_append_left _ (List.mem_of_getElem? (i := 1) rfl))))
set_option maxHeartbeats 4000000 in
set_option maxRecDepth 100000 in
theorem c_X8_runScript (l : Launch) (D : va_G) (g : Nat → Nat) (m0 sc0 rd0 nw0 tr0 di0 ke0 ik0 cp0 cn0 be0 : Nat) (sz : Nat) (rf : Int32) (ss : Nat) (sp : Nat) (ig : Int32) (lo : Int32) (ac : Nat) (nw : Nat → Int32) (tr : Nat → Int32) (be : Nat → Int32) (cp : Nat → Int32) (cn : Nat → Int32) (n : Int32) (told : Int64) (hO : rdOk nw) (hk : (kc_X8_runScript n told) = 0) : kMi l D g yX8_runScript wsX8_runScript 8 0 0 [.ref m0, .int n, .long told] [(m0, .inr (8, [.int rf, .ref sc0, .int (nI ss), .int (nI sp), .int ig, .int lo, .ref rd0, .ref nw0, .ref tr0, .ref di0, .int (nI ac), .ref ke0, .ref ik0, .ref cp0, .ref cn0, .ref be0])), (nw0, .inl (g 0, 748, .inl nw)), (tr0, .inl (g 0, 748, .inl tr)), (be0, .inl (g 0, 748, .inl be)), (cp0, .inl (g 0, 10, .inl cp)), (cn0, .inl (g 0, 10, .inl cn))] sz ((rRun n.toNatClampNeg told.toNatClampNeg n.toNatClampNeg 0 (nw, be, cp, cn)).1) [(m0, .inr (8, [.int 0, .ref sc0, .int (nI ss), .int (nI sp), .int ig, .int lo, .ref rd0, .ref nw0, .ref tr0, .ref di0, .int (nI ac), .ref ke0, .ref ik0, .ref cp0, .ref cn0, .ref be0])), (nw0, .inl (g 0, 748, .inl nw)), (tr0, .inl (g 0, 748, .inl ((rRun n.toNatClampNeg told.toNatClampNeg n.toNatClampNeg 0 (nw, be, cp, cn)).2.1))), (be0, .inl (g 0, 748, .inl ((rRun n.toNatClampNeg told.toNatClampNeg n.toNatClampNeg 0 (nw, be, cp, cn)).2.2.1))), (cp0, .inl (g 0, 10, .inl ((rRun n.toNatClampNeg told.toNatClampNeg n.toNatClampNeg 0 (nw, be, cp, cn)).2.2.2.1))), (cn0, .inl (g 0, 10, .inl ((rRun n.toNatClampNeg told.toNatClampNeg n.toNatClampNeg 0 (nw, be, cp, cn)).2.2.2.2)))] := by
  refine k_enter (nm := "runScript") (own := RX8) (bytes := cX8_runScript) (maxL := 6) (ret := (some .int)) (Qf := fun A => kQi D [(m0, .inr (8, [.int 0, .ref sc0, .int (nI ss), .int (nI sp), .int ig, .int lo, .ref rd0, .ref nw0, .ref tr0, .ref di0, .int (nI ac), .ref ke0, .ref ik0, .ref cp0, .ref cn0, .ref be0])), (nw0, .inl (g 0, 748, .inl nw)), (tr0, .inl (g 0, 748, .inl ((rRun n.toNatClampNeg told.toNatClampNeg n.toNatClampNeg 0 (nw, be, cp, cn)).2.1))), (be0, .inl (g 0, 748, .inl ((rRun n.toNatClampNeg told.toNatClampNeg n.toNatClampNeg 0 (nw, be, cp, cn)).2.2.1))), (cp0, .inl (g 0, 10, .inl ((rRun n.toNatClampNeg told.toNatClampNeg n.toNatClampNeg 0 (nw, be, cp, cn)).2.2.2.1))), (cn0, .inl (g 0, 10, .inl ((rRun n.toNatClampNeg told.toNatClampNeg n.toNatClampNeg 0 (nw, be, cp, cn)).2.2.2.2)))] A ((rRun n.toNatClampNeg told.toNatClampNeg n.toNatClampNeg 0 (nw, be, cp, cn)).1)) (by decide) rfl rfl rfl (Nat.le_of_ble_eq_true rfl) ?_
  rintro pp ee s mm below meth cc A ls args Q H locs hQ ⟨hx, hb, hr, hml, hown, hts, hlocks, hin⟩ hP hK hD hA hS hE hl
  have hl : lv_has ls 6 [(0, .ref m0), (1, .int n), (2, .long told)] := hl
  refine lv_iload_n hx hb dX8_runScript_0 rfl (lv_at hl 1 rfl) ?_
  refine lv_i2l (v := (Int32.toInt64 n)) hx hb dX8_runScript_1 rfl ?_
  refine lv_lconst (v := 1) hx hb dX8_runScript_2 (by decide) ?_
  refine lv_ldc2 hx hb hown (hts _ qX8_runScript_0) dX8_runScript_3 ?_
  refine k_ai (wr := [(m0, .inr (8, [.int rf, .ref sc0, .int (nI ss), .int (nI sp), .int ig, .int lo, .ref rd0, .ref nw0, .ref tr0, .ref di0, .int (nI ac), .ref ke0, .ref ik0, .ref cp0, .ref cn0, .ref be0])), (nw0, .inl (g 0, 748, .inl nw)), (tr0, .inl (g 0, 748, .inl tr)), (be0, .inl (g 0, 748, .inl be)), (cp0, .inl (g 0, 10, .inl cp)), (cn0, .inl (g 0, 10, .inl cn))]) (w2 := [(m0, .inr (8, [.int rf, .ref sc0, .int (nI ss), .int (nI sp), .int ig, .int lo, .ref rd0, .ref nw0, .ref tr0, .ref di0, .int (nI ac), .ref ke0, .ref ik0, .ref cp0, .ref cn0, .ref be0])), (nw0, .inl (g 0, 748, .inl nw)), (tr0, .inl (g 0, 748, .inl tr)), (be0, .inl (g 0, 748, .inl be)), (cp0, .inl (g 0, 10, .inl cp)), (cn0, .inl (g 0, 10, .inl cn))]) (va_runS (As := [.long (Int32.toInt64 n), .long 1, .long 3]) (rest := []) ⟨hx, hb, hml, hown, hts⟩ (c_X8_in l D g H.size (Int32.toInt64 n) 1 3) (va_cwS 3 hts gX8_runScript_X8_in rfl rfl rfl (by decide +kernel) (k_lvl (by omega) (by decide))) (kPS hP hD hK hS hA hE [] rfl (by decide)) rfl rfl hl.1 rfl (lv_room (Nat.le_of_ble_eq_true rfl)) dX8_runScript_6 ⟨Nat.le_of_ble_eq_true rfl, Nat.le_of_ble_eq_true rfl⟩) hP hD hS hA [] [0, 1, 2, 3, 4, 5] [0, 1, 2, 3, 4, 5] rfl rfl (by decide) (by decide) rfl (by decide) (fun H locs hP hD hS => ?_)
  refine lv_istore (lv' := [(4, .int (f_X8_in (Int32.toInt64 n) 1 3)), (0, .ref m0), (1, .int n), (2, .long told)]) hx hb dX8_runScript_9 hl (by decide) rfl (fun ls hl => ?_)
  refine lv_aload_n hx hb dX8_runScript_11 rfl (lv_at hl 1 rfl) ?_
  refine lv_iload hx hb dX8_runScript_12 (lv_at hl 0 rfl) ?_
  refine lv_if_eq (tgt := 46) hx hb dX8_runScript_14 (by decide) (fun c_1 => ?_) (fun c_1 => ?_)
  · refine lv_iconst (v := 1) hx hb dX8_runScript_46 (by decide) ?_
    have h9 : (kc_X8_runScript n told) = 1 := (if_pos c_1).trans (rfl)
    rw [hk] at h9
    exact absurd h9 (by decide)
  · refine lv_lload_n hx hb dX8_runScript_17 rfl (lv_at hl 3 rfl) ?_
    refine lv_lconst (v := 0) hx hb dX8_runScript_18 (by decide) ?_
    refine lv_iload hx hb dX8_runScript_19 (lv_at hl 0 rfl) ?_
    refine lv_if_eq (tgt := 30) hx hb dX8_runScript_21 (by decide) (fun c_2 => absurd c_2 c_1) (fun _ => ?_)
    obtain ⟨n_0, en_0⟩ : ∃ z, z = n.toNatClampNeg := ⟨_, rfl⟩
    have qn_0 : n = nI n_0 := by rw [en_0]; exact (in_N1 (K := 3) (by decide) c_1).1
    have bn_0 : 1 ≤ n_0 ∧ n_0 ≤ 3 := by rw [en_0]; exact (in_N1 (K := 3) (by decide) c_1).2
    have ken_0 : kEq n_0 n.toNatClampNeg := en_0
    clear en_0
    have hl : lv_has ls 6 [(4, .int (f_X8_in (Int32.toInt64 (nI n_0)) 1 3)), (0, .ref m0), (1, .int (nI n_0)), (2, .long told)] := by
      have h9 := hl
      rw [qn_0] at h9
      exact h9
    refine lv_iconst (v := 5) hx hb dX8_runScript_24 (by decide) ?_
    refine lv_iload_n hx hb dX8_runScript_25 rfl (lv_at hl 2 rfl) ?_
    refine lv_imul hx hb dX8_runScript_26 ?_
    refine k_top (y := (nI (5 * n_0))) (pk_mul 5 n_0) ?_
    refine lv_goto (tgt := 31) hx hb dX8_runScript_27 (by decide) ?_
    refine k_al (wr := [(m0, .inr (8, [.int rf, .ref sc0, .int (nI ss), .int (nI sp), .int ig, .int lo, .ref rd0, .ref nw0, .ref tr0, .ref di0, .int (nI ac), .ref ke0, .ref ik0, .ref cp0, .ref cn0, .ref be0])), (nw0, .inl (g 0, 748, .inl nw)), (tr0, .inl (g 0, 748, .inl tr)), (be0, .inl (g 0, 748, .inl be)), (cp0, .inl (g 0, 10, .inl cp)), (cn0, .inl (g 0, 10, .inl cn))]) (w2 := [(m0, .inr (8, [.int rf, .ref sc0, .int (nI ss), .int (nI sp), .int ig, .int lo, .ref rd0, .ref nw0, .ref tr0, .ref di0, .int (nI ac), .ref ke0, .ref ik0, .ref cp0, .ref cn0, .ref be0])), (nw0, .inl (g 0, 748, .inl nw)), (tr0, .inl (g 0, 748, .inl tr)), (be0, .inl (g 0, 748, .inl be)), (cp0, .inl (g 0, 10, .inl cp)), (cn0, .inl (g 0, 10, .inl cn))]) (va_runS (As := [.int (nI (5 * n_0))]) (rest := [.long 0, .long told, .ref m0]) ⟨hx, hb, hml, hown, hts⟩ (c_X8_tenTo l D g H.size (5 * n_0) (by omega)) (va_cwS 1 hts gX8_runScript_X8_tenTo rfl rfl rfl (by decide +kernel) (k_lvl (by omega) (by decide))) (kPS hP hD hK hS hA hE [] rfl (by decide)) rfl rfl hl.1 rfl (lv_room (Nat.le_of_ble_eq_true rfl)) dX8_runScript_31 ⟨Nat.le_of_ble_eq_true rfl, Nat.le_of_ble_eq_true rfl⟩) hP hD hS hA [] [0, 1, 2, 3, 4, 5] [0, 1, 2, 3, 4, 5] rfl rfl (by decide) (by decide) rfl (by decide) (fun H locs hP hD hS => ?_)
    refine lv_lconst (v := 1) hx hb dX8_runScript_34 (by decide) ?_
    refine lv_lsub hx hb dX8_runScript_35 ?_
    refine k_ai (wr := [(m0, .inr (8, [.int rf, .ref sc0, .int (nI ss), .int (nI sp), .int ig, .int lo, .ref rd0, .ref nw0, .ref tr0, .ref di0, .int (nI ac), .ref ke0, .ref ik0, .ref cp0, .ref cn0, .ref be0])), (nw0, .inl (g 0, 748, .inl nw)), (tr0, .inl (g 0, 748, .inl tr)), (be0, .inl (g 0, 748, .inl be)), (cp0, .inl (g 0, 10, .inl cp)), (cn0, .inl (g 0, 10, .inl cn))]) (w2 := [(m0, .inr (8, [.int rf, .ref sc0, .int (nI ss), .int (nI sp), .int ig, .int lo, .ref rd0, .ref nw0, .ref tr0, .ref di0, .int (nI ac), .ref ke0, .ref ik0, .ref cp0, .ref cn0, .ref be0])), (nw0, .inl (g 0, 748, .inl nw)), (tr0, .inl (g 0, 748, .inl tr)), (be0, .inl (g 0, 748, .inl be)), (cp0, .inl (g 0, 10, .inl cp)), (cn0, .inl (g 0, 10, .inl cn))]) (va_runS (As := [.long told, .long 0, .long ((kTen (5 * n_0)) - 1)]) (rest := [.ref m0]) ⟨hx, hb, hml, hown, hts⟩ (c_X8_in l D g H.size told 0 ((kTen (5 * n_0)) - 1)) (va_cwS 3 hts gX8_runScript_X8_in rfl rfl rfl (by decide +kernel) (k_lvl (by omega) (by decide))) (kPS hP hD hK hS hA hE [] rfl (by decide)) rfl rfl hl.1 rfl (lv_room (Nat.le_of_ble_eq_true rfl)) dX8_runScript_36 ⟨Nat.le_of_ble_eq_true rfl, Nat.le_of_ble_eq_true rfl⟩) hP hD hS hA [] [0, 1, 2, 3, 4, 5] [0, 1, 2, 3, 4, 5] rfl rfl (by decide) (by decide) rfl (by decide) (fun H locs hP hD hS => ?_)
    refine lv_if_eq (tgt := 46) hx hb dX8_runScript_39 (by decide) (fun c_3 => ?_) (fun c_3 => ?_)
    · refine lv_iconst (v := 1) hx hb dX8_runScript_46 (by decide) ?_
      have en_0 : n.toNatClampNeg = n_0 := Eq.symm ken_0
      subst en_0
      have h9 : (kc_X8_runScript n told) = 1 := (if_neg c_1).trans ((if_pos c_3).trans (rfl))
      rw [hk] at h9
      exact absurd h9 (by decide)
    · refine lv_iconst (v := 0) hx hb dX8_runScript_42 (by decide) ?_
      refine lv_goto (tgt := 47) hx hb dX8_runScript_43 (by decide) ?_
      refine k_ai (wr := [(nw0, .inl (g 0, 748, .inl nw)), (tr0, .inl (g 0, 748, .inl tr)), (be0, .inl (g 0, 748, .inl be)), (cp0, .inl (g 0, 10, .inl cp)), (cn0, .inl (g 0, 10, .inl cn))]) (w2 := [(m0, .inr (8, [.int 0, .ref sc0, .int (nI ss), .int (nI sp), .int ig, .int lo, .ref rd0, .ref nw0, .ref tr0, .ref di0, .int (nI ac), .ref ke0, .ref ik0, .ref cp0, .ref cn0, .ref be0])), (nw0, .inl (g 0, 748, .inl nw)), (tr0, .inl (g 0, 748, .inl tr)), (be0, .inl (g 0, 748, .inl be)), (cp0, .inl (g 0, 10, .inl cp)), (cn0, .inl (g 0, 10, .inl cn))]) (va_runV (As := [.int 0]) (rest := []) ⟨hx, hb, hml, hown, hts⟩ (c_X8_refused0 l D g m0 sc0 rd0 nw0 tr0 di0 ke0 ik0 cp0 cn0 be0 H.size rf ss sp ig lo ac) (cwV 1 hts gX8_runScript_X8_refused rfl rfl rfl (by decide +kernel) (k_lvl (by omega) (by decide))) (kPV hP hD hK hS hA hE [0] rfl (by decide) 0 8 rfl rfl rfl) rfl rfl hl.1 rfl (lv_room (Nat.le_of_ble_eq_true rfl)) dX8_runScript_47 ⟨Nat.le_of_ble_eq_true rfl, Nat.le_of_ble_eq_true rfl⟩) hP hD hS hA [0] [1, 2, 3, 4, 5] [5, 0, 1, 2, 3, 4] rfl rfl (by decide) (by decide) rfl (by decide) (fun H locs hP hD hS => ?_)
      refine lv_if_eq (tgt := 55) hx hb dX8_runScript_50 (by decide) (fun _ => ?_) (fun c_4 => absurd c_4 (by decide))
      obtain ⟨t_0, et_0⟩ : ∃ z, z = told.toNatClampNeg := ⟨_, rfl⟩
      have qt_0 : told = lN t_0 := by rw [et_0]; exact (told_N (by omega) c_3).1
      have bt_0 : t_0 < 10 ^ (5 * n_0) := by rw [et_0]; exact (told_N (by omega) c_3).2
      have bt_1 : t_0 < 2 ^ 63 := Nat.lt_trans bt_0 (kTen_pos (by omega)).2
      clear bt_0
      have ket_0 : kEq t_0 told.toNatClampNeg := et_0
      clear et_0
      refine lv_aload_n hx hb dX8_runScript_55 rfl (lv_at hl 1 rfl) ?_
      refine k_av (wr := [(be0, .inl (g 0, 748, .inl be)), (cp0, .inl (g 0, 10, .inl cp)), (cn0, .inl (g 0, 10, .inl cn))]) (w2 := [(m0, .inr (8, [.int 0, .ref sc0, .int (nI ss), .int (nI sp), .int ig, .int lo, .ref rd0, .ref nw0, .ref tr0, .ref di0, .int (nI ac), .ref ke0, .ref ik0, .ref cp0, .ref cn0, .ref be0])), (nw0, .inl (g 0, 748, .inl nw)), (tr0, .inl (g 0, 748, .inl nw)), (be0, .inl (g 0, 748, .inl be)), (cp0, .inl (g 0, 10, .inl cp)), (cn0, .inl (g 0, 10, .inl cn))]) (va_runV (As := []) (rest := []) ⟨hx, hb, hml, hown, hts⟩ (c_X8_tryIt l D g m0 sc0 rd0 nw0 tr0 di0 ke0 ik0 cp0 cn0 be0 H.size 0 ss sp ig lo ac nw tr) (cwV 0 hts gX8_runScript_X8_tryIt rfl rfl rfl (by decide +kernel) (k_lvl (by omega) (by decide))) (kPV hP hD hK hS hA hE [0, 1, 2] rfl (by decide) 0 8 rfl rfl rfl) rfl rfl hl.1 rfl (lv_room (Nat.le_of_ble_eq_true rfl)) dX8_runScript_56 ⟨Nat.le_of_ble_eq_true rfl, Nat.le_of_ble_eq_true rfl⟩) hP hD hS hA [0, 1, 2] [3, 4, 5] [3, 4, 5, 0, 1, 2] rfl rfl (by decide) (by decide) rfl (by decide) (fun H locs hP hD hS => ?_)
      refine lv_iconst (v := 0) hx hb dX8_runScript_59 (by decide) ?_
      refine lv_istore (lv' := [(5, .int 0), (4, .int (f_X8_in (Int32.toInt64 (nI n_0)) 1 3)), (0, .ref m0), (1, .int (nI n_0)), (2, .long told)]) hx hb dX8_runScript_60 hl (by decide) rfl (fun ls hl => ?_)
      have hloop_62 : ∀ (nn_62 : Nat) (k : Nat) (zz : KS), n_0 - k < nn_62 → ∀ (hk : k ≤ n_0) (hr9 : rRun n_0 t_0 (n_0 - k) k zz = (rRun n.toNatClampNeg told.toNatClampNeg n.toNatClampNeg 0 (nw, be, cp, cn))) (hZ : rdOk zz.1) (H : Heap) (locs : List Loc) (ls : Array Slot), va_P D vwCl [(m0, .inr (8, [.int 0, .ref sc0, .int (nI ss), .int (nI sp), .int ig, .int lo, .ref rd0, .ref nw0, .ref tr0, .ref di0, .int (nI ac), .ref ke0, .ref ik0, .ref cp0, .ref cn0, .ref be0])), (nw0, .inl (g 0, 748, .inl nw)), (tr0, .inl (g 0, 748, .inl (zz.1))), (be0, .inl (g 0, 748, .inl (zz.2.1))), (cp0, .inl (g 0, 10, .inl (zz.2.2.1))), (cn0, .inl (g 0, 10, .inl (zz.2.2.2)))] H → va_D A [(m0, .inr (8, [.int 0, .ref sc0, .int (nI ss), .int (nI sp), .int ig, .int lo, .ref rd0, .ref nw0, .ref tr0, .ref di0, .int (nI ac), .ref ke0, .ref ik0, .ref cp0, .ref cn0, .ref be0])), (nw0, .inl (g 0, 748, .inl nw)), (tr0, .inl (g 0, 748, .inl (zz.1))), (be0, .inl (g 0, 748, .inl (zz.2.1))), (cp0, .inl (g 0, 10, .inl (zz.2.2.1))), (cn0, .inl (g 0, 10, .inl (zz.2.2.2)))] → va_S A s.heap H locs → lv_has ls 6 [(5, .int (nI k)), (0, .ref m0), (1, .int (nI n_0)), (2, .long told)] → W pp l ee (kR 8 0 0) s mm args below meth cc H locs 0 0 Q (F0 mm 62 ls []) := by
        intro nn_62
        induction nn_62 with
        | zero => intro k zz hm9; exact absurd hm9 (Nat.not_lt_zero _)
        | succ nn_62 ih_62 =>
          intro k zz hm_62 hk hr9 hZ H locs ls hP hD hS hl
          refine lv_iload hx hb dX8_runScript_62 (lv_at hl 0 rfl) ?_
          refine lv_iload_n hx hb dX8_runScript_64 rfl (lv_at hl 2 rfl) ?_
          refine lv_icmp_ge (tgt := 102) hx hb dX8_runScript_65 (by decide) (fun c_5 => ?_) (fun c_5 => ?_)
          · have c_5 : n_0 ≤ k := (nI_leI (a := n_0) (b := k) (by omega) (by omega)).mp c_5
            refine lv_sipush (v := (-10000)) hx hb dX8_runScript_102 (by decide) ?_
            have et_0 : told.toNatClampNeg = t_0 := Eq.symm ket_0
            have en_0 : n.toNatClampNeg = n_0 := Eq.symm ken_0
            have hE2 := (rRun_end (t := t_0) (s := zz) (show n_0 ≤ k by omega)).symm.trans hr9
            subst hQ
            exact k_ri hx hb hr hlocks hP hD hS dX8_runScript_105 (by rw [← hE2]) (by rw [← hE2])
          · have c_5 : ¬ (n_0 ≤ k) := fun h9 => c_5 ((nI_leI (a := n_0) (b := k) (by omega) (by omega)).mpr h9)
            refine lv_aload_n hx hb dX8_runScript_68 rfl (lv_at hl 1 rfl) ?_
            refine lv_lload_n hx hb dX8_runScript_69 rfl (lv_at hl 3 rfl) ?_
            refine lv_iconst (v := 5) hx hb dX8_runScript_70 (by decide) ?_
            refine lv_iload_n hx hb dX8_runScript_71 rfl (lv_at hl 2 rfl) ?_
            refine lv_iconst (v := 1) hx hb dX8_runScript_72 (by decide) ?_
            refine lv_isub hx hb dX8_runScript_73 ?_
            refine k_top (y := (nI (n_0 - 1))) (pk_sub (a := n_0) (b := 1) (by omega)) ?_
            refine lv_iload hx hb dX8_runScript_74 (lv_at hl 0 rfl) ?_
            refine lv_isub hx hb dX8_runScript_76 ?_
            refine k_top (y := (nI (n_0 - 1 - k))) (pk_sub (a := n_0 - 1) (b := k) (by omega)) ?_
            refine lv_imul hx hb dX8_runScript_77 ?_
            refine k_top (y := (nI (5 * (n_0 - 1 - k)))) (pk_mul 5 (n_0 - 1 - k)) ?_
            refine k_al (wr := [(m0, .inr (8, [.int 0, .ref sc0, .int (nI ss), .int (nI sp), .int ig, .int lo, .ref rd0, .ref nw0, .ref tr0, .ref di0, .int (nI ac), .ref ke0, .ref ik0, .ref cp0, .ref cn0, .ref be0])), (nw0, .inl (g 0, 748, .inl nw)), (tr0, .inl (g 0, 748, .inl (zz.1))), (be0, .inl (g 0, 748, .inl (zz.2.1))), (cp0, .inl (g 0, 10, .inl (zz.2.2.1))), (cn0, .inl (g 0, 10, .inl (zz.2.2.2)))]) (w2 := [(m0, .inr (8, [.int 0, .ref sc0, .int (nI ss), .int (nI sp), .int ig, .int lo, .ref rd0, .ref nw0, .ref tr0, .ref di0, .int (nI ac), .ref ke0, .ref ik0, .ref cp0, .ref cn0, .ref be0])), (nw0, .inl (g 0, 748, .inl nw)), (tr0, .inl (g 0, 748, .inl (zz.1))), (be0, .inl (g 0, 748, .inl (zz.2.1))), (cp0, .inl (g 0, 10, .inl (zz.2.2.1))), (cn0, .inl (g 0, 10, .inl (zz.2.2.2)))]) (va_runS (As := [.int (nI (5 * (n_0 - 1 - k)))]) (rest := [.long told, .ref m0]) ⟨hx, hb, hml, hown, hts⟩ (c_X8_tenTo l D g H.size (5 * (n_0 - 1 - k)) (by omega)) (va_cwS 1 hts gX8_runScript_X8_tenTo rfl rfl rfl (by decide +kernel) (k_lvl (by omega) (by decide))) (kPS hP hD hK hS hA hE [] rfl (by decide)) rfl rfl hl.1 rfl (lv_room (Nat.le_of_ble_eq_true rfl)) dX8_runScript_78 ⟨Nat.le_of_ble_eq_true rfl, Nat.le_of_ble_eq_true rfl⟩) hP hD hS hA [] [0, 1, 2, 3, 4, 5] [0, 1, 2, 3, 4, 5] rfl rfl (by decide) (by decide) rfl (by decide) (fun H locs hP hD hS => ?_)
            refine lv_ldiv hx hb dX8_runScript_81 (by rw [kTen_l _ (by omega)]; intro h9; have h8 := (pk_lEQ (b := 0) (kTen_pos (by omega)).2 (by decide)).mp h9; have h7 := (kTen_pos (k := 5 * (n_0 - 1 - k)) (by omega)).1; omega) ?_
            refine k_topl (y := (lN (t_0 / 10 ^ (5 * (n_0 - 1 - k))))) (by rw [qt_0, kTen_l _ (by omega)]; exact pk_lDiv bt_1 (kTen_pos (by omega)).1 (kTen_pos (by omega)).2) ?_
            refine lv_ldc2 hx hb hown (hts _ qX8_runScript_1) dX8_runScript_82 ?_
            refine lv_lrem hx hb dX8_runScript_85 (by decide) ?_
            refine k_topl (y := (lN (t_0 / 10 ^ (5 * (n_0 - 1 - k)) % 100000))) (pk_lRem (Nat.lt_of_le_of_lt (Nat.div_le_self _ _) bt_1) (by decide) (by decide)) ?_
            refine lv_l2i (v := (Int64.toInt32 (lN (t_0 / 10 ^ (5 * (n_0 - 1 - k)) % 100000)))) hx hb dX8_runScript_86 rfl ?_
            refine k_top (y := (nI (t_0 / 10 ^ (5 * (n_0 - 1 - k)) % 100000))) (l2i_N (Nat.lt_trans (Nat.mod_lt _ (by decide)) (by decide))) ?_
            have hC := c_X8_doesH l D g m0 sc0 rd0 nw0 tr0 di0 ke0 ik0 cp0 cn0 be0 H.size 0 ss sp ig lo ac (zz.1) (zz.2.1) (zz.2.2.1) (zz.2.2.2) (t_0 / 10 ^ (5 * (n_0 - 1 - k)) % 100000) hZ (Nat.le_of_lt_succ (Nat.mod_lt _ (by decide)))
            obtain ⟨v_6, ev_6⟩ : ∃ z, z = (h_X8_does (zz.1) (zz.2.1) (zz.2.2.1) (zz.2.2.2) (t_0 / 10 ^ (5 * (n_0 - 1 - k)) % 100000)) := ⟨_, rfl⟩
            rw [← ev_6] at hC
            have kev_6 : kEq v_6 (h_X8_does (zz.1) (zz.2.1) (zz.2.2.1) (zz.2.2.2) (t_0 / 10 ^ (5 * (n_0 - 1 - k)) % 100000)) := ev_6
            clear ev_6
            refine k_ai (wr := [(nw0, .inl (g 0, 748, .inl nw))]) (w2 := [(m0, .inr (8, [.int 0, .ref sc0, .int (nI ss), .int (nI sp), .int ig, .int lo, .ref rd0, .ref nw0, .ref tr0, .ref di0, .int (nI ac), .ref ke0, .ref ik0, .ref cp0, .ref cn0, .ref be0])), (nw0, .inl (g 0, 748, .inl nw)), (tr0, .inl (g 0, 748, .inl v_6.2.1)), (be0, .inl (g 0, 748, .inl v_6.2.2.1)), (cp0, .inl (g 0, 10, .inl v_6.2.2.2.1)), (cn0, .inl (g 0, 10, .inl v_6.2.2.2.2))]) (va_runV (As := [.int (nI (t_0 / 10 ^ (5 * (n_0 - 1 - k)) % 100000))]) (rest := []) ⟨hx, hb, hml, hown, hts⟩ hC (cwV 1 hts gX8_runScript_X8_does rfl rfl rfl (by decide +kernel) (k_lvl (by omega) (by decide))) (kPV hP hD hK hS hA hE [0, 2, 3, 4, 5] rfl (by decide) 0 8 rfl rfl rfl) rfl rfl hl.1 rfl (lv_room (Nat.le_of_ble_eq_true rfl)) dX8_runScript_87 ⟨Nat.le_of_ble_eq_true rfl, Nat.le_of_ble_eq_true rfl⟩) hP hD hS hA [0, 2, 3, 4, 5] [1] [1, 0, 2, 3, 4, 5] rfl rfl (by decide) (by decide) rfl (by decide) (fun H locs hP hD hS => ?_)
            refine lv_if_ne (tgt := 96) hx hb dX8_runScript_90 (by decide) (fun c_7 => ?_) (fun c_7 => ?_)
            · refine lv_iinc (v := (nI (k + 1))) (lv' := [(5, .int (nI (k + 1))), (0, .ref m0), (1, .int (nI n_0)), (2, .long told)]) hx hb dX8_runScript_96 hl (k := 0) rfl (nI_1 _) (by decide) rfl (fun ls hl => ?_)
              refine lv_goto (tgt := 62) hx hb dX8_runScript_99 (by decide) ?_
              exact ih_62 (k + 1) v_6.2 (by omega) (by omega) ((rRun_go (show ¬ n_0 ≤ k by omega) kev_6 c_7).trans hr9) (by have e9 : v_6 = (h_X8_does (zz.1) (zz.2.1) (zz.2.2.1) (zz.2.2.2) (t_0 / 10 ^ (5 * (n_0 - 1 - k)) % 100000)) := kev_6; rw [e9]; exact does_ok (Nat.le_of_lt_succ (Nat.mod_lt _ (by decide))) hZ) H locs ls hP hD hS (lv_sub hl [0, 1, 2, 3] rfl)
            · refine lv_iload hx hb dX8_runScript_93 (lv_at hl 0 rfl) ?_
              have ev_6 : (h_X8_does (zz.1) (zz.2.1) (zz.2.2.1) (zz.2.2.2) (t_0 / 10 ^ (5 * (n_0 - 1 - k)) % 100000)) = v_6 := Eq.symm kev_6
              have et_0 : told.toNatClampNeg = t_0 := Eq.symm ket_0
              have en_0 : n.toNatClampNeg = n_0 := Eq.symm ken_0
              have hE2 := (rRun_hit (show ¬ n_0 ≤ k by omega) kev_6 c_7).symm.trans hr9
              subst hQ
              exact k_ri hx hb hr hlocks hP hD hS dX8_runScript_95 (by rw [← hE2]) (by rw [← hE2])
      exact hloop_62 ((n_0 - 0) + 1) 0 (nw, be, cp, cn) (Nat.lt_succ_self _) (by omega) (by have e1 : n_0 = n.toNatClampNeg := ken_0; have e2 : t_0 = told.toNatClampNeg := ket_0; rw [e1, e2]; rfl) hO H locs ls hP hD hS (lv_sub hl [0, 2, 3, 4] rfl)
theorem qc_X8_runScript_bad_X8_runScript_0 : Cond.constantLong RX8 200 (3) ∈ wsX8_runScript := (List.mem_cons_of_mem _ (List.mem_append_left _ (List.mem_append_left _ (List.mem_of_getElem? (i := 0) rfl))))
set_option maxHeartbeats 4000000 in
set_option maxRecDepth 100000 in
theorem c_X8_runScript_bad (l : Launch) (D : va_G) (g : Nat → Nat) (m0 sc0 rd0 nw0 tr0 di0 ke0 ik0 cp0 cn0 be0 : Nat) (sz : Nat) (rf : Int32) (ss : Nat) (sp : Nat) (ig : Int32) (lo : Int32) (ac : Nat) (nw : Nat → Int32) (tr : Nat → Int32) (be : Nat → Int32) (cp : Nat → Int32) (cn : Nat → Int32) (n : Int32) (told : Int64) (hO : rdOk nw) (hk : ¬ (kc_X8_runScript n told) = 0) : kMi l D g yX8_runScript wsX8_runScript 8 0 0 [.ref m0, .int n, .long told] [(m0, .inr (8, [.int rf, .ref sc0, .int (nI ss), .int (nI sp), .int ig, .int lo, .ref rd0, .ref nw0, .ref tr0, .ref di0, .int (nI ac), .ref ke0, .ref ik0, .ref cp0, .ref cn0, .ref be0])), (nw0, .inl (g 0, 748, .inl nw)), (tr0, .inl (g 0, 748, .inl tr)), (be0, .inl (g 0, 748, .inl be)), (cp0, .inl (g 0, 10, .inl cp)), (cn0, .inl (g 0, 10, .inl cn))] sz 0 [(m0, .inr (8, [.int (kc_X8_runScript n told), .ref sc0, .int (nI ss), .int (nI sp), .int ig, .int lo, .ref rd0, .ref nw0, .ref tr0, .ref di0, .int (nI ac), .ref ke0, .ref ik0, .ref cp0, .ref cn0, .ref be0])), (nw0, .inl (g 0, 748, .inl nw)), (tr0, .inl (g 0, 748, .inl tr)), (be0, .inl (g 0, 748, .inl be)), (cp0, .inl (g 0, 10, .inl cp)), (cn0, .inl (g 0, 10, .inl cn))] := by
  refine k_enter (nm := "runScript") (own := RX8) (bytes := cX8_runScript) (maxL := 6) (ret := (some .int)) (Qf := fun A => kQi D [(m0, .inr (8, [.int (kc_X8_runScript n told), .ref sc0, .int (nI ss), .int (nI sp), .int ig, .int lo, .ref rd0, .ref nw0, .ref tr0, .ref di0, .int (nI ac), .ref ke0, .ref ik0, .ref cp0, .ref cn0, .ref be0])), (nw0, .inl (g 0, 748, .inl nw)), (tr0, .inl (g 0, 748, .inl tr)), (be0, .inl (g 0, 748, .inl be)), (cp0, .inl (g 0, 10, .inl cp)), (cn0, .inl (g 0, 10, .inl cn))] A 0) (by decide) rfl rfl rfl (Nat.le_of_ble_eq_true rfl) ?_
  rintro pp ee s mm below meth cc A ls args Q H locs hQ ⟨hx, hb, hr, hml, hown, hts, hlocks, hin⟩ hP hK hD hA hS hE hl
  have hl : lv_has ls 6 [(0, .ref m0), (1, .int n), (2, .long told)] := hl
  refine lv_iload_n hx hb dX8_runScript_0 rfl (lv_at hl 1 rfl) ?_
  refine lv_i2l (v := (Int32.toInt64 n)) hx hb dX8_runScript_1 rfl ?_
  refine lv_lconst (v := 1) hx hb dX8_runScript_2 (by decide) ?_
  refine lv_ldc2 hx hb hown (hts _ qc_X8_runScript_bad_X8_runScript_0) dX8_runScript_3 ?_
  refine k_ai (wr := [(m0, .inr (8, [.int rf, .ref sc0, .int (nI ss), .int (nI sp), .int ig, .int lo, .ref rd0, .ref nw0, .ref tr0, .ref di0, .int (nI ac), .ref ke0, .ref ik0, .ref cp0, .ref cn0, .ref be0])), (nw0, .inl (g 0, 748, .inl nw)), (tr0, .inl (g 0, 748, .inl tr)), (be0, .inl (g 0, 748, .inl be)), (cp0, .inl (g 0, 10, .inl cp)), (cn0, .inl (g 0, 10, .inl cn))]) (w2 := [(m0, .inr (8, [.int rf, .ref sc0, .int (nI ss), .int (nI sp), .int ig, .int lo, .ref rd0, .ref nw0, .ref tr0, .ref di0, .int (nI ac), .ref ke0, .ref ik0, .ref cp0, .ref cn0, .ref be0])), (nw0, .inl (g 0, 748, .inl nw)), (tr0, .inl (g 0, 748, .inl tr)), (be0, .inl (g 0, 748, .inl be)), (cp0, .inl (g 0, 10, .inl cp)), (cn0, .inl (g 0, 10, .inl cn))]) (va_runS (As := [.long (Int32.toInt64 n), .long 1, .long 3]) (rest := []) ⟨hx, hb, hml, hown, hts⟩ (c_X8_in l D g H.size (Int32.toInt64 n) 1 3) (va_cwS 3 hts gX8_runScript_X8_in rfl rfl rfl (by decide +kernel) (k_lvl (by omega) (by decide))) (kPS hP hD hK hS hA hE [] rfl (by decide)) rfl rfl hl.1 rfl (lv_room (Nat.le_of_ble_eq_true rfl)) dX8_runScript_6 ⟨Nat.le_of_ble_eq_true rfl, Nat.le_of_ble_eq_true rfl⟩) hP hD hS hA [] [0, 1, 2, 3, 4, 5] [0, 1, 2, 3, 4, 5] rfl rfl (by decide) (by decide) rfl (by decide) (fun H locs hP hD hS => ?_)
  refine lv_istore (lv' := [(4, .int (f_X8_in (Int32.toInt64 n) 1 3)), (0, .ref m0), (1, .int n), (2, .long told)]) hx hb dX8_runScript_9 hl (by decide) rfl (fun ls hl => ?_)
  refine lv_aload_n hx hb dX8_runScript_11 rfl (lv_at hl 1 rfl) ?_
  refine lv_iload hx hb dX8_runScript_12 (lv_at hl 0 rfl) ?_
  refine lv_if_eq (tgt := 46) hx hb dX8_runScript_14 (by decide) (fun c_1 => ?_) (fun c_1 => ?_)
  · refine lv_iconst (v := 1) hx hb dX8_runScript_46 (by decide) ?_
    refine k_ai (wr := [(nw0, .inl (g 0, 748, .inl nw)), (tr0, .inl (g 0, 748, .inl tr)), (be0, .inl (g 0, 748, .inl be)), (cp0, .inl (g 0, 10, .inl cp)), (cn0, .inl (g 0, 10, .inl cn))]) (w2 := [(m0, .inr (8, [.int 1, .ref sc0, .int (nI ss), .int (nI sp), .int ig, .int lo, .ref rd0, .ref nw0, .ref tr0, .ref di0, .int (nI ac), .ref ke0, .ref ik0, .ref cp0, .ref cn0, .ref be0])), (nw0, .inl (g 0, 748, .inl nw)), (tr0, .inl (g 0, 748, .inl tr)), (be0, .inl (g 0, 748, .inl be)), (cp0, .inl (g 0, 10, .inl cp)), (cn0, .inl (g 0, 10, .inl cn))]) (va_runV (As := [.int 1]) (rest := []) ⟨hx, hb, hml, hown, hts⟩ (c_X8_refused1 l D g m0 sc0 rd0 nw0 tr0 di0 ke0 ik0 cp0 cn0 be0 H.size rf ss sp ig lo ac) (cwV 1 hts gX8_runScript_X8_refused rfl rfl rfl (by decide +kernel) (k_lvl (by omega) (by decide))) (kPV hP hD hK hS hA hE [0] rfl (by decide) 0 8 rfl rfl rfl) rfl rfl hl.1 rfl (lv_room (Nat.le_of_ble_eq_true rfl)) dX8_runScript_47 ⟨Nat.le_of_ble_eq_true rfl, Nat.le_of_ble_eq_true rfl⟩) hP hD hS hA [0] [1, 2, 3, 4, 5] [5, 0, 1, 2, 3, 4] rfl rfl (by decide) (by decide) rfl (by decide) (fun H locs hP hD hS => ?_)
    refine lv_if_eq (tgt := 55) hx hb dX8_runScript_50 (by decide) (fun c_2 => absurd c_2 (by decide)) (fun _ => ?_)
    refine lv_iconst (v := 0) hx hb dX8_runScript_53 (by decide) ?_
    subst hQ
    exact k_ri hx hb hr hlocks hP hD hS dX8_runScript_54 (rfl) (by rw [show (kc_X8_runScript n told) = 1 from (if_pos c_1).trans (rfl)])
  · refine lv_lload_n hx hb dX8_runScript_17 rfl (lv_at hl 3 rfl) ?_
    refine lv_lconst (v := 0) hx hb dX8_runScript_18 (by decide) ?_
    refine lv_iload hx hb dX8_runScript_19 (lv_at hl 0 rfl) ?_
    refine lv_if_eq (tgt := 30) hx hb dX8_runScript_21 (by decide) (fun c_3 => absurd c_3 c_1) (fun _ => ?_)
    obtain ⟨n_0, en_0⟩ : ∃ z, z = n.toNatClampNeg := ⟨_, rfl⟩
    have qn_0 : n = nI n_0 := by rw [en_0]; exact (in_N1 (K := 3) (by decide) c_1).1
    have bn_0 : 1 ≤ n_0 ∧ n_0 ≤ 3 := by rw [en_0]; exact (in_N1 (K := 3) (by decide) c_1).2
    have ken_0 : kEq n_0 n.toNatClampNeg := en_0
    clear en_0
    have hl : lv_has ls 6 [(4, .int (f_X8_in (Int32.toInt64 (nI n_0)) 1 3)), (0, .ref m0), (1, .int (nI n_0)), (2, .long told)] := by
      have h9 := hl
      rw [qn_0] at h9
      exact h9
    refine lv_iconst (v := 5) hx hb dX8_runScript_24 (by decide) ?_
    refine lv_iload_n hx hb dX8_runScript_25 rfl (lv_at hl 2 rfl) ?_
    refine lv_imul hx hb dX8_runScript_26 ?_
    refine k_top (y := (nI (5 * n_0))) (pk_mul 5 n_0) ?_
    refine lv_goto (tgt := 31) hx hb dX8_runScript_27 (by decide) ?_
    refine k_al (wr := [(m0, .inr (8, [.int rf, .ref sc0, .int (nI ss), .int (nI sp), .int ig, .int lo, .ref rd0, .ref nw0, .ref tr0, .ref di0, .int (nI ac), .ref ke0, .ref ik0, .ref cp0, .ref cn0, .ref be0])), (nw0, .inl (g 0, 748, .inl nw)), (tr0, .inl (g 0, 748, .inl tr)), (be0, .inl (g 0, 748, .inl be)), (cp0, .inl (g 0, 10, .inl cp)), (cn0, .inl (g 0, 10, .inl cn))]) (w2 := [(m0, .inr (8, [.int rf, .ref sc0, .int (nI ss), .int (nI sp), .int ig, .int lo, .ref rd0, .ref nw0, .ref tr0, .ref di0, .int (nI ac), .ref ke0, .ref ik0, .ref cp0, .ref cn0, .ref be0])), (nw0, .inl (g 0, 748, .inl nw)), (tr0, .inl (g 0, 748, .inl tr)), (be0, .inl (g 0, 748, .inl be)), (cp0, .inl (g 0, 10, .inl cp)), (cn0, .inl (g 0, 10, .inl cn))]) (va_runS (As := [.int (nI (5 * n_0))]) (rest := [.long 0, .long told, .ref m0]) ⟨hx, hb, hml, hown, hts⟩ (c_X8_tenTo l D g H.size (5 * n_0) (by omega)) (va_cwS 1 hts gX8_runScript_X8_tenTo rfl rfl rfl (by decide +kernel) (k_lvl (by omega) (by decide))) (kPS hP hD hK hS hA hE [] rfl (by decide)) rfl rfl hl.1 rfl (lv_room (Nat.le_of_ble_eq_true rfl)) dX8_runScript_31 ⟨Nat.le_of_ble_eq_true rfl, Nat.le_of_ble_eq_true rfl⟩) hP hD hS hA [] [0, 1, 2, 3, 4, 5] [0, 1, 2, 3, 4, 5] rfl rfl (by decide) (by decide) rfl (by decide) (fun H locs hP hD hS => ?_)
    refine lv_lconst (v := 1) hx hb dX8_runScript_34 (by decide) ?_
    refine lv_lsub hx hb dX8_runScript_35 ?_
    refine k_ai (wr := [(m0, .inr (8, [.int rf, .ref sc0, .int (nI ss), .int (nI sp), .int ig, .int lo, .ref rd0, .ref nw0, .ref tr0, .ref di0, .int (nI ac), .ref ke0, .ref ik0, .ref cp0, .ref cn0, .ref be0])), (nw0, .inl (g 0, 748, .inl nw)), (tr0, .inl (g 0, 748, .inl tr)), (be0, .inl (g 0, 748, .inl be)), (cp0, .inl (g 0, 10, .inl cp)), (cn0, .inl (g 0, 10, .inl cn))]) (w2 := [(m0, .inr (8, [.int rf, .ref sc0, .int (nI ss), .int (nI sp), .int ig, .int lo, .ref rd0, .ref nw0, .ref tr0, .ref di0, .int (nI ac), .ref ke0, .ref ik0, .ref cp0, .ref cn0, .ref be0])), (nw0, .inl (g 0, 748, .inl nw)), (tr0, .inl (g 0, 748, .inl tr)), (be0, .inl (g 0, 748, .inl be)), (cp0, .inl (g 0, 10, .inl cp)), (cn0, .inl (g 0, 10, .inl cn))]) (va_runS (As := [.long told, .long 0, .long ((kTen (5 * n_0)) - 1)]) (rest := [.ref m0]) ⟨hx, hb, hml, hown, hts⟩ (c_X8_in l D g H.size told 0 ((kTen (5 * n_0)) - 1)) (va_cwS 3 hts gX8_runScript_X8_in rfl rfl rfl (by decide +kernel) (k_lvl (by omega) (by decide))) (kPS hP hD hK hS hA hE [] rfl (by decide)) rfl rfl hl.1 rfl (lv_room (Nat.le_of_ble_eq_true rfl)) dX8_runScript_36 ⟨Nat.le_of_ble_eq_true rfl, Nat.le_of_ble_eq_true rfl⟩) hP hD hS hA [] [0, 1, 2, 3, 4, 5] [0, 1, 2, 3, 4, 5] rfl rfl (by decide) (by decide) rfl (by decide) (fun H locs hP hD hS => ?_)
    refine lv_if_eq (tgt := 46) hx hb dX8_runScript_39 (by decide) (fun c_4 => ?_) (fun c_4 => ?_)
    · refine lv_iconst (v := 1) hx hb dX8_runScript_46 (by decide) ?_
      refine k_ai (wr := [(nw0, .inl (g 0, 748, .inl nw)), (tr0, .inl (g 0, 748, .inl tr)), (be0, .inl (g 0, 748, .inl be)), (cp0, .inl (g 0, 10, .inl cp)), (cn0, .inl (g 0, 10, .inl cn))]) (w2 := [(m0, .inr (8, [.int 1, .ref sc0, .int (nI ss), .int (nI sp), .int ig, .int lo, .ref rd0, .ref nw0, .ref tr0, .ref di0, .int (nI ac), .ref ke0, .ref ik0, .ref cp0, .ref cn0, .ref be0])), (nw0, .inl (g 0, 748, .inl nw)), (tr0, .inl (g 0, 748, .inl tr)), (be0, .inl (g 0, 748, .inl be)), (cp0, .inl (g 0, 10, .inl cp)), (cn0, .inl (g 0, 10, .inl cn))]) (va_runV (As := [.int 1]) (rest := []) ⟨hx, hb, hml, hown, hts⟩ (c_X8_refused1 l D g m0 sc0 rd0 nw0 tr0 di0 ke0 ik0 cp0 cn0 be0 H.size rf ss sp ig lo ac) (cwV 1 hts gX8_runScript_X8_refused rfl rfl rfl (by decide +kernel) (k_lvl (by omega) (by decide))) (kPV hP hD hK hS hA hE [0] rfl (by decide) 0 8 rfl rfl rfl) rfl rfl hl.1 rfl (lv_room (Nat.le_of_ble_eq_true rfl)) dX8_runScript_47 ⟨Nat.le_of_ble_eq_true rfl, Nat.le_of_ble_eq_true rfl⟩) hP hD hS hA [0] [1, 2, 3, 4, 5] [5, 0, 1, 2, 3, 4] rfl rfl (by decide) (by decide) rfl (by decide) (fun H locs hP hD hS => ?_)
      refine lv_if_eq (tgt := 55) hx hb dX8_runScript_50 (by decide) (fun c_5 => absurd c_5 (by decide)) (fun _ => ?_)
      refine lv_iconst (v := 0) hx hb dX8_runScript_53 (by decide) ?_
      have en_0 : n.toNatClampNeg = n_0 := Eq.symm ken_0
      subst en_0
      subst hQ
      exact k_ri hx hb hr hlocks hP hD hS dX8_runScript_54 (rfl) (by rw [show (kc_X8_runScript n told) = 1 from (if_neg c_1).trans ((if_pos c_4).trans (rfl))])
    · refine lv_iconst (v := 0) hx hb dX8_runScript_42 (by decide) ?_
      refine lv_goto (tgt := 47) hx hb dX8_runScript_43 (by decide) ?_
      have en_0 : n.toNatClampNeg = n_0 := Eq.symm ken_0
      subst en_0
      have h9 : (kc_X8_runScript n told) = 0 := (if_neg c_1).trans ((if_neg c_4).trans (rfl))
      exact absurd h9 hk
/-- the number that the generator's state gives -/
def kShr (x : Int64) : Int32 := Int64.toInt32 (((Int64.toUInt64 x) >>> ((Int32.toInt64 33).toUInt64 &&& Int64.toUInt64 63)).toInt64)
theorem kShr_N (x : Int64) : kShr x = nI (kShr x).toNatClampNeg ∧ (kShr x).toNatClampNeg < 2 ^ 31 := by
  have h0 : ¬ kShr x < 0 := by
    have e1 : ((Int32.toInt64 33).toUInt64 &&& Int64.toUInt64 63).toNat = 33 := by decide
    have e2 : (Int64.toUInt64 x >>> ((Int32.toInt64 33).toUInt64 &&& Int64.toUInt64 63)).toNat = x.toUInt64.toNat / 2 ^ 33 := by
      rw [UInt64.toNat_shiftRight, e1]
      exact Nat.shiftRight_eq_div_pow _ 33
    have e3 : (Int64.toUInt64 x >>> ((Int32.toInt64 33).toUInt64 &&& Int64.toUInt64 63)).toNat < 2 ^ 31 := by
      rw [e2]
      have := x.toUInt64.toNat_lt
      omega
    have e4 : ∀ u : UInt64, u.toNat < 2 ^ 31 → ¬ Int64.toInt32 u.toInt64 < 0 := by
      intro u hu h
      have h1 := Int32.lt_iff_toInt_lt.mp h
      have h2 : u.toInt64.toInt = (u.toNat : Int) := by
        show (u.toBitVec).toInt = _
        rw [BitVec.toInt_eq_toNat_cond]
        show (if 2 * u.toNat < 2 ^ 64 then (u.toNat : Int) else _) = _
        rw [if_pos (by omega)]
      rw [Int64.toInt_toInt32, h2, Int.bmod_def] at h1
      have h3 : (0 : Int32).toInt = 0 := by decide
      omega
    exact e4 _ e3
  obtain ⟨j, hj, e⟩ := nI_of h0
  rw [e, nI_clamp hj]
  exact ⟨rfl, hj⟩
/-- a simulation's calls: the generator's state, what they change -/
def rSim (mn : Nat) (seed : Int64) (t : KT) : Nat → Int64 × KT
  | 0 => (seed, t)
  | k + 1 => (((rSim mn seed t k).1 * 6364136223846793005) + 1442695040888963407, (h_X8_callIn (rSim mn seed t k).2.2.1 (rSim mn seed t k).2.2.2 (rSim mn seed t k).2.1 ((kShr (((rSim mn seed t k).1 * 6364136223846793005) + 1442695040888963407)).toNatClampNeg % mn) ((nI ((kShr (((rSim mn seed t k).1 * 6364136223846793005) + 1442695040888963407)).toNatClampNeg / 16 % 201)) - 100)).2)
theorem rSim_s {mn k : Nat} {seed x2 : Int64} {t : KT} {s : Int64 × KT} {v : Int32 × KT} {r : Nat} (hs : s = rSim mn seed t k) (hx : x2 = s.1 * 6364136223846793005 + 1442695040888963407) (hr : r = (kShr x2).toNatClampNeg) (hv : v = h_X8_callIn s.2.2.1 s.2.2.2 s.2.1 (r % mn) ((nI (r / 16 % 201)) - 100)) : (x2, v.2) = rSim mn seed t (k + 1) := by
  rw [rSim, ← hs, ← hx, ← hr, ← hv]
theorem rSim_same {mn : Nat} {seed : Int64} {t : KT} (hm : 0 < mn) (h9 : mn ≤ 10) (h : rdOk t.1) : ∀ k : Nat, kSame t.1 (rSim mn seed t k).2.1 := by
  intro k
  induction k with
  | zero => exact kSame.rf
  | succ k ih =>
    exact ih.trans (callIn_same (rdOk_same ih h).2 (Nat.lt_of_lt_of_le (Nat.mod_lt _ hm) h9))
/-- how many parts were blamed in a simulation -/
def rSp (tr nw : Nat → Int32) : Nat → Int32
  | 0 => 0
  | q + 1 => rSp tr nw q + (if tr (1 + 8 * q + 6) ≤ nw (1 + 8 * q + 6) then 0 else 1)
/-- what simulate answers before it does anything: 0, or which of its exceptions is thrown -/
def kc_X8_simulate (m : Int32) : Int32 :=
  if (f_X8_in (Int32.toInt64 m) 1 99) = 0 then
    1
  else
    0
theorem qX8_simulate_0 : Cond.constantLong RX8 206 (99) ∈ wsX8_simulate := (List.mem_cons_of_mem _ (List.mem_append_left _ (List.mem_append_left _ (List.mem_of_getElem? (i := 0) rfl))))
theorem qX8_simulate_1 : Cond.fieldLink RX8 16 "BlameChainsModel" "now" "[I" ∈ wsX8_simulate := (List.mem_cons_of_mem _ (List.mem_append_left _ (List.mem_append_left _ (List.mem_of_getElem? (i := 1) rfl))))
theorem qX8_simulate_2 : Cond.fieldLink RX8 19 "BlameChainsModel" "trial" "[I" ∈ wsX8_simulate := (List.mem_cons_of_mem _ (List.mem_append_left _ (List.mem_append_left _ (List.mem_of_getElem? (i := 4) rfl))))
theorem qX8_simulate_3 : Cond.constantLong RX8 273 (6364136223846793005) ∈ wsX8_simulate := (List.mem_cons_of_mem _ (List.mem_append_left _ (List.mem_append_left _ (List.mem_of_getElem? (i := 2) rfl))))
theorem qX8_simulate_4 : Cond.constantLong RX8 275 (1442695040888963407) ∈ wsX8_simulate := (List.mem_cons_of_mem _ (List.mem_append_left _ (List.mem_append_left _ (List.mem_of_getElem? (i := 3) rfl))))
set_option maxHeartbeats 4000000 in
set_option maxRecDepth 100000 in
theorem c_X8_simulate (l : Launch) (D : va_G) (g : Nat → Nat) (m0 sc0 rd0 nw0 tr0 di0 ke0 ik0 cp0 cn0 be0 : Nat) (sz : Nat) (rf : Int32) (ss : Nat) (sp : Nat) (ig : Int32) (lo : Int32) (ac : Nat) (nw : Nat → Int32) (tr : Nat → Int32) (cp : Nat → Int32) (cn : Nat → Int32) (seed : Int64) (m : Int32) (hO : rdOk nw) (hk : (kc_X8_simulate m) = 0) : kMi l D g yX8_simulate wsX8_simulate 6 0 0 [.ref m0, .long seed, .int m] [(m0, .inr (8, [.int rf, .ref sc0, .int (nI ss), .int (nI sp), .int ig, .int lo, .ref rd0, .ref nw0, .ref tr0, .ref di0, .int (nI ac), .ref ke0, .ref ik0, .ref cp0, .ref cn0, .ref be0])), (nw0, .inl (g 0, 748, .inl nw)), (tr0, .inl (g 0, 748, .inl tr)), (cp0, .inl (g 0, 10, .inl cp)), (cn0, .inl (g 0, 10, .inl cn))] sz ((10000 * (((rSim (nw 0).toNatClampNeg seed (nw, cp, cn) (if (nw 0).toNatClampNeg = 0 then 0 else m.toNatClampNeg)).2.1 684) - (nw 684))) + (100 * (((rSim (nw 0).toNatClampNeg seed (nw, cp, cn) (if (nw 0).toNatClampNeg = 0 then 0 else m.toNatClampNeg)).2.1 685) - (nw 685))) + rSp (rSim (nw 0).toNatClampNeg seed (nw, cp, cn) (if (nw 0).toNatClampNeg = 0 then 0 else m.toNatClampNeg)).2.1 nw (nw 0).toNatClampNeg) [(m0, .inr (8, [.int 0, .ref sc0, .int (nI ss), .int (nI sp), .int ig, .int lo, .ref rd0, .ref nw0, .ref tr0, .ref di0, .int (nI ac), .ref ke0, .ref ik0, .ref cp0, .ref cn0, .ref be0])), (nw0, .inl (g 0, 748, .inl nw)), (tr0, .inl (g 0, 748, .inl ((rSim (nw 0).toNatClampNeg seed (nw, cp, cn) (if (nw 0).toNatClampNeg = 0 then 0 else m.toNatClampNeg)).2.1))), (cp0, .inl (g 0, 10, .inl ((rSim (nw 0).toNatClampNeg seed (nw, cp, cn) (if (nw 0).toNatClampNeg = 0 then 0 else m.toNatClampNeg)).2.2.1))), (cn0, .inl (g 0, 10, .inl ((rSim (nw 0).toNatClampNeg seed (nw, cp, cn) (if (nw 0).toNatClampNeg = 0 then 0 else m.toNatClampNeg)).2.2.2)))] := by
  refine k_enter (nm := "simulate") (own := RX8) (bytes := cX8_simulate) (maxL := 8) (ret := (some .int)) (Qf := fun A => kQi D [(m0, .inr (8, [.int 0, .ref sc0, .int (nI ss), .int (nI sp), .int ig, .int lo, .ref rd0, .ref nw0, .ref tr0, .ref di0, .int (nI ac), .ref ke0, .ref ik0, .ref cp0, .ref cn0, .ref be0])), (nw0, .inl (g 0, 748, .inl nw)), (tr0, .inl (g 0, 748, .inl ((rSim (nw 0).toNatClampNeg seed (nw, cp, cn) (if (nw 0).toNatClampNeg = 0 then 0 else m.toNatClampNeg)).2.1))), (cp0, .inl (g 0, 10, .inl ((rSim (nw 0).toNatClampNeg seed (nw, cp, cn) (if (nw 0).toNatClampNeg = 0 then 0 else m.toNatClampNeg)).2.2.1))), (cn0, .inl (g 0, 10, .inl ((rSim (nw 0).toNatClampNeg seed (nw, cp, cn) (if (nw 0).toNatClampNeg = 0 then 0 else m.toNatClampNeg)).2.2.2)))] A ((10000 * (((rSim (nw 0).toNatClampNeg seed (nw, cp, cn) (if (nw 0).toNatClampNeg = 0 then 0 else m.toNatClampNeg)).2.1 684) - (nw 684))) + (100 * (((rSim (nw 0).toNatClampNeg seed (nw, cp, cn) (if (nw 0).toNatClampNeg = 0 then 0 else m.toNatClampNeg)).2.1 685) - (nw 685))) + rSp (rSim (nw 0).toNatClampNeg seed (nw, cp, cn) (if (nw 0).toNatClampNeg = 0 then 0 else m.toNatClampNeg)).2.1 nw (nw 0).toNatClampNeg)) (by decide) rfl rfl rfl (Nat.le_of_ble_eq_true rfl) ?_
  rintro pp ee s mm below meth cc A ls args Q H locs hQ ⟨hx, hb, hr, hml, hown, hts, hlocks, hin⟩ hP hK hD hA hS hE hl
  have hl : lv_has ls 8 [(0, .ref m0), (1, .long seed), (3, .int m)] := hl
  obtain ⟨mn_0, emn_0⟩ : ∃ z, z = (nw 0).toNatClampNeg := ⟨_, rfl⟩
  have hmn : nw 0 = nI mn_0 := by rw [emn_0]; exact (rdOk_mn hO).1
  have hm9 : mn_0 ≤ 10 := by rw [emn_0]; exact (rdOk_mn hO).2
  have kemn_0 : kEq mn_0 (nw 0).toNatClampNeg := emn_0
  clear emn_0
  refine lv_aload_n hx hb dX8_simulate_0 rfl (lv_at hl 0 rfl) ?_
  refine lv_iload_n hx hb dX8_simulate_1 rfl (lv_at hl 2 rfl) ?_
  refine lv_i2l (v := (Int32.toInt64 m)) hx hb dX8_simulate_2 rfl ?_
  refine lv_lconst (v := 1) hx hb dX8_simulate_3 (by decide) ?_
  refine lv_ldc2 hx hb hown (hts _ qX8_simulate_0) dX8_simulate_4 ?_
  refine k_ai (wr := [(m0, .inr (8, [.int rf, .ref sc0, .int (nI ss), .int (nI sp), .int ig, .int lo, .ref rd0, .ref nw0, .ref tr0, .ref di0, .int (nI ac), .ref ke0, .ref ik0, .ref cp0, .ref cn0, .ref be0])), (nw0, .inl (g 0, 748, .inl nw)), (tr0, .inl (g 0, 748, .inl tr)), (cp0, .inl (g 0, 10, .inl cp)), (cn0, .inl (g 0, 10, .inl cn))]) (w2 := [(m0, .inr (8, [.int rf, .ref sc0, .int (nI ss), .int (nI sp), .int ig, .int lo, .ref rd0, .ref nw0, .ref tr0, .ref di0, .int (nI ac), .ref ke0, .ref ik0, .ref cp0, .ref cn0, .ref be0])), (nw0, .inl (g 0, 748, .inl nw)), (tr0, .inl (g 0, 748, .inl tr)), (cp0, .inl (g 0, 10, .inl cp)), (cn0, .inl (g 0, 10, .inl cn))]) (va_runS (As := [.long (Int32.toInt64 m), .long 1, .long 99]) (rest := [.ref m0]) ⟨hx, hb, hml, hown, hts⟩ (c_X8_in l D g H.size (Int32.toInt64 m) 1 99) (va_cwS 3 hts gX8_simulate_X8_in rfl rfl rfl (by decide +kernel) (k_lvl (by omega) (by decide))) (kPS hP hD hK hS hA hE [] rfl (by decide)) rfl rfl hl.1 rfl (lv_room (Nat.le_of_ble_eq_true rfl)) dX8_simulate_7 ⟨Nat.le_of_ble_eq_true rfl, Nat.le_of_ble_eq_true rfl⟩) hP hD hS hA [] [0, 1, 2, 3, 4] [0, 1, 2, 3, 4] rfl rfl (by decide) (by decide) rfl (by decide) (fun H locs hP hD hS => ?_)
  refine lv_if_eq (tgt := 17) hx hb dX8_simulate_10 (by decide) (fun c_1 => ?_) (fun c_1 => ?_)
  · refine lv_iconst (v := 1) hx hb dX8_simulate_17 (by decide) ?_
    have emn_0 : (nw 0).toNatClampNeg = mn_0 := Eq.symm kemn_0
    subst emn_0
    have h9 : (kc_X8_simulate m) = 1 := (if_pos c_1).trans (rfl)
    rw [hk] at h9
    exact absurd h9 (by decide)
  · refine lv_iconst (v := 0) hx hb dX8_simulate_13 (by decide) ?_
    refine lv_goto (tgt := 18) hx hb dX8_simulate_14 (by decide) ?_
    refine k_ai (wr := [(nw0, .inl (g 0, 748, .inl nw)), (tr0, .inl (g 0, 748, .inl tr)), (cp0, .inl (g 0, 10, .inl cp)), (cn0, .inl (g 0, 10, .inl cn))]) (w2 := [(m0, .inr (8, [.int 0, .ref sc0, .int (nI ss), .int (nI sp), .int ig, .int lo, .ref rd0, .ref nw0, .ref tr0, .ref di0, .int (nI ac), .ref ke0, .ref ik0, .ref cp0, .ref cn0, .ref be0])), (nw0, .inl (g 0, 748, .inl nw)), (tr0, .inl (g 0, 748, .inl tr)), (cp0, .inl (g 0, 10, .inl cp)), (cn0, .inl (g 0, 10, .inl cn))]) (va_runV (As := [.int 0]) (rest := []) ⟨hx, hb, hml, hown, hts⟩ (c_X8_refused0 l D g m0 sc0 rd0 nw0 tr0 di0 ke0 ik0 cp0 cn0 be0 H.size rf ss sp ig lo ac) (cwV 1 hts gX8_simulate_X8_refused rfl rfl rfl (by decide +kernel) (k_lvl (by omega) (by decide))) (kPV hP hD hK hS hA hE [0] rfl (by decide) 0 8 rfl rfl rfl) rfl rfl hl.1 rfl (lv_room (Nat.le_of_ble_eq_true rfl)) dX8_simulate_18 ⟨Nat.le_of_ble_eq_true rfl, Nat.le_of_ble_eq_true rfl⟩) hP hD hS hA [0] [1, 2, 3, 4] [4, 0, 1, 2, 3] rfl rfl (by decide) (by decide) rfl (by decide) (fun H locs hP hD hS => ?_)
    refine lv_if_eq (tgt := 26) hx hb dX8_simulate_21 (by decide) (fun _ => ?_) (fun c_2 => absurd c_2 (by decide))
    obtain ⟨m_0, em_0⟩ : ∃ z, z = m.toNatClampNeg := ⟨_, rfl⟩
    have qm_0 : m = nI m_0 := by rw [em_0]; exact (in_N1 (K := 99) (by decide) c_1).1
    have bm_0 : 1 ≤ m_0 ∧ m_0 ≤ 99 := by rw [em_0]; exact (in_N1 (K := 99) (by decide) c_1).2
    have kem_0 : kEq m_0 m.toNatClampNeg := em_0
    clear em_0
    have hl : lv_has ls 8 [(0, .ref m0), (1, .long seed), (3, .int (nI m_0))] := by
      have h9 := hl
      rw [qm_0] at h9
      exact h9
    refine lv_aload_n hx hb dX8_simulate_26 rfl (lv_at hl 0 rfl) ?_
    refine k_av (wr := [(cp0, .inl (g 0, 10, .inl cp)), (cn0, .inl (g 0, 10, .inl cn))]) (w2 := [(m0, .inr (8, [.int 0, .ref sc0, .int (nI ss), .int (nI sp), .int ig, .int lo, .ref rd0, .ref nw0, .ref tr0, .ref di0, .int (nI ac), .ref ke0, .ref ik0, .ref cp0, .ref cn0, .ref be0])), (nw0, .inl (g 0, 748, .inl nw)), (tr0, .inl (g 0, 748, .inl nw)), (cp0, .inl (g 0, 10, .inl cp)), (cn0, .inl (g 0, 10, .inl cn))]) (va_runV (As := []) (rest := []) ⟨hx, hb, hml, hown, hts⟩ (c_X8_tryIt l D g m0 sc0 rd0 nw0 tr0 di0 ke0 ik0 cp0 cn0 be0 H.size 0 ss sp ig lo ac nw tr) (cwV 0 hts gX8_simulate_X8_tryIt rfl rfl rfl (by decide +kernel) (k_lvl (by omega) (by decide))) (kPV hP hD hK hS hA hE [0, 1, 2] rfl (by decide) 0 8 rfl rfl rfl) rfl rfl hl.1 rfl (lv_room (Nat.le_of_ble_eq_true rfl)) dX8_simulate_27 ⟨Nat.le_of_ble_eq_true rfl, Nat.le_of_ble_eq_true rfl⟩) hP hD hS hA [0, 1, 2] [3, 4] [2, 3, 4, 0, 1] rfl rfl (by decide) (by decide) rfl (by decide) (fun H locs hP hD hS => ?_)
    refine lv_lload_n hx hb dX8_simulate_30 rfl (lv_at hl 1 rfl) ?_
    refine lv_lstore (lv' := [(4, .long seed), (0, .ref m0), (1, .long seed), (3, .int (nI m_0))]) hx hb dX8_simulate_31 hl (by decide) rfl (fun ls hl => ?_)
    refine lv_iconst (v := 0) hx hb dX8_simulate_33 (by decide) ?_
    refine lv_istore (lv' := [(6, .int 0), (4, .long seed), (0, .ref m0), (1, .long seed), (3, .int (nI m_0))]) hx hb dX8_simulate_34 hl (by decide) rfl (fun ls hl => ?_)
    have hloop_36 : ∀ (nn_36 : Nat) (k : Nat) (s9 : Int64 × KT), m_0 - k < nn_36 → ∀ (hk : k ≤ m_0) (hs : s9 = rSim mn_0 seed (nw, cp, cn) k) (hSS9 : rdOk s9.2.1) (hk0 : mn_0 = 0 → k = 0) (H : Heap) (locs : List Loc) (ls : Array Slot), va_P D vwCl [(m0, .inr (8, [.int 0, .ref sc0, .int (nI ss), .int (nI sp), .int ig, .int lo, .ref rd0, .ref nw0, .ref tr0, .ref di0, .int (nI ac), .ref ke0, .ref ik0, .ref cp0, .ref cn0, .ref be0])), (nw0, .inl (g 0, 748, .inl nw)), (tr0, .inl (g 0, 748, .inl (s9.2.1))), (cp0, .inl (g 0, 10, .inl (s9.2.2.1))), (cn0, .inl (g 0, 10, .inl (s9.2.2.2)))] H → va_D A [(m0, .inr (8, [.int 0, .ref sc0, .int (nI ss), .int (nI sp), .int ig, .int lo, .ref rd0, .ref nw0, .ref tr0, .ref di0, .int (nI ac), .ref ke0, .ref ik0, .ref cp0, .ref cn0, .ref be0])), (nw0, .inl (g 0, 748, .inl nw)), (tr0, .inl (g 0, 748, .inl (s9.2.1))), (cp0, .inl (g 0, 10, .inl (s9.2.2.1))), (cn0, .inl (g 0, 10, .inl (s9.2.2.2)))] → va_S A s.heap H locs → lv_has ls 8 [(6, .int (nI k)), (4, .long s9.1), (0, .ref m0), (3, .int (nI m_0))] → W pp l ee (kR 6 0 0) s mm args below meth cc H locs 0 0 Q (F0 mm 36 ls []) := by
      intro nn_36
      induction nn_36 with
      | zero => intro k s9 hm9; exact absurd hm9 (Nat.not_lt_zero _)
      | succ nn_36 ih_36 =>
        intro k s9 hm_36 hk hs hSS9 hk0 H locs ls hP hD hS hl
        refine lv_iload hx hb dX8_simulate_36 (lv_at hl 0 rfl) ?_
        refine lv_iload_n hx hb dX8_simulate_38 rfl (lv_at hl 3 rfl) ?_
        refine lv_icmp_ge (tgt := 107) hx hb dX8_simulate_39 (by decide) (fun c_3 => ?_) (fun c_3 => ?_)
        · have c_3 : m_0 ≤ k := (nI_leI (a := m_0) (b := k) (by omega) (by omega)).mp c_3
          refine lv_iconst (v := 0) hx hb dX8_simulate_107 (by decide) ?_
          refine lv_istore (lv' := [(6, .int 0), (4, .long s9.1), (0, .ref m0), (3, .int (nI m_0))]) hx hb dX8_simulate_108 hl (by decide) rfl (fun ls hl => ?_)
          refine lv_iconst (v := 0) hx hb dX8_simulate_110 (by decide) ?_
          refine lv_istore (lv' := [(7, .int 0), (6, .int 0), (4, .long s9.1), (0, .ref m0), (3, .int (nI m_0))]) hx hb dX8_simulate_111 hl (by decide) rfl (fun ls hl => ?_)
          have hloop_113 : ∀ (nn_113 : Nat) (q : Nat) (b : Int32), mn_0 - q < nn_113 → ∀ (hq : q ≤ mn_0) (hb9 : b = rSp s9.2.1 nw q) (H : Heap) (locs : List Loc) (ls : Array Slot), va_P D vwCl [(m0, .inr (8, [.int 0, .ref sc0, .int (nI ss), .int (nI sp), .int ig, .int lo, .ref rd0, .ref nw0, .ref tr0, .ref di0, .int (nI ac), .ref ke0, .ref ik0, .ref cp0, .ref cn0, .ref be0])), (nw0, .inl (g 0, 748, .inl nw)), (tr0, .inl (g 0, 748, .inl (s9.2.1))), (cp0, .inl (g 0, 10, .inl (s9.2.2.1))), (cn0, .inl (g 0, 10, .inl (s9.2.2.2)))] H → va_D A [(m0, .inr (8, [.int 0, .ref sc0, .int (nI ss), .int (nI sp), .int ig, .int lo, .ref rd0, .ref nw0, .ref tr0, .ref di0, .int (nI ac), .ref ke0, .ref ik0, .ref cp0, .ref cn0, .ref be0])), (nw0, .inl (g 0, 748, .inl nw)), (tr0, .inl (g 0, 748, .inl (s9.2.1))), (cp0, .inl (g 0, 10, .inl (s9.2.2.1))), (cn0, .inl (g 0, 10, .inl (s9.2.2.2)))] → va_S A s.heap H locs → lv_has ls 8 [(7, .int (nI q)), (6, .int b), (0, .ref m0)] → W pp l ee (kR 6 0 0) s mm args below meth cc H locs 0 0 Q (F0 mm 113 ls []) := by
            intro nn_113
            induction nn_113 with
            | zero => intro q b hm9; exact absurd hm9 (Nat.not_lt_zero _)
            | succ nn_113 ih_113 =>
              intro q b hm_113 hq hb9 H locs ls hP hD hS hl
              refine lv_iload hx hb dX8_simulate_113 (lv_at hl 0 rfl) ?_
              refine lv_aload_n hx hb dX8_simulate_115 rfl (lv_at hl 2 rfl) ?_
              refine va_get (D := D) (ci := 8) (v := .ref nw0) (C := RX8) (T := TX8) (N := 16) hx hb hts (fun w h => (List.mem_cons_of_mem _ (List.mem_append_right _ h))) hown hK hP 0 rfl rfl 7 (by decide) (hts _ qX8_simulate_1) (fun _ h9 => h9) rfl dX8_simulate_116 ?_
              refine lv_iconst (v := 0) hx hb dX8_simulate_119 (by decide) ?_
              refine va_iald (i := 0) hx hb hK hP 1 0 rfl rfl (vp_in_nI (n := 0) (by decide) (by decide)) dX8_simulate_120 ?_
              refine k_top (y := (nw 0)) rfl ?_
              refine k_top (y := (nI mn_0)) (hmn) ?_
              refine lv_icmp_ge (tgt := 167) hx hb dX8_simulate_121 (by decide) (fun c_4 => ?_) (fun c_4 => ?_)
              · have c_4 : mn_0 ≤ q := (nI_leI (a := mn_0) (b := q) (by omega) (by omega)).mp c_4
                refine lv_sipush (v := 10000) hx hb dX8_simulate_167 (by decide) ?_
                refine lv_aload_n hx hb dX8_simulate_170 rfl (lv_at hl 2 rfl) ?_
                refine va_get (D := D) (ci := 8) (v := .ref tr0) (C := RX8) (T := TX8) (N := 16) hx hb hts (fun w h => (List.mem_cons_of_mem _ (List.mem_append_right _ h))) hown hK hP 0 rfl rfl 8 (by decide) (hts _ qX8_simulate_2) (fun _ h9 => h9) rfl dX8_simulate_171 ?_
                refine lv_sipush (v := 684) hx hb dX8_simulate_174 (by decide) ?_
                refine va_iald (i := 684) hx hb hK hP 2 0 rfl rfl (vp_in_nI (n := 684) (by decide) (by decide)) dX8_simulate_177 ?_
                refine k_top (y := ((s9.2.1) 684)) rfl ?_
                refine lv_aload_n hx hb dX8_simulate_178 rfl (lv_at hl 2 rfl) ?_
                refine va_get (D := D) (ci := 8) (v := .ref nw0) (C := RX8) (T := TX8) (N := 16) hx hb hts (fun w h => (List.mem_cons_of_mem _ (List.mem_append_right _ h))) hown hK hP 0 rfl rfl 7 (by decide) (hts _ qX8_simulate_1) (fun _ h9 => h9) rfl dX8_simulate_179 ?_
                refine lv_sipush (v := 684) hx hb dX8_simulate_182 (by decide) ?_
                refine va_iald (i := 684) hx hb hK hP 1 0 rfl rfl (vp_in_nI (n := 684) (by decide) (by decide)) dX8_simulate_185 ?_
                refine k_top (y := (nw 684)) rfl ?_
                refine lv_isub hx hb dX8_simulate_186 ?_
                refine lv_imul hx hb dX8_simulate_187 ?_
                refine lv_bipush (v := 100) hx hb dX8_simulate_188 (by decide) ?_
                refine lv_aload_n hx hb dX8_simulate_190 rfl (lv_at hl 2 rfl) ?_
                refine va_get (D := D) (ci := 8) (v := .ref tr0) (C := RX8) (T := TX8) (N := 16) hx hb hts (fun w h => (List.mem_cons_of_mem _ (List.mem_append_right _ h))) hown hK hP 0 rfl rfl 8 (by decide) (hts _ qX8_simulate_2) (fun _ h9 => h9) rfl dX8_simulate_191 ?_
                refine lv_sipush (v := 685) hx hb dX8_simulate_194 (by decide) ?_
                refine va_iald (i := 685) hx hb hK hP 2 0 rfl rfl (vp_in_nI (n := 685) (by decide) (by decide)) dX8_simulate_197 ?_
                refine k_top (y := ((s9.2.1) 685)) rfl ?_
                refine lv_aload_n hx hb dX8_simulate_198 rfl (lv_at hl 2 rfl) ?_
                refine va_get (D := D) (ci := 8) (v := .ref nw0) (C := RX8) (T := TX8) (N := 16) hx hb hts (fun w h => (List.mem_cons_of_mem _ (List.mem_append_right _ h))) hown hK hP 0 rfl rfl 7 (by decide) (hts _ qX8_simulate_1) (fun _ h9 => h9) rfl dX8_simulate_199 ?_
                refine lv_sipush (v := 685) hx hb dX8_simulate_202 (by decide) ?_
                refine va_iald (i := 685) hx hb hK hP 1 0 rfl rfl (vp_in_nI (n := 685) (by decide) (by decide)) dX8_simulate_205 ?_
                refine k_top (y := (nw 685)) rfl ?_
                refine lv_isub hx hb dX8_simulate_206 ?_
                refine lv_imul hx hb dX8_simulate_207 ?_
                refine lv_iadd hx hb dX8_simulate_208 ?_
                refine lv_iload hx hb dX8_simulate_209 (lv_at hl 1 rfl) ?_
                refine lv_iadd hx hb dX8_simulate_211 ?_
                have em_0 : m.toNatClampNeg = m_0 := Eq.symm kem_0
                have emn_0 : (nw 0).toNatClampNeg = mn_0 := Eq.symm kemn_0
                have hq8 : mn_0 = q := by omega
                subst hq8
                have hk9 : k = if mn_0 = 0 then 0 else m_0 := by
                  by_cases h8 : mn_0 = 0
                  · rw [if_pos h8]; exact hk0 h8
                  · rw [if_neg h8]; omega
                subst hk9
                subst em_0
                subst emn_0
                subst hs
                subst hQ
                exact k_ri hx hb hr hlocks hP hD hS dX8_simulate_212 (by rw [hb9]) (rfl)
              · have c_4 : ¬ (mn_0 ≤ q) := fun h9 => c_4 ((nI_leI (a := mn_0) (b := q) (by omega) (by omega)).mpr h9)
                refine lv_iload hx hb dX8_simulate_124 (lv_at hl 1 rfl) ?_
                refine lv_aload_n hx hb dX8_simulate_126 rfl (lv_at hl 2 rfl) ?_
                refine va_get (D := D) (ci := 8) (v := .ref tr0) (C := RX8) (T := TX8) (N := 16) hx hb hts (fun w h => (List.mem_cons_of_mem _ (List.mem_append_right _ h))) hown hK hP 0 rfl rfl 8 (by decide) (hts _ qX8_simulate_2) (fun _ h9 => h9) rfl dX8_simulate_127 ?_
                refine lv_iload hx hb dX8_simulate_130 (lv_at hl 0 rfl) ?_
                refine lv_bipush (v := 6) hx hb dX8_simulate_132 (by decide) ?_
                refine k_ai (wr := [(m0, .inr (8, [.int 0, .ref sc0, .int (nI ss), .int (nI sp), .int ig, .int lo, .ref rd0, .ref nw0, .ref tr0, .ref di0, .int (nI ac), .ref ke0, .ref ik0, .ref cp0, .ref cn0, .ref be0])), (nw0, .inl (g 0, 748, .inl nw)), (tr0, .inl (g 0, 748, .inl (s9.2.1))), (cp0, .inl (g 0, 10, .inl (s9.2.2.1))), (cn0, .inl (g 0, 10, .inl (s9.2.2.2)))]) (w2 := [(m0, .inr (8, [.int 0, .ref sc0, .int (nI ss), .int (nI sp), .int ig, .int lo, .ref rd0, .ref nw0, .ref tr0, .ref di0, .int (nI ac), .ref ke0, .ref ik0, .ref cp0, .ref cn0, .ref be0])), (nw0, .inl (g 0, 748, .inl nw)), (tr0, .inl (g 0, 748, .inl (s9.2.1))), (cp0, .inl (g 0, 10, .inl (s9.2.2.1))), (cn0, .inl (g 0, 10, .inl (s9.2.2.2)))]) (va_runS (As := [.int (nI q), .int 6]) (rest := [.ref tr0, .int b]) ⟨hx, hb, hml, hown, hts⟩ (c_X8_partAt l D g H.size q 6) (va_cwS 2 hts gX8_simulate_X8_partAt rfl rfl rfl (by decide +kernel) (k_lvl (by omega) (by decide))) (kPS hP hD hK hS hA hE [] rfl (by decide)) rfl rfl hl.1 rfl (lv_room (Nat.le_of_ble_eq_true rfl)) dX8_simulate_134 ⟨Nat.le_of_ble_eq_true rfl, Nat.le_of_ble_eq_true rfl⟩) hP hD hS hA [] [0, 1, 2, 3, 4] [0, 1, 2, 3, 4] rfl rfl (by decide) (by decide) rfl (by decide) (fun H locs hP hD hS => ?_)
                refine va_iald (i := (nI (1 + 8 * q + 6))) hx hb hK hP 2 0 rfl rfl (vp_in_nI (n := (1 + 8 * q + 6)) (by omega) (by omega)) dX8_simulate_137 ?_
                refine k_top (y := ((s9.2.1) (1 + 8 * q + 6))) (by rw [nI_clamp (by omega)]) ?_
                refine lv_aload_n hx hb dX8_simulate_138 rfl (lv_at hl 2 rfl) ?_
                refine va_get (D := D) (ci := 8) (v := .ref nw0) (C := RX8) (T := TX8) (N := 16) hx hb hts (fun w h => (List.mem_cons_of_mem _ (List.mem_append_right _ h))) hown hK hP 0 rfl rfl 7 (by decide) (hts _ qX8_simulate_1) (fun _ h9 => h9) rfl dX8_simulate_139 ?_
                refine lv_iload hx hb dX8_simulate_142 (lv_at hl 0 rfl) ?_
                refine lv_bipush (v := 6) hx hb dX8_simulate_144 (by decide) ?_
                refine k_ai (wr := [(m0, .inr (8, [.int 0, .ref sc0, .int (nI ss), .int (nI sp), .int ig, .int lo, .ref rd0, .ref nw0, .ref tr0, .ref di0, .int (nI ac), .ref ke0, .ref ik0, .ref cp0, .ref cn0, .ref be0])), (nw0, .inl (g 0, 748, .inl nw)), (tr0, .inl (g 0, 748, .inl (s9.2.1))), (cp0, .inl (g 0, 10, .inl (s9.2.2.1))), (cn0, .inl (g 0, 10, .inl (s9.2.2.2)))]) (w2 := [(m0, .inr (8, [.int 0, .ref sc0, .int (nI ss), .int (nI sp), .int ig, .int lo, .ref rd0, .ref nw0, .ref tr0, .ref di0, .int (nI ac), .ref ke0, .ref ik0, .ref cp0, .ref cn0, .ref be0])), (nw0, .inl (g 0, 748, .inl nw)), (tr0, .inl (g 0, 748, .inl (s9.2.1))), (cp0, .inl (g 0, 10, .inl (s9.2.2.1))), (cn0, .inl (g 0, 10, .inl (s9.2.2.2)))]) (va_runS (As := [.int (nI q), .int 6]) (rest := [.ref nw0, .int ((s9.2.1) (1 + 8 * q + 6)), .int b]) ⟨hx, hb, hml, hown, hts⟩ (c_X8_partAt l D g H.size q 6) (va_cwS 2 hts gX8_simulate_X8_partAt rfl rfl rfl (by decide +kernel) (k_lvl (by omega) (by decide))) (kPS hP hD hK hS hA hE [] rfl (by decide)) rfl rfl hl.1 rfl (lv_room (Nat.le_of_ble_eq_true rfl)) dX8_simulate_146 ⟨Nat.le_of_ble_eq_true rfl, Nat.le_of_ble_eq_true rfl⟩) hP hD hS hA [] [0, 1, 2, 3, 4] [0, 1, 2, 3, 4] rfl rfl (by decide) (by decide) rfl (by decide) (fun H locs hP hD hS => ?_)
                refine va_iald (i := (nI (1 + 8 * q + 6))) hx hb hK hP 1 0 rfl rfl (vp_in_nI (n := (1 + 8 * q + 6)) (by omega) (by omega)) dX8_simulate_149 ?_
                refine k_top (y := (nw (1 + 8 * q + 6))) (by rw [nI_clamp (by omega)]) ?_
                refine lv_icmp_le (tgt := 157) hx hb dX8_simulate_150 (by decide) (fun c_5 => ?_) (fun c_5 => ?_)
                · refine lv_iconst (v := 0) hx hb dX8_simulate_157 (by decide) ?_
                  refine lv_iadd hx hb dX8_simulate_158 ?_
                  refine lv_istore (lv' := [(6, .int (b + 0)), (7, .int (nI q)), (0, .ref m0)]) hx hb dX8_simulate_159 hl (by decide) rfl (fun ls hl => ?_)
                  refine lv_iinc (v := (nI (q + 1))) (lv' := [(7, .int (nI (q + 1))), (6, .int (b + 0)), (0, .ref m0)]) hx hb dX8_simulate_161 hl (k := 1) rfl (nI_1 _) (by decide) rfl (fun ls hl => ?_)
                  refine lv_goto (tgt := 113) hx hb dX8_simulate_164 (by decide) ?_
                  exact ih_113 (q + 1) (b + 0) (by omega) (by omega) (by rw [rSp, if_pos c_5, hb9]) H locs ls hP hD hS (lv_sub hl [0, 1, 2] rfl)
                · refine lv_iconst (v := 1) hx hb dX8_simulate_153 (by decide) ?_
                  refine lv_goto (tgt := 158) hx hb dX8_simulate_154 (by decide) ?_
                  refine lv_iadd hx hb dX8_simulate_158 ?_
                  refine lv_istore (lv' := [(6, .int (b + 1)), (7, .int (nI q)), (0, .ref m0)]) hx hb dX8_simulate_159 hl (by decide) rfl (fun ls hl => ?_)
                  refine lv_iinc (v := (nI (q + 1))) (lv' := [(7, .int (nI (q + 1))), (6, .int (b + 1)), (0, .ref m0)]) hx hb dX8_simulate_161 hl (k := 1) rfl (nI_1 _) (by decide) rfl (fun ls hl => ?_)
                  refine lv_goto (tgt := 113) hx hb dX8_simulate_164 (by decide) ?_
                  exact ih_113 (q + 1) (b + 1) (by omega) (by omega) (by rw [rSp, if_neg c_5, hb9]) H locs ls hP hD hS (lv_sub hl [0, 1, 2] rfl)
          exact hloop_113 ((mn_0 - 0) + 1) 0 0 (Nat.lt_succ_self _) (by omega) rfl H locs ls hP hD hS (lv_sub hl [0, 1, 3] rfl)
        · have c_3 : ¬ (m_0 ≤ k) := fun h9 => c_3 ((nI_leI (a := m_0) (b := k) (by omega) (by omega)).mpr h9)
          refine lv_aload_n hx hb dX8_simulate_42 rfl (lv_at hl 2 rfl) ?_
          refine va_get (D := D) (ci := 8) (v := .ref nw0) (C := RX8) (T := TX8) (N := 16) hx hb hts (fun w h => (List.mem_cons_of_mem _ (List.mem_append_right _ h))) hown hK hP 0 rfl rfl 7 (by decide) (hts _ qX8_simulate_1) (fun _ h9 => h9) rfl dX8_simulate_43 ?_
          refine lv_iconst (v := 0) hx hb dX8_simulate_46 (by decide) ?_
          refine va_iald (i := 0) hx hb hK hP 1 0 rfl rfl (vp_in_nI (n := 0) (by decide) (by decide)) dX8_simulate_47 ?_
          refine k_top (y := (nw 0)) rfl ?_
          refine k_top (y := (nI mn_0)) (hmn) ?_
          refine lv_if_le (tgt := 107) hx hb dX8_simulate_48 (by decide) (fun c_6 => ?_) (fun c_6 => ?_)
          · have c_6 : mn_0 ≤ 0 := (nI_leI (a := mn_0) (b := 0) (by omega) (by omega)).mp c_6
            refine lv_iconst (v := 0) hx hb dX8_simulate_107 (by decide) ?_
            refine lv_istore (lv' := [(6, .int 0), (4, .long s9.1), (0, .ref m0), (3, .int (nI m_0))]) hx hb dX8_simulate_108 hl (by decide) rfl (fun ls hl => ?_)
            refine lv_iconst (v := 0) hx hb dX8_simulate_110 (by decide) ?_
            refine lv_istore (lv' := [(7, .int 0), (6, .int 0), (4, .long s9.1), (0, .ref m0), (3, .int (nI m_0))]) hx hb dX8_simulate_111 hl (by decide) rfl (fun ls hl => ?_)
            have hloop_113 : ∀ (nn_113 : Nat) (q : Nat) (b : Int32), mn_0 - q < nn_113 → ∀ (hq : q ≤ mn_0) (hb9 : b = rSp s9.2.1 nw q) (H : Heap) (locs : List Loc) (ls : Array Slot), va_P D vwCl [(m0, .inr (8, [.int 0, .ref sc0, .int (nI ss), .int (nI sp), .int ig, .int lo, .ref rd0, .ref nw0, .ref tr0, .ref di0, .int (nI ac), .ref ke0, .ref ik0, .ref cp0, .ref cn0, .ref be0])), (nw0, .inl (g 0, 748, .inl nw)), (tr0, .inl (g 0, 748, .inl (s9.2.1))), (cp0, .inl (g 0, 10, .inl (s9.2.2.1))), (cn0, .inl (g 0, 10, .inl (s9.2.2.2)))] H → va_D A [(m0, .inr (8, [.int 0, .ref sc0, .int (nI ss), .int (nI sp), .int ig, .int lo, .ref rd0, .ref nw0, .ref tr0, .ref di0, .int (nI ac), .ref ke0, .ref ik0, .ref cp0, .ref cn0, .ref be0])), (nw0, .inl (g 0, 748, .inl nw)), (tr0, .inl (g 0, 748, .inl (s9.2.1))), (cp0, .inl (g 0, 10, .inl (s9.2.2.1))), (cn0, .inl (g 0, 10, .inl (s9.2.2.2)))] → va_S A s.heap H locs → lv_has ls 8 [(7, .int (nI q)), (6, .int b), (0, .ref m0)] → W pp l ee (kR 6 0 0) s mm args below meth cc H locs 0 0 Q (F0 mm 113 ls []) := by
              intro nn_113
              induction nn_113 with
              | zero => intro q b hm9; exact absurd hm9 (Nat.not_lt_zero _)
              | succ nn_113 ih_113 =>
                intro q b hm_113 hq hb9 H locs ls hP hD hS hl
                refine lv_iload hx hb dX8_simulate_113 (lv_at hl 0 rfl) ?_
                refine lv_aload_n hx hb dX8_simulate_115 rfl (lv_at hl 2 rfl) ?_
                refine va_get (D := D) (ci := 8) (v := .ref nw0) (C := RX8) (T := TX8) (N := 16) hx hb hts (fun w h => (List.mem_cons_of_mem _ (List.mem_append_right _ h))) hown hK hP 0 rfl rfl 7 (by decide) (hts _ qX8_simulate_1) (fun _ h9 => h9) rfl dX8_simulate_116 ?_
                refine lv_iconst (v := 0) hx hb dX8_simulate_119 (by decide) ?_
                refine va_iald (i := 0) hx hb hK hP 1 0 rfl rfl (vp_in_nI (n := 0) (by decide) (by decide)) dX8_simulate_120 ?_
                refine k_top (y := (nw 0)) rfl ?_
                refine k_top (y := (nI mn_0)) (hmn) ?_
                refine lv_icmp_ge (tgt := 167) hx hb dX8_simulate_121 (by decide) (fun c_7 => ?_) (fun c_7 => ?_)
                · have c_7 : mn_0 ≤ q := (nI_leI (a := mn_0) (b := q) (by omega) (by omega)).mp c_7
                  refine lv_sipush (v := 10000) hx hb dX8_simulate_167 (by decide) ?_
                  refine lv_aload_n hx hb dX8_simulate_170 rfl (lv_at hl 2 rfl) ?_
                  refine va_get (D := D) (ci := 8) (v := .ref tr0) (C := RX8) (T := TX8) (N := 16) hx hb hts (fun w h => (List.mem_cons_of_mem _ (List.mem_append_right _ h))) hown hK hP 0 rfl rfl 8 (by decide) (hts _ qX8_simulate_2) (fun _ h9 => h9) rfl dX8_simulate_171 ?_
                  refine lv_sipush (v := 684) hx hb dX8_simulate_174 (by decide) ?_
                  refine va_iald (i := 684) hx hb hK hP 2 0 rfl rfl (vp_in_nI (n := 684) (by decide) (by decide)) dX8_simulate_177 ?_
                  refine k_top (y := ((s9.2.1) 684)) rfl ?_
                  refine lv_aload_n hx hb dX8_simulate_178 rfl (lv_at hl 2 rfl) ?_
                  refine va_get (D := D) (ci := 8) (v := .ref nw0) (C := RX8) (T := TX8) (N := 16) hx hb hts (fun w h => (List.mem_cons_of_mem _ (List.mem_append_right _ h))) hown hK hP 0 rfl rfl 7 (by decide) (hts _ qX8_simulate_1) (fun _ h9 => h9) rfl dX8_simulate_179 ?_
                  refine lv_sipush (v := 684) hx hb dX8_simulate_182 (by decide) ?_
                  refine va_iald (i := 684) hx hb hK hP 1 0 rfl rfl (vp_in_nI (n := 684) (by decide) (by decide)) dX8_simulate_185 ?_
                  refine k_top (y := (nw 684)) rfl ?_
                  refine lv_isub hx hb dX8_simulate_186 ?_
                  refine lv_imul hx hb dX8_simulate_187 ?_
                  refine lv_bipush (v := 100) hx hb dX8_simulate_188 (by decide) ?_
                  refine lv_aload_n hx hb dX8_simulate_190 rfl (lv_at hl 2 rfl) ?_
                  refine va_get (D := D) (ci := 8) (v := .ref tr0) (C := RX8) (T := TX8) (N := 16) hx hb hts (fun w h => (List.mem_cons_of_mem _ (List.mem_append_right _ h))) hown hK hP 0 rfl rfl 8 (by decide) (hts _ qX8_simulate_2) (fun _ h9 => h9) rfl dX8_simulate_191 ?_
                  refine lv_sipush (v := 685) hx hb dX8_simulate_194 (by decide) ?_
                  refine va_iald (i := 685) hx hb hK hP 2 0 rfl rfl (vp_in_nI (n := 685) (by decide) (by decide)) dX8_simulate_197 ?_
                  refine k_top (y := ((s9.2.1) 685)) rfl ?_
                  refine lv_aload_n hx hb dX8_simulate_198 rfl (lv_at hl 2 rfl) ?_
                  refine va_get (D := D) (ci := 8) (v := .ref nw0) (C := RX8) (T := TX8) (N := 16) hx hb hts (fun w h => (List.mem_cons_of_mem _ (List.mem_append_right _ h))) hown hK hP 0 rfl rfl 7 (by decide) (hts _ qX8_simulate_1) (fun _ h9 => h9) rfl dX8_simulate_199 ?_
                  refine lv_sipush (v := 685) hx hb dX8_simulate_202 (by decide) ?_
                  refine va_iald (i := 685) hx hb hK hP 1 0 rfl rfl (vp_in_nI (n := 685) (by decide) (by decide)) dX8_simulate_205 ?_
                  refine k_top (y := (nw 685)) rfl ?_
                  refine lv_isub hx hb dX8_simulate_206 ?_
                  refine lv_imul hx hb dX8_simulate_207 ?_
                  refine lv_iadd hx hb dX8_simulate_208 ?_
                  refine lv_iload hx hb dX8_simulate_209 (lv_at hl 1 rfl) ?_
                  refine lv_iadd hx hb dX8_simulate_211 ?_
                  have em_0 : m.toNatClampNeg = m_0 := Eq.symm kem_0
                  have emn_0 : (nw 0).toNatClampNeg = mn_0 := Eq.symm kemn_0
                  have hq8 : mn_0 = q := by omega
                  subst hq8
                  have hk9 : k = if mn_0 = 0 then 0 else m_0 := by
                    by_cases h8 : mn_0 = 0
                    · rw [if_pos h8]; exact hk0 h8
                    · rw [if_neg h8]; omega
                  subst hk9
                  subst em_0
                  subst emn_0
                  subst hs
                  subst hQ
                  exact k_ri hx hb hr hlocks hP hD hS dX8_simulate_212 (by rw [hb9]) (rfl)
                · have c_7 : ¬ (mn_0 ≤ q) := fun h9 => c_7 ((nI_leI (a := mn_0) (b := q) (by omega) (by omega)).mpr h9)
                  refine lv_iload hx hb dX8_simulate_124 (lv_at hl 1 rfl) ?_
                  refine lv_aload_n hx hb dX8_simulate_126 rfl (lv_at hl 2 rfl) ?_
                  refine va_get (D := D) (ci := 8) (v := .ref tr0) (C := RX8) (T := TX8) (N := 16) hx hb hts (fun w h => (List.mem_cons_of_mem _ (List.mem_append_right _ h))) hown hK hP 0 rfl rfl 8 (by decide) (hts _ qX8_simulate_2) (fun _ h9 => h9) rfl dX8_simulate_127 ?_
                  refine lv_iload hx hb dX8_simulate_130 (lv_at hl 0 rfl) ?_
                  refine lv_bipush (v := 6) hx hb dX8_simulate_132 (by decide) ?_
                  refine k_ai (wr := [(m0, .inr (8, [.int 0, .ref sc0, .int (nI ss), .int (nI sp), .int ig, .int lo, .ref rd0, .ref nw0, .ref tr0, .ref di0, .int (nI ac), .ref ke0, .ref ik0, .ref cp0, .ref cn0, .ref be0])), (nw0, .inl (g 0, 748, .inl nw)), (tr0, .inl (g 0, 748, .inl (s9.2.1))), (cp0, .inl (g 0, 10, .inl (s9.2.2.1))), (cn0, .inl (g 0, 10, .inl (s9.2.2.2)))]) (w2 := [(m0, .inr (8, [.int 0, .ref sc0, .int (nI ss), .int (nI sp), .int ig, .int lo, .ref rd0, .ref nw0, .ref tr0, .ref di0, .int (nI ac), .ref ke0, .ref ik0, .ref cp0, .ref cn0, .ref be0])), (nw0, .inl (g 0, 748, .inl nw)), (tr0, .inl (g 0, 748, .inl (s9.2.1))), (cp0, .inl (g 0, 10, .inl (s9.2.2.1))), (cn0, .inl (g 0, 10, .inl (s9.2.2.2)))]) (va_runS (As := [.int (nI q), .int 6]) (rest := [.ref tr0, .int b]) ⟨hx, hb, hml, hown, hts⟩ (c_X8_partAt l D g H.size q 6) (va_cwS 2 hts gX8_simulate_X8_partAt rfl rfl rfl (by decide +kernel) (k_lvl (by omega) (by decide))) (kPS hP hD hK hS hA hE [] rfl (by decide)) rfl rfl hl.1 rfl (lv_room (Nat.le_of_ble_eq_true rfl)) dX8_simulate_134 ⟨Nat.le_of_ble_eq_true rfl, Nat.le_of_ble_eq_true rfl⟩) hP hD hS hA [] [0, 1, 2, 3, 4] [0, 1, 2, 3, 4] rfl rfl (by decide) (by decide) rfl (by decide) (fun H locs hP hD hS => ?_)
                  refine va_iald (i := (nI (1 + 8 * q + 6))) hx hb hK hP 2 0 rfl rfl (vp_in_nI (n := (1 + 8 * q + 6)) (by omega) (by omega)) dX8_simulate_137 ?_
                  refine k_top (y := ((s9.2.1) (1 + 8 * q + 6))) (by rw [nI_clamp (by omega)]) ?_
                  refine lv_aload_n hx hb dX8_simulate_138 rfl (lv_at hl 2 rfl) ?_
                  refine va_get (D := D) (ci := 8) (v := .ref nw0) (C := RX8) (T := TX8) (N := 16) hx hb hts (fun w h => (List.mem_cons_of_mem _ (List.mem_append_right _ h))) hown hK hP 0 rfl rfl 7 (by decide) (hts _ qX8_simulate_1) (fun _ h9 => h9) rfl dX8_simulate_139 ?_
                  refine lv_iload hx hb dX8_simulate_142 (lv_at hl 0 rfl) ?_
                  refine lv_bipush (v := 6) hx hb dX8_simulate_144 (by decide) ?_
                  refine k_ai (wr := [(m0, .inr (8, [.int 0, .ref sc0, .int (nI ss), .int (nI sp), .int ig, .int lo, .ref rd0, .ref nw0, .ref tr0, .ref di0, .int (nI ac), .ref ke0, .ref ik0, .ref cp0, .ref cn0, .ref be0])), (nw0, .inl (g 0, 748, .inl nw)), (tr0, .inl (g 0, 748, .inl (s9.2.1))), (cp0, .inl (g 0, 10, .inl (s9.2.2.1))), (cn0, .inl (g 0, 10, .inl (s9.2.2.2)))]) (w2 := [(m0, .inr (8, [.int 0, .ref sc0, .int (nI ss), .int (nI sp), .int ig, .int lo, .ref rd0, .ref nw0, .ref tr0, .ref di0, .int (nI ac), .ref ke0, .ref ik0, .ref cp0, .ref cn0, .ref be0])), (nw0, .inl (g 0, 748, .inl nw)), (tr0, .inl (g 0, 748, .inl (s9.2.1))), (cp0, .inl (g 0, 10, .inl (s9.2.2.1))), (cn0, .inl (g 0, 10, .inl (s9.2.2.2)))]) (va_runS (As := [.int (nI q), .int 6]) (rest := [.ref nw0, .int ((s9.2.1) (1 + 8 * q + 6)), .int b]) ⟨hx, hb, hml, hown, hts⟩ (c_X8_partAt l D g H.size q 6) (va_cwS 2 hts gX8_simulate_X8_partAt rfl rfl rfl (by decide +kernel) (k_lvl (by omega) (by decide))) (kPS hP hD hK hS hA hE [] rfl (by decide)) rfl rfl hl.1 rfl (lv_room (Nat.le_of_ble_eq_true rfl)) dX8_simulate_146 ⟨Nat.le_of_ble_eq_true rfl, Nat.le_of_ble_eq_true rfl⟩) hP hD hS hA [] [0, 1, 2, 3, 4] [0, 1, 2, 3, 4] rfl rfl (by decide) (by decide) rfl (by decide) (fun H locs hP hD hS => ?_)
                  refine va_iald (i := (nI (1 + 8 * q + 6))) hx hb hK hP 1 0 rfl rfl (vp_in_nI (n := (1 + 8 * q + 6)) (by omega) (by omega)) dX8_simulate_149 ?_
                  refine k_top (y := (nw (1 + 8 * q + 6))) (by rw [nI_clamp (by omega)]) ?_
                  refine lv_icmp_le (tgt := 157) hx hb dX8_simulate_150 (by decide) (fun c_8 => ?_) (fun c_8 => ?_)
                  · refine lv_iconst (v := 0) hx hb dX8_simulate_157 (by decide) ?_
                    refine lv_iadd hx hb dX8_simulate_158 ?_
                    refine lv_istore (lv' := [(6, .int (b + 0)), (7, .int (nI q)), (0, .ref m0)]) hx hb dX8_simulate_159 hl (by decide) rfl (fun ls hl => ?_)
                    refine lv_iinc (v := (nI (q + 1))) (lv' := [(7, .int (nI (q + 1))), (6, .int (b + 0)), (0, .ref m0)]) hx hb dX8_simulate_161 hl (k := 1) rfl (nI_1 _) (by decide) rfl (fun ls hl => ?_)
                    refine lv_goto (tgt := 113) hx hb dX8_simulate_164 (by decide) ?_
                    exact ih_113 (q + 1) (b + 0) (by omega) (by omega) (by rw [rSp, if_pos c_8, hb9]) H locs ls hP hD hS (lv_sub hl [0, 1, 2] rfl)
                  · refine lv_iconst (v := 1) hx hb dX8_simulate_153 (by decide) ?_
                    refine lv_goto (tgt := 158) hx hb dX8_simulate_154 (by decide) ?_
                    refine lv_iadd hx hb dX8_simulate_158 ?_
                    refine lv_istore (lv' := [(6, .int (b + 1)), (7, .int (nI q)), (0, .ref m0)]) hx hb dX8_simulate_159 hl (by decide) rfl (fun ls hl => ?_)
                    refine lv_iinc (v := (nI (q + 1))) (lv' := [(7, .int (nI (q + 1))), (6, .int (b + 1)), (0, .ref m0)]) hx hb dX8_simulate_161 hl (k := 1) rfl (nI_1 _) (by decide) rfl (fun ls hl => ?_)
                    refine lv_goto (tgt := 113) hx hb dX8_simulate_164 (by decide) ?_
                    exact ih_113 (q + 1) (b + 1) (by omega) (by omega) (by rw [rSp, if_neg c_8, hb9]) H locs ls hP hD hS (lv_sub hl [0, 1, 2] rfl)
            exact hloop_113 ((mn_0 - 0) + 1) 0 0 (Nat.lt_succ_self _) (by omega) rfl H locs ls hP hD hS (lv_sub hl [0, 1, 3] rfl)
          · have c_6 : ¬ (mn_0 ≤ 0) := fun h9 => c_6 ((nI_leI (a := mn_0) (b := 0) (by omega) (by omega)).mpr h9)
            refine lv_lload hx hb dX8_simulate_51 (lv_at hl 1 rfl) ?_
            refine lv_ldc2 hx hb hown (hts _ qX8_simulate_3) dX8_simulate_53 ?_
            refine lv_lmul hx hb dX8_simulate_56 ?_
            refine lv_ldc2 hx hb hown (hts _ qX8_simulate_4) dX8_simulate_57 ?_
            refine lv_ladd hx hb dX8_simulate_60 ?_
            refine lv_lstore (lv' := [(4, .long ((s9.1 * 6364136223846793005) + 1442695040888963407)), (6, .int (nI k)), (0, .ref m0), (3, .int (nI m_0))]) hx hb dX8_simulate_61 hl (by decide) rfl (fun ls hl => ?_)
            refine lv_lload hx hb dX8_simulate_63 (lv_at hl 0 rfl) ?_
            refine lv_bipush (v := 33) hx hb dX8_simulate_65 (by decide) ?_
            refine lv_lushr (v := ((Int64.toUInt64 ((s9.1 * 6364136223846793005) + 1442695040888963407)) >>> ((Int32.toInt64 33).toUInt64 &&& Int64.toUInt64 63)).toInt64) hx hb dX8_simulate_67 rfl ?_
            refine lv_l2i (v := (Int64.toInt32 (((Int64.toUInt64 ((s9.1 * 6364136223846793005) + 1442695040888963407)) >>> ((Int32.toInt64 33).toUInt64 &&& Int64.toUInt64 63)).toInt64))) hx hb dX8_simulate_68 rfl ?_
            refine lv_istore (lv' := [(7, .int (Int64.toInt32 (((Int64.toUInt64 ((s9.1 * 6364136223846793005) + 1442695040888963407)) >>> ((Int32.toInt64 33).toUInt64 &&& Int64.toUInt64 63)).toInt64))), (4, .long ((s9.1 * 6364136223846793005) + 1442695040888963407)), (6, .int (nI k)), (0, .ref m0), (3, .int (nI m_0))]) hx hb dX8_simulate_69 hl (by decide) rfl (fun ls hl => ?_)
            obtain ⟨x9, ex9⟩ : ∃ z, z = (s9.1 * 6364136223846793005) + 1442695040888963407 := ⟨_, rfl⟩
            rw [← ex9] at hl
            obtain ⟨r9, er9⟩ : ∃ z, z = (kShr x9).toNatClampNeg := ⟨_, rfl⟩
            have qr9 : Int64.toInt32 (((Int64.toUInt64 x9) >>> ((Int32.toInt64 33).toUInt64 &&& Int64.toUInt64 63)).toInt64) = nI r9 := by rw [er9]; exact (kShr_N x9).1
            have br9 : r9 < 2 ^ 31 := by rw [er9]; exact (kShr_N x9).2
            rw [qr9] at hl
            have hrm : r9 % mn_0 < 10 := Nat.lt_of_lt_of_le (Nat.mod_lt _ (by omega)) hm9
            have kex9 : kEq x9 ((s9.1 * 6364136223846793005) + 1442695040888963407) := ex9
            have ker9 : kEq r9 (kShr x9).toNatClampNeg := er9
            clear ex9 er9
            have hl : lv_has ls 8 [(7, .int (nI r9)), (4, .long x9), (6, .int (nI k)), (0, .ref m0), (3, .int (nI m_0))] := hl
            refine lv_aload_n hx hb dX8_simulate_71 rfl (lv_at hl 3 rfl) ?_
            refine lv_aload_n hx hb dX8_simulate_72 rfl (lv_at hl 3 rfl) ?_
            refine va_get (D := D) (ci := 8) (v := .ref tr0) (C := RX8) (T := TX8) (N := 16) hx hb hts (fun w h => (List.mem_cons_of_mem _ (List.mem_append_right _ h))) hown hK hP 0 rfl rfl 8 (by decide) (hts _ qX8_simulate_2) (fun _ h9 => h9) rfl dX8_simulate_73 ?_
            refine lv_iload hx hb dX8_simulate_76 (lv_at hl 0 rfl) ?_
            refine lv_aload_n hx hb dX8_simulate_78 rfl (lv_at hl 3 rfl) ?_
            refine va_get (D := D) (ci := 8) (v := .ref nw0) (C := RX8) (T := TX8) (N := 16) hx hb hts (fun w h => (List.mem_cons_of_mem _ (List.mem_append_right _ h))) hown hK hP 0 rfl rfl 7 (by decide) (hts _ qX8_simulate_1) (fun _ h9 => h9) rfl dX8_simulate_79 ?_
            refine lv_iconst (v := 0) hx hb dX8_simulate_82 (by decide) ?_
            refine va_iald (i := 0) hx hb hK hP 1 0 rfl rfl (vp_in_nI (n := 0) (by decide) (by decide)) dX8_simulate_83 ?_
            refine k_top (y := (nw 0)) rfl ?_
            refine k_top (y := (nI mn_0)) (hmn) ?_
            refine lv_irem hx hb dX8_simulate_84 (fun h9 => by have h8 := (nI_eq (a := mn_0) (b := 0) (by omega) (by omega)).mp h9; omega) ?_
            refine k_top (y := (nI (r9 % mn_0))) (pk_rem (a := r9) (d := mn_0) br9 (by omega) (by omega)) ?_
            refine lv_iload hx hb dX8_simulate_85 (lv_at hl 0 rfl) ?_
            refine lv_bipush (v := 16) hx hb dX8_simulate_87 (by decide) ?_
            refine lv_idiv hx hb dX8_simulate_89 (by decide) ?_
            refine k_top (y := (nI (r9 / 16))) (pk_div (a := r9) (d := 16) br9 (by decide) (by decide)) ?_
            refine lv_sipush (v := 201) hx hb dX8_simulate_90 (by decide) ?_
            refine lv_irem hx hb dX8_simulate_93 (by decide) ?_
            refine k_top (y := (nI (r9 / 16 % 201))) (pk_rem (a := r9 / 16) (d := 201) (by omega) (by decide) (by decide)) ?_
            refine lv_bipush (v := 100) hx hb dX8_simulate_94 (by decide) ?_
            refine lv_isub hx hb dX8_simulate_96 ?_
            have hC := c_X8_callInH l D g m0 tr0 sc0 rd0 nw0 tr0 di0 ke0 ik0 cp0 cn0 be0 H.size 0 ss sp ig lo ac (s9.2.2.1) (s9.2.2.2) (s9.2.1) (r9 % mn_0) ((nI (r9 / 16 % 201)) - 100) hrm hSS9.2
            obtain ⟨v_9, ev_9⟩ : ∃ z, z = (h_X8_callIn (s9.2.2.1) (s9.2.2.2) (s9.2.1) (r9 % mn_0) ((nI (r9 / 16 % 201)) - 100)) := ⟨_, rfl⟩
            rw [← ev_9] at hC
            have kev_9 : kEq v_9 (h_X8_callIn (s9.2.2.1) (s9.2.2.2) (s9.2.1) (r9 % mn_0) ((nI (r9 / 16 % 201)) - 100)) := ev_9
            clear ev_9
            refine k_ai (wr := [(nw0, .inl (g 0, 748, .inl nw))]) (w2 := [(m0, .inr (8, [.int 0, .ref sc0, .int (nI ss), .int (nI sp), .int ig, .int lo, .ref rd0, .ref nw0, .ref tr0, .ref di0, .int (nI ac), .ref ke0, .ref ik0, .ref cp0, .ref cn0, .ref be0])), (nw0, .inl (g 0, 748, .inl nw)), (tr0, .inl (g 0, 748, .inl v_9.2.1)), (cp0, .inl (g 0, 10, .inl v_9.2.2.1)), (cn0, .inl (g 0, 10, .inl v_9.2.2.2))]) (va_runV (As := [.ref tr0, .int (nI (r9 % mn_0)), .int ((nI (r9 / 16 % 201)) - 100)]) (rest := []) ⟨hx, hb, hml, hown, hts⟩ hC (cwV 3 hts gX8_simulate_X8_callIn rfl rfl rfl (by decide +kernel) (k_lvl (by omega) (by decide))) (kPV hP hD hK hS hA hE [0, 3, 4, 2] rfl (by decide) 0 8 rfl rfl rfl) rfl rfl hl.1 rfl (lv_room (Nat.le_of_ble_eq_true rfl)) dX8_simulate_97 ⟨Nat.le_of_ble_eq_true rfl, Nat.le_of_ble_eq_true rfl⟩) hP hD hS hA [0, 3, 4, 2] [1] [1, 0, 4, 2, 3] rfl rfl (by decide) (by decide) rfl (by decide) (fun H locs hP hD hS => ?_)
            refine lv_pop hx hb dX8_simulate_100 rfl ?_
            refine lv_iinc (v := (nI (k + 1))) (lv' := [(6, .int (nI (k + 1))), (7, .int (nI r9)), (4, .long x9), (0, .ref m0), (3, .int (nI m_0))]) hx hb dX8_simulate_101 hl (k := 2) rfl (nI_1 _) (by decide) rfl (fun ls hl => ?_)
            refine lv_goto (tgt := 36) hx hb dX8_simulate_104 (by decide) ?_
            exact ih_36 (k + 1) (x9, v_9.2) (by omega) (by omega) (rSim_s hs kex9 ker9 kev_9) (by have e9 : v_9 = (h_X8_callIn (s9.2.2.1) (s9.2.2.2) (s9.2.1) (r9 % mn_0) ((nI (r9 / 16 % 201)) - 100)) := kev_9; show rdOk v_9.2.1; rw [e9]; exact rdOk_same (callIn_same hSS9.2 hrm) hSS9) (fun _ => by omega) H locs ls hP hD hS (lv_sub hl [0, 2, 3, 4] rfl)
    exact hloop_36 ((m_0 - 0) + 1) 0 (seed, nw, cp, cn) (Nat.lt_succ_self _) (by omega) rfl hO (fun _ => rfl) H locs ls hP hD hS (lv_sub hl [0, 1, 2, 4] rfl)
theorem qc_X8_simulate_bad_X8_simulate_0 : Cond.constantLong RX8 206 (99) ∈ wsX8_simulate := (List.mem_cons_of_mem _ (List.mem_append_left _ (List.mem_append_left _ (List.mem_of_getElem? (i := 0) rfl))))
set_option maxHeartbeats 4000000 in
set_option maxRecDepth 100000 in
theorem c_X8_simulate_bad (l : Launch) (D : va_G) (g : Nat → Nat) (m0 sc0 rd0 nw0 tr0 di0 ke0 ik0 cp0 cn0 be0 : Nat) (sz : Nat) (rf : Int32) (ss : Nat) (sp : Nat) (ig : Int32) (lo : Int32) (ac : Nat) (nw : Nat → Int32) (tr : Nat → Int32) (cp : Nat → Int32) (cn : Nat → Int32) (seed : Int64) (m : Int32) (hO : rdOk nw) (hk : ¬ (kc_X8_simulate m) = 0) : kMi l D g yX8_simulate wsX8_simulate 6 0 0 [.ref m0, .long seed, .int m] [(m0, .inr (8, [.int rf, .ref sc0, .int (nI ss), .int (nI sp), .int ig, .int lo, .ref rd0, .ref nw0, .ref tr0, .ref di0, .int (nI ac), .ref ke0, .ref ik0, .ref cp0, .ref cn0, .ref be0])), (nw0, .inl (g 0, 748, .inl nw)), (tr0, .inl (g 0, 748, .inl tr)), (cp0, .inl (g 0, 10, .inl cp)), (cn0, .inl (g 0, 10, .inl cn))] sz 0 [(m0, .inr (8, [.int (kc_X8_simulate m), .ref sc0, .int (nI ss), .int (nI sp), .int ig, .int lo, .ref rd0, .ref nw0, .ref tr0, .ref di0, .int (nI ac), .ref ke0, .ref ik0, .ref cp0, .ref cn0, .ref be0])), (nw0, .inl (g 0, 748, .inl nw)), (tr0, .inl (g 0, 748, .inl tr)), (cp0, .inl (g 0, 10, .inl cp)), (cn0, .inl (g 0, 10, .inl cn))] := by
  refine k_enter (nm := "simulate") (own := RX8) (bytes := cX8_simulate) (maxL := 8) (ret := (some .int)) (Qf := fun A => kQi D [(m0, .inr (8, [.int (kc_X8_simulate m), .ref sc0, .int (nI ss), .int (nI sp), .int ig, .int lo, .ref rd0, .ref nw0, .ref tr0, .ref di0, .int (nI ac), .ref ke0, .ref ik0, .ref cp0, .ref cn0, .ref be0])), (nw0, .inl (g 0, 748, .inl nw)), (tr0, .inl (g 0, 748, .inl tr)), (cp0, .inl (g 0, 10, .inl cp)), (cn0, .inl (g 0, 10, .inl cn))] A 0) (by decide) rfl rfl rfl (Nat.le_of_ble_eq_true rfl) ?_
  rintro pp ee s mm below meth cc A ls args Q H locs hQ ⟨hx, hb, hr, hml, hown, hts, hlocks, hin⟩ hP hK hD hA hS hE hl
  have hl : lv_has ls 8 [(0, .ref m0), (1, .long seed), (3, .int m)] := hl
  refine lv_aload_n hx hb dX8_simulate_0 rfl (lv_at hl 0 rfl) ?_
  refine lv_iload_n hx hb dX8_simulate_1 rfl (lv_at hl 2 rfl) ?_
  refine lv_i2l (v := (Int32.toInt64 m)) hx hb dX8_simulate_2 rfl ?_
  refine lv_lconst (v := 1) hx hb dX8_simulate_3 (by decide) ?_
  refine lv_ldc2 hx hb hown (hts _ qc_X8_simulate_bad_X8_simulate_0) dX8_simulate_4 ?_
  refine k_ai (wr := [(m0, .inr (8, [.int rf, .ref sc0, .int (nI ss), .int (nI sp), .int ig, .int lo, .ref rd0, .ref nw0, .ref tr0, .ref di0, .int (nI ac), .ref ke0, .ref ik0, .ref cp0, .ref cn0, .ref be0])), (nw0, .inl (g 0, 748, .inl nw)), (tr0, .inl (g 0, 748, .inl tr)), (cp0, .inl (g 0, 10, .inl cp)), (cn0, .inl (g 0, 10, .inl cn))]) (w2 := [(m0, .inr (8, [.int rf, .ref sc0, .int (nI ss), .int (nI sp), .int ig, .int lo, .ref rd0, .ref nw0, .ref tr0, .ref di0, .int (nI ac), .ref ke0, .ref ik0, .ref cp0, .ref cn0, .ref be0])), (nw0, .inl (g 0, 748, .inl nw)), (tr0, .inl (g 0, 748, .inl tr)), (cp0, .inl (g 0, 10, .inl cp)), (cn0, .inl (g 0, 10, .inl cn))]) (va_runS (As := [.long (Int32.toInt64 m), .long 1, .long 99]) (rest := [.ref m0]) ⟨hx, hb, hml, hown, hts⟩ (c_X8_in l D g H.size (Int32.toInt64 m) 1 99) (va_cwS 3 hts gX8_simulate_X8_in rfl rfl rfl (by decide +kernel) (k_lvl (by omega) (by decide))) (kPS hP hD hK hS hA hE [] rfl (by decide)) rfl rfl hl.1 rfl (lv_room (Nat.le_of_ble_eq_true rfl)) dX8_simulate_7 ⟨Nat.le_of_ble_eq_true rfl, Nat.le_of_ble_eq_true rfl⟩) hP hD hS hA [] [0, 1, 2, 3, 4] [0, 1, 2, 3, 4] rfl rfl (by decide) (by decide) rfl (by decide) (fun H locs hP hD hS => ?_)
  refine lv_if_eq (tgt := 17) hx hb dX8_simulate_10 (by decide) (fun c_1 => ?_) (fun c_1 => ?_)
  · refine lv_iconst (v := 1) hx hb dX8_simulate_17 (by decide) ?_
    refine k_ai (wr := [(nw0, .inl (g 0, 748, .inl nw)), (tr0, .inl (g 0, 748, .inl tr)), (cp0, .inl (g 0, 10, .inl cp)), (cn0, .inl (g 0, 10, .inl cn))]) (w2 := [(m0, .inr (8, [.int 1, .ref sc0, .int (nI ss), .int (nI sp), .int ig, .int lo, .ref rd0, .ref nw0, .ref tr0, .ref di0, .int (nI ac), .ref ke0, .ref ik0, .ref cp0, .ref cn0, .ref be0])), (nw0, .inl (g 0, 748, .inl nw)), (tr0, .inl (g 0, 748, .inl tr)), (cp0, .inl (g 0, 10, .inl cp)), (cn0, .inl (g 0, 10, .inl cn))]) (va_runV (As := [.int 1]) (rest := []) ⟨hx, hb, hml, hown, hts⟩ (c_X8_refused1 l D g m0 sc0 rd0 nw0 tr0 di0 ke0 ik0 cp0 cn0 be0 H.size rf ss sp ig lo ac) (cwV 1 hts gX8_simulate_X8_refused rfl rfl rfl (by decide +kernel) (k_lvl (by omega) (by decide))) (kPV hP hD hK hS hA hE [0] rfl (by decide) 0 8 rfl rfl rfl) rfl rfl hl.1 rfl (lv_room (Nat.le_of_ble_eq_true rfl)) dX8_simulate_18 ⟨Nat.le_of_ble_eq_true rfl, Nat.le_of_ble_eq_true rfl⟩) hP hD hS hA [0] [1, 2, 3, 4] [4, 0, 1, 2, 3] rfl rfl (by decide) (by decide) rfl (by decide) (fun H locs hP hD hS => ?_)
    refine lv_if_eq (tgt := 26) hx hb dX8_simulate_21 (by decide) (fun c_2 => absurd c_2 (by decide)) (fun _ => ?_)
    refine lv_iconst (v := 0) hx hb dX8_simulate_24 (by decide) ?_
    subst hQ
    exact k_ri hx hb hr hlocks hP hD hS dX8_simulate_25 (rfl) (by rw [show (kc_X8_simulate m) = 1 from (if_pos c_1).trans (rfl)])
  · refine lv_iconst (v := 0) hx hb dX8_simulate_13 (by decide) ?_
    refine lv_goto (tgt := 18) hx hb dX8_simulate_14 (by decide) ?_
    have h9 : (kc_X8_simulate m) = 0 := (if_neg c_1).trans (rfl)
    exact absurd h9 hk
/-- what save answers before it does anything: 0, or which of its exceptions is thrown -/
def kc_X8_save (slot : Int32) : Int32 :=
  if (f_X8_in (Int32.toInt64 slot) 0 1) = 0 then
    1
  else
    0
def f_X8_save (nw : Nat → Int32) (ke : Nat → Int32) (ik : Nat → Int32) (slot : Int32) : Int32 × (Nat → Int32) × (Nat → Int32) :=
  let slot_0 := slot.toNatClampNeg
  ((nw 0), (va_cpy nw ke 0 (748 * slot_0) 748), (upd ik slot_0 1))
theorem qX8_save_0 : Cond.fieldLink RX8 16 "BlameChainsModel" "now" "[I" ∈ wsX8_save := (List.mem_cons_of_mem _ (List.mem_append_left _ (List.mem_of_getElem? (i := 0) rfl)))
theorem qX8_save_1 : Cond.fieldLink RX8 25 "BlameChainsModel" "kept" "[I" ∈ wsX8_save := (List.mem_cons_of_mem _ (List.mem_append_left _ (List.mem_of_getElem? (i := 1) rfl)))
theorem qX8_save_2 : Cond.fieldLink RX8 28 "BlameChainsModel" "isKept" "[Z" ∈ wsX8_save := (List.mem_cons_of_mem _ (List.mem_append_left _ (List.mem_of_getElem? (i := 2) rfl)))
set_option maxHeartbeats 4000000 in
set_option maxRecDepth 100000 in
theorem c_X8_save (l : Launch) (D : va_G) (g : Nat → Nat) (m0 sc0 rd0 nw0 tr0 di0 ke0 ik0 cp0 cn0 be0 : Nat) (sz : Nat) (rf : Int32) (ss : Nat) (sp : Nat) (ig : Int32) (lo : Int32) (ac : Nat) (nw : Nat → Int32) (ke : Nat → Int32) (ik : Nat → Int32) (slot : Int32) (hk : (kc_X8_save slot) = 0) : kMi l D g yX8_save wsX8_save 2 0 0 [.ref m0, .int slot] [(m0, .inr (8, [.int rf, .ref sc0, .int (nI ss), .int (nI sp), .int ig, .int lo, .ref rd0, .ref nw0, .ref tr0, .ref di0, .int (nI ac), .ref ke0, .ref ik0, .ref cp0, .ref cn0, .ref be0])), (nw0, .inl (g 0, 748, .inl nw)), (ke0, .inl (g 0, 1496, .inl ke)), (ik0, .inl (g 2, 2, .inl ik))] sz ((f_X8_save nw ke ik slot).1) [(m0, .inr (8, [.int 0, .ref sc0, .int (nI ss), .int (nI sp), .int ig, .int lo, .ref rd0, .ref nw0, .ref tr0, .ref di0, .int (nI ac), .ref ke0, .ref ik0, .ref cp0, .ref cn0, .ref be0])), (nw0, .inl (g 0, 748, .inl nw)), (ke0, .inl (g 0, 1496, .inl ((f_X8_save nw ke ik slot).2.1))), (ik0, .inl (g 2, 2, .inl ((f_X8_save nw ke ik slot).2.2)))] := by
  refine k_enter (nm := "save") (own := RX8) (bytes := cX8_save) (maxL := 2) (ret := (some .int)) (Qf := fun A => kQi D [(m0, .inr (8, [.int 0, .ref sc0, .int (nI ss), .int (nI sp), .int ig, .int lo, .ref rd0, .ref nw0, .ref tr0, .ref di0, .int (nI ac), .ref ke0, .ref ik0, .ref cp0, .ref cn0, .ref be0])), (nw0, .inl (g 0, 748, .inl nw)), (ke0, .inl (g 0, 1496, .inl ((f_X8_save nw ke ik slot).2.1))), (ik0, .inl (g 2, 2, .inl ((f_X8_save nw ke ik slot).2.2)))] A ((f_X8_save nw ke ik slot).1)) (by decide) rfl rfl rfl (Nat.le_of_ble_eq_true rfl) ?_
  rintro pp ee s mm below meth cc A ls args Q H locs hQ ⟨hx, hb, hr, hml, hown, hts, hlocks, hin⟩ hP hK hD hA hS hE hl
  have hl : lv_has ls 2 [(0, .ref m0), (1, .int slot)] := hl
  refine lv_aload_n hx hb dX8_save_0 rfl (lv_at hl 0 rfl) ?_
  refine lv_iload_n hx hb dX8_save_1 rfl (lv_at hl 1 rfl) ?_
  refine lv_i2l (v := (Int32.toInt64 slot)) hx hb dX8_save_2 rfl ?_
  refine lv_lconst (v := 0) hx hb dX8_save_3 (by decide) ?_
  refine lv_lconst (v := 1) hx hb dX8_save_4 (by decide) ?_
  refine k_ai (wr := [(m0, .inr (8, [.int rf, .ref sc0, .int (nI ss), .int (nI sp), .int ig, .int lo, .ref rd0, .ref nw0, .ref tr0, .ref di0, .int (nI ac), .ref ke0, .ref ik0, .ref cp0, .ref cn0, .ref be0])), (nw0, .inl (g 0, 748, .inl nw)), (ke0, .inl (g 0, 1496, .inl ke)), (ik0, .inl (g 2, 2, .inl ik))]) (w2 := [(m0, .inr (8, [.int rf, .ref sc0, .int (nI ss), .int (nI sp), .int ig, .int lo, .ref rd0, .ref nw0, .ref tr0, .ref di0, .int (nI ac), .ref ke0, .ref ik0, .ref cp0, .ref cn0, .ref be0])), (nw0, .inl (g 0, 748, .inl nw)), (ke0, .inl (g 0, 1496, .inl ke)), (ik0, .inl (g 2, 2, .inl ik))]) (va_runS (As := [.long (Int32.toInt64 slot), .long 0, .long 1]) (rest := [.ref m0]) ⟨hx, hb, hml, hown, hts⟩ (c_X8_in l D g H.size (Int32.toInt64 slot) 0 1) (va_cwS 3 hts gX8_save_X8_in rfl rfl rfl (by decide +kernel) (k_lvl (by omega) (by decide))) (kPS hP hD hK hS hA hE [] rfl (by decide)) rfl rfl hl.1 rfl (lv_room (Nat.le_of_ble_eq_true rfl)) dX8_save_5 ⟨Nat.le_of_ble_eq_true rfl, Nat.le_of_ble_eq_true rfl⟩) hP hD hS hA [] [0, 1, 2, 3] [0, 1, 2, 3] rfl rfl (by decide) (by decide) rfl (by decide) (fun H locs hP hD hS => ?_)
  refine lv_if_eq (tgt := 15) hx hb dX8_save_8 (by decide) (fun c_1 => ?_) (fun c_1 => ?_)
  · refine lv_iconst (v := 1) hx hb dX8_save_15 (by decide) ?_
    have h9 : (kc_X8_save slot) = 1 := (if_pos c_1).trans (rfl)
    rw [hk] at h9
    exact absurd h9 (by decide)
  · refine lv_iconst (v := 0) hx hb dX8_save_11 (by decide) ?_
    refine lv_goto (tgt := 16) hx hb dX8_save_12 (by decide) ?_
    refine k_ai (wr := [(nw0, .inl (g 0, 748, .inl nw)), (ke0, .inl (g 0, 1496, .inl ke)), (ik0, .inl (g 2, 2, .inl ik))]) (w2 := [(m0, .inr (8, [.int 0, .ref sc0, .int (nI ss), .int (nI sp), .int ig, .int lo, .ref rd0, .ref nw0, .ref tr0, .ref di0, .int (nI ac), .ref ke0, .ref ik0, .ref cp0, .ref cn0, .ref be0])), (nw0, .inl (g 0, 748, .inl nw)), (ke0, .inl (g 0, 1496, .inl ke)), (ik0, .inl (g 2, 2, .inl ik))]) (va_runV (As := [.int 0]) (rest := []) ⟨hx, hb, hml, hown, hts⟩ (c_X8_refused0 l D g m0 sc0 rd0 nw0 tr0 di0 ke0 ik0 cp0 cn0 be0 H.size rf ss sp ig lo ac) (cwV 1 hts gX8_save_X8_refused rfl rfl rfl (by decide +kernel) (k_lvl (by omega) (by decide))) (kPV hP hD hK hS hA hE [0] rfl (by decide) 0 8 rfl rfl rfl) rfl rfl hl.1 rfl (lv_room (Nat.le_of_ble_eq_true rfl)) dX8_save_16 ⟨Nat.le_of_ble_eq_true rfl, Nat.le_of_ble_eq_true rfl⟩) hP hD hS hA [0] [1, 2, 3] [3, 0, 1, 2] rfl rfl (by decide) (by decide) rfl (by decide) (fun H locs hP hD hS => ?_)
    refine lv_if_eq (tgt := 24) hx hb dX8_save_19 (by decide) (fun _ => ?_) (fun c_2 => absurd c_2 (by decide))
    obtain ⟨slot_0, eslot_0⟩ : ∃ z, z = slot.toNatClampNeg := ⟨_, rfl⟩
    have qslot_0 : slot = nI slot_0 := by rw [eslot_0]; exact (in_N (K := 1) (by decide) c_1).1
    have bslot_0 : slot_0 ≤ 1 := by rw [eslot_0]; exact (in_N (K := 1) (by decide) c_1).2
    have keslot_0 : kEq slot_0 slot.toNatClampNeg := eslot_0
    clear eslot_0
    have hl : lv_has ls 2 [(0, .ref m0), (1, .int (nI slot_0))] := by
      have h9 := hl
      rw [qslot_0] at h9
      exact h9
    refine lv_aload_n hx hb dX8_save_24 rfl (lv_at hl 0 rfl) ?_
    refine va_get (D := D) (ci := 8) (v := .ref nw0) (C := RX8) (T := TX8) (N := 16) hx hb hts (fun w h => (List.mem_cons_of_mem _ (List.mem_append_right _ h))) hown hK hP 0 rfl rfl 7 (by decide) (hts _ qX8_save_0) (fun _ h9 => h9) rfl dX8_save_25 ?_
    refine lv_iconst (v := 0) hx hb dX8_save_28 (by decide) ?_
    refine lv_aload_n hx hb dX8_save_29 rfl (lv_at hl 0 rfl) ?_
    refine va_get (D := D) (ci := 8) (v := .ref ke0) (C := RX8) (T := TX8) (N := 16) hx hb hts (fun w h => (List.mem_cons_of_mem _ (List.mem_append_right _ h))) hown hK hP 0 rfl rfl 11 (by decide) (hts _ qX8_save_1) (fun _ h9 => h9) rfl dX8_save_30 ?_
    refine lv_sipush (v := 748) hx hb dX8_save_33 (by decide) ?_
    refine lv_iload_n hx hb dX8_save_36 rfl (lv_at hl 1 rfl) ?_
    refine lv_imul hx hb dX8_save_37 ?_
    refine k_top (y := (nI (748 * slot_0))) (pk_mul 748 slot_0) ?_
    refine lv_sipush (v := 748) hx hb dX8_save_38 (by decide) ?_
    refine k_av (wr := [(m0, .inr (8, [.int 0, .ref sc0, .int (nI ss), .int (nI sp), .int ig, .int lo, .ref rd0, .ref nw0, .ref tr0, .ref di0, .int (nI ac), .ref ke0, .ref ik0, .ref cp0, .ref cn0, .ref be0])), (ik0, .inl (g 2, 2, .inl ik))]) (w2 := [(m0, .inr (8, [.int 0, .ref sc0, .int (nI ss), .int (nI sp), .int ig, .int lo, .ref rd0, .ref nw0, .ref tr0, .ref di0, .int (nI ac), .ref ke0, .ref ik0, .ref cp0, .ref cn0, .ref be0])), (nw0, .inl (g 0, 748, .inl nw)), (ke0, .inl (g 0, 1496, .inl (va_cpy nw ke 0 (748 * slot_0) 748))), (ik0, .inl (g 2, 2, .inl ik))]) (va_runS (As := [.ref nw0, .int 0, .ref ke0, .int (nI (748 * slot_0)), .int 748]) (rest := []) ⟨hx, hb, hml, hown, hts⟩ (c_X8_copy l D g nw0 ke0 H.size nw ke 0 (748 * slot_0) 748 748 1496 (by omega) (by omega) (by omega) (by omega)) (va_cwS 5 hts gX8_save_X8_copy rfl rfl rfl (by decide +kernel) (k_lvl (by omega) (by decide))) (kPS hP hD hK hS hA hE [1, 2] rfl (by decide)) rfl rfl hl.1 rfl (lv_room (Nat.le_of_ble_eq_true rfl)) dX8_save_41 ⟨Nat.le_of_ble_eq_true rfl, Nat.le_of_ble_eq_true rfl⟩) hP hD hS hA [1, 2] [0, 3] [0, 2, 3, 1] rfl rfl (by decide) (by decide) rfl (by decide) (fun H locs hP hD hS => ?_)
    refine lv_aload_n hx hb dX8_save_44 rfl (lv_at hl 0 rfl) ?_
    refine va_get (D := D) (ci := 8) (v := .ref ik0) (C := RX8) (T := TX8) (N := 16) hx hb hts (fun w h => (List.mem_cons_of_mem _ (List.mem_append_right _ h))) hown hK hP 0 rfl rfl 12 (by decide) (hts _ qX8_save_2) (fun _ h9 => h9) rfl dX8_save_45 ?_
    refine lv_iload_n hx hb dX8_save_48 rfl (lv_at hl 1 rfl) ?_
    refine lv_iconst (v := 1) hx hb dX8_save_49 (by decide) ?_
    refine va_zast (i := (nI slot_0)) (x := 1) hx hb hK hP hD hS 3 2 rfl rfl (vp_in_nI (n := slot_0) (by omega) (by omega)) dX8_save_50 (fun H locs hP hD hS => ?_)
    rw [nI_clamp (n := slot_0) (by omega)] at hP hD
    rw [show vp_nar .boolean 1 = 1 from rfl] at hP hD
    have hP : va_P D vwCl [(m0, .inr (8, [.int 0, .ref sc0, .int (nI ss), .int (nI sp), .int ig, .int lo, .ref rd0, .ref nw0, .ref tr0, .ref di0, .int (nI ac), .ref ke0, .ref ik0, .ref cp0, .ref cn0, .ref be0])), (nw0, .inl (g 0, 748, .inl nw)), (ke0, .inl (g 0, 1496, .inl (va_cpy nw ke 0 (748 * slot_0) 748))), (ik0, .inl (g 2, 2, .inl (upd ik slot_0 1)))] H := hP
    have hD : va_D A [(m0, .inr (8, [.int 0, .ref sc0, .int (nI ss), .int (nI sp), .int ig, .int lo, .ref rd0, .ref nw0, .ref tr0, .ref di0, .int (nI ac), .ref ke0, .ref ik0, .ref cp0, .ref cn0, .ref be0])), (nw0, .inl (g 0, 748, .inl nw)), (ke0, .inl (g 0, 1496, .inl (va_cpy nw ke 0 (748 * slot_0) 748))), (ik0, .inl (g 2, 2, .inl (upd ik slot_0 1)))] := hD
    refine lv_aload_n hx hb dX8_save_51 rfl (lv_at hl 0 rfl) ?_
    refine va_get (D := D) (ci := 8) (v := .ref nw0) (C := RX8) (T := TX8) (N := 16) hx hb hts (fun w h => (List.mem_cons_of_mem _ (List.mem_append_right _ h))) hown hK hP 0 rfl rfl 7 (by decide) (hts _ qX8_save_0) (fun _ h9 => h9) rfl dX8_save_52 ?_
    refine lv_iconst (v := 0) hx hb dX8_save_55 (by decide) ?_
    refine va_iald (i := 0) hx hb hK hP 1 0 rfl rfl (vp_in_nI (n := 0) (by decide) (by decide)) dX8_save_56 ?_
    refine k_top (y := (nw 0)) rfl ?_
    have eslot_0 : slot.toNatClampNeg = slot_0 := Eq.symm keslot_0
    have hE2 : (f_X8_save nw ke ik slot) = ((nw 0), (va_cpy nw ke 0 (748 * slot_0) 748), (upd ik slot_0 1)) := by
      subst eslot_0
      exact rfl
    subst hQ
    exact k_ri hx hb hr hlocks hP hD hS dX8_save_57 (by rw [hE2]) (by rw [hE2])
set_option maxHeartbeats 4000000 in
set_option maxRecDepth 100000 in
theorem c_X8_save_bad (l : Launch) (D : va_G) (g : Nat → Nat) (m0 sc0 rd0 nw0 tr0 di0 ke0 ik0 cp0 cn0 be0 : Nat) (sz : Nat) (rf : Int32) (ss : Nat) (sp : Nat) (ig : Int32) (lo : Int32) (ac : Nat) (nw : Nat → Int32) (ke : Nat → Int32) (ik : Nat → Int32) (slot : Int32) (hk : ¬ (kc_X8_save slot) = 0) : kMi l D g yX8_save wsX8_save 2 0 0 [.ref m0, .int slot] [(m0, .inr (8, [.int rf, .ref sc0, .int (nI ss), .int (nI sp), .int ig, .int lo, .ref rd0, .ref nw0, .ref tr0, .ref di0, .int (nI ac), .ref ke0, .ref ik0, .ref cp0, .ref cn0, .ref be0])), (nw0, .inl (g 0, 748, .inl nw)), (ke0, .inl (g 0, 1496, .inl ke)), (ik0, .inl (g 2, 2, .inl ik))] sz 0 [(m0, .inr (8, [.int (kc_X8_save slot), .ref sc0, .int (nI ss), .int (nI sp), .int ig, .int lo, .ref rd0, .ref nw0, .ref tr0, .ref di0, .int (nI ac), .ref ke0, .ref ik0, .ref cp0, .ref cn0, .ref be0])), (nw0, .inl (g 0, 748, .inl nw)), (ke0, .inl (g 0, 1496, .inl ke)), (ik0, .inl (g 2, 2, .inl ik))] := by
  refine k_enter (nm := "save") (own := RX8) (bytes := cX8_save) (maxL := 2) (ret := (some .int)) (Qf := fun A => kQi D [(m0, .inr (8, [.int (kc_X8_save slot), .ref sc0, .int (nI ss), .int (nI sp), .int ig, .int lo, .ref rd0, .ref nw0, .ref tr0, .ref di0, .int (nI ac), .ref ke0, .ref ik0, .ref cp0, .ref cn0, .ref be0])), (nw0, .inl (g 0, 748, .inl nw)), (ke0, .inl (g 0, 1496, .inl ke)), (ik0, .inl (g 2, 2, .inl ik))] A 0) (by decide) rfl rfl rfl (Nat.le_of_ble_eq_true rfl) ?_
  rintro pp ee s mm below meth cc A ls args Q H locs hQ ⟨hx, hb, hr, hml, hown, hts, hlocks, hin⟩ hP hK hD hA hS hE hl
  have hl : lv_has ls 2 [(0, .ref m0), (1, .int slot)] := hl
  refine lv_aload_n hx hb dX8_save_0 rfl (lv_at hl 0 rfl) ?_
  refine lv_iload_n hx hb dX8_save_1 rfl (lv_at hl 1 rfl) ?_
  refine lv_i2l (v := (Int32.toInt64 slot)) hx hb dX8_save_2 rfl ?_
  refine lv_lconst (v := 0) hx hb dX8_save_3 (by decide) ?_
  refine lv_lconst (v := 1) hx hb dX8_save_4 (by decide) ?_
  refine k_ai (wr := [(m0, .inr (8, [.int rf, .ref sc0, .int (nI ss), .int (nI sp), .int ig, .int lo, .ref rd0, .ref nw0, .ref tr0, .ref di0, .int (nI ac), .ref ke0, .ref ik0, .ref cp0, .ref cn0, .ref be0])), (nw0, .inl (g 0, 748, .inl nw)), (ke0, .inl (g 0, 1496, .inl ke)), (ik0, .inl (g 2, 2, .inl ik))]) (w2 := [(m0, .inr (8, [.int rf, .ref sc0, .int (nI ss), .int (nI sp), .int ig, .int lo, .ref rd0, .ref nw0, .ref tr0, .ref di0, .int (nI ac), .ref ke0, .ref ik0, .ref cp0, .ref cn0, .ref be0])), (nw0, .inl (g 0, 748, .inl nw)), (ke0, .inl (g 0, 1496, .inl ke)), (ik0, .inl (g 2, 2, .inl ik))]) (va_runS (As := [.long (Int32.toInt64 slot), .long 0, .long 1]) (rest := [.ref m0]) ⟨hx, hb, hml, hown, hts⟩ (c_X8_in l D g H.size (Int32.toInt64 slot) 0 1) (va_cwS 3 hts gX8_save_X8_in rfl rfl rfl (by decide +kernel) (k_lvl (by omega) (by decide))) (kPS hP hD hK hS hA hE [] rfl (by decide)) rfl rfl hl.1 rfl (lv_room (Nat.le_of_ble_eq_true rfl)) dX8_save_5 ⟨Nat.le_of_ble_eq_true rfl, Nat.le_of_ble_eq_true rfl⟩) hP hD hS hA [] [0, 1, 2, 3] [0, 1, 2, 3] rfl rfl (by decide) (by decide) rfl (by decide) (fun H locs hP hD hS => ?_)
  refine lv_if_eq (tgt := 15) hx hb dX8_save_8 (by decide) (fun c_1 => ?_) (fun c_1 => ?_)
  · refine lv_iconst (v := 1) hx hb dX8_save_15 (by decide) ?_
    refine k_ai (wr := [(nw0, .inl (g 0, 748, .inl nw)), (ke0, .inl (g 0, 1496, .inl ke)), (ik0, .inl (g 2, 2, .inl ik))]) (w2 := [(m0, .inr (8, [.int 1, .ref sc0, .int (nI ss), .int (nI sp), .int ig, .int lo, .ref rd0, .ref nw0, .ref tr0, .ref di0, .int (nI ac), .ref ke0, .ref ik0, .ref cp0, .ref cn0, .ref be0])), (nw0, .inl (g 0, 748, .inl nw)), (ke0, .inl (g 0, 1496, .inl ke)), (ik0, .inl (g 2, 2, .inl ik))]) (va_runV (As := [.int 1]) (rest := []) ⟨hx, hb, hml, hown, hts⟩ (c_X8_refused1 l D g m0 sc0 rd0 nw0 tr0 di0 ke0 ik0 cp0 cn0 be0 H.size rf ss sp ig lo ac) (cwV 1 hts gX8_save_X8_refused rfl rfl rfl (by decide +kernel) (k_lvl (by omega) (by decide))) (kPV hP hD hK hS hA hE [0] rfl (by decide) 0 8 rfl rfl rfl) rfl rfl hl.1 rfl (lv_room (Nat.le_of_ble_eq_true rfl)) dX8_save_16 ⟨Nat.le_of_ble_eq_true rfl, Nat.le_of_ble_eq_true rfl⟩) hP hD hS hA [0] [1, 2, 3] [3, 0, 1, 2] rfl rfl (by decide) (by decide) rfl (by decide) (fun H locs hP hD hS => ?_)
    refine lv_if_eq (tgt := 24) hx hb dX8_save_19 (by decide) (fun c_2 => absurd c_2 (by decide)) (fun _ => ?_)
    refine lv_iconst (v := 0) hx hb dX8_save_22 (by decide) ?_
    subst hQ
    exact k_ri hx hb hr hlocks hP hD hS dX8_save_23 (rfl) (by rw [show (kc_X8_save slot) = 1 from (if_pos c_1).trans (rfl)])
  · refine lv_iconst (v := 0) hx hb dX8_save_11 (by decide) ?_
    refine lv_goto (tgt := 16) hx hb dX8_save_12 (by decide) ?_
    have h9 : (kc_X8_save slot) = 0 := (if_neg c_1).trans (rfl)
    exact absurd h9 hk
/-- what restore answers before it does anything: 0, or which of its exceptions is thrown -/
def kc_X8_restore (ik : Nat → Int32) (slot : Int32) : Int32 :=
  let slot_0 := slot.toNatClampNeg
  if (f_X8_in (Int32.toInt64 slot) 0 1) = 0 then
    1
  else
    if (ik slot_0) = 0 then
      2
    else
      0
def f_X8_restore (nw : Nat → Int32) (ke : Nat → Int32) (slot : Int32) : Int32 × (Nat → Int32) :=
  let slot_0 := slot.toNatClampNeg
  (((va_cpy ke nw (748 * slot_0) 0 748) 0), (va_cpy ke nw (748 * slot_0) 0 748))
theorem qX8_restore_0 : Cond.fieldLink RX8 28 "BlameChainsModel" "isKept" "[Z" ∈ wsX8_restore := (List.mem_cons_of_mem _ (List.mem_append_left _ (List.mem_of_getElem? (i := 0) rfl)))
theorem qX8_restore_1 : Cond.fieldLink RX8 25 "BlameChainsModel" "kept" "[I" ∈ wsX8_restore := (List.mem_cons_of_mem _ (List.mem_append_left _ (List.mem_of_getElem? (i := 1) rfl)))
theorem qX8_restore_2 : Cond.fieldLink RX8 16 "BlameChainsModel" "now" "[I" ∈ wsX8_restore := (List.mem_cons_of_mem _ (List.mem_append_left _ (List.mem_of_getElem? (i := 2) rfl)))
theorem qX8_restore_3 : Cond.fieldLink RX8 47 "BlameChainsModel" "acts" "I" ∈ wsX8_restore := (List.mem_cons_of_mem _ (List.mem_append_left _ (List.mem_of_getElem? (i := 3) rfl)))
set_option maxHeartbeats 4000000 in
set_option maxRecDepth 100000 in
theorem c_X8_restore (l : Launch) (D : va_G) (g : Nat → Nat) (m0 sc0 rd0 nw0 tr0 di0 ke0 ik0 cp0 cn0 be0 : Nat) (sz : Nat) (rf : Int32) (ss : Nat) (sp : Nat) (ig : Int32) (lo : Int32) (ac : Nat) (nw : Nat → Int32) (ke : Nat → Int32) (ik : Nat → Int32) (slot : Int32) (hk : (kc_X8_restore ik slot) = 0) : kMi l D g yX8_restore wsX8_restore 2 0 0 [.ref m0, .int slot] [(m0, .inr (8, [.int rf, .ref sc0, .int (nI ss), .int (nI sp), .int ig, .int lo, .ref rd0, .ref nw0, .ref tr0, .ref di0, .int (nI ac), .ref ke0, .ref ik0, .ref cp0, .ref cn0, .ref be0])), (nw0, .inl (g 0, 748, .inl nw)), (ke0, .inl (g 0, 1496, .inl ke)), (ik0, .inl (g 2, 2, .inl ik))] sz ((f_X8_restore nw ke slot).1) [(m0, .inr (8, [.int 0, .ref sc0, .int (nI ss), .int (nI sp), .int ig, .int lo, .ref rd0, .ref nw0, .ref tr0, .ref di0, .int 0, .ref ke0, .ref ik0, .ref cp0, .ref cn0, .ref be0])), (nw0, .inl (g 0, 748, .inl ((f_X8_restore nw ke slot).2))), (ke0, .inl (g 0, 1496, .inl ke)), (ik0, .inl (g 2, 2, .inl ik))] := by
  refine k_enter (nm := "restore") (own := RX8) (bytes := cX8_restore) (maxL := 2) (ret := (some .int)) (Qf := fun A => kQi D [(m0, .inr (8, [.int 0, .ref sc0, .int (nI ss), .int (nI sp), .int ig, .int lo, .ref rd0, .ref nw0, .ref tr0, .ref di0, .int 0, .ref ke0, .ref ik0, .ref cp0, .ref cn0, .ref be0])), (nw0, .inl (g 0, 748, .inl ((f_X8_restore nw ke slot).2))), (ke0, .inl (g 0, 1496, .inl ke)), (ik0, .inl (g 2, 2, .inl ik))] A ((f_X8_restore nw ke slot).1)) (by decide) rfl rfl rfl (Nat.le_of_ble_eq_true rfl) ?_
  rintro pp ee s mm below meth cc A ls args Q H locs hQ ⟨hx, hb, hr, hml, hown, hts, hlocks, hin⟩ hP hK hD hA hS hE hl
  have hl : lv_has ls 2 [(0, .ref m0), (1, .int slot)] := hl
  refine lv_aload_n hx hb dX8_restore_0 rfl (lv_at hl 0 rfl) ?_
  refine lv_iload_n hx hb dX8_restore_1 rfl (lv_at hl 1 rfl) ?_
  refine lv_i2l (v := (Int32.toInt64 slot)) hx hb dX8_restore_2 rfl ?_
  refine lv_lconst (v := 0) hx hb dX8_restore_3 (by decide) ?_
  refine lv_lconst (v := 1) hx hb dX8_restore_4 (by decide) ?_
  refine k_ai (wr := [(m0, .inr (8, [.int rf, .ref sc0, .int (nI ss), .int (nI sp), .int ig, .int lo, .ref rd0, .ref nw0, .ref tr0, .ref di0, .int (nI ac), .ref ke0, .ref ik0, .ref cp0, .ref cn0, .ref be0])), (nw0, .inl (g 0, 748, .inl nw)), (ke0, .inl (g 0, 1496, .inl ke)), (ik0, .inl (g 2, 2, .inl ik))]) (w2 := [(m0, .inr (8, [.int rf, .ref sc0, .int (nI ss), .int (nI sp), .int ig, .int lo, .ref rd0, .ref nw0, .ref tr0, .ref di0, .int (nI ac), .ref ke0, .ref ik0, .ref cp0, .ref cn0, .ref be0])), (nw0, .inl (g 0, 748, .inl nw)), (ke0, .inl (g 0, 1496, .inl ke)), (ik0, .inl (g 2, 2, .inl ik))]) (va_runS (As := [.long (Int32.toInt64 slot), .long 0, .long 1]) (rest := [.ref m0]) ⟨hx, hb, hml, hown, hts⟩ (c_X8_in l D g H.size (Int32.toInt64 slot) 0 1) (va_cwS 3 hts gX8_restore_X8_in rfl rfl rfl (by decide +kernel) (k_lvl (by omega) (by decide))) (kPS hP hD hK hS hA hE [] rfl (by decide)) rfl rfl hl.1 rfl (lv_room (Nat.le_of_ble_eq_true rfl)) dX8_restore_5 ⟨Nat.le_of_ble_eq_true rfl, Nat.le_of_ble_eq_true rfl⟩) hP hD hS hA [] [0, 1, 2, 3] [0, 1, 2, 3] rfl rfl (by decide) (by decide) rfl (by decide) (fun H locs hP hD hS => ?_)
  refine lv_if_ne (tgt := 15) hx hb dX8_restore_8 (by decide) (fun c_1 => ?_) (fun c_1 => ?_)
  · obtain ⟨slot_0, eslot_0⟩ : ∃ z, z = slot.toNatClampNeg := ⟨_, rfl⟩
    have qslot_0 : slot = nI slot_0 := by rw [eslot_0]; exact (in_N (K := 1) (by decide) c_1).1
    have bslot_0 : slot_0 ≤ 1 := by rw [eslot_0]; exact (in_N (K := 1) (by decide) c_1).2
    have keslot_0 : kEq slot_0 slot.toNatClampNeg := eslot_0
    clear eslot_0
    have hl : lv_has ls 2 [(0, .ref m0), (1, .int (nI slot_0))] := by
      have h9 := hl
      rw [qslot_0] at h9
      exact h9
    refine lv_aload_n hx hb dX8_restore_15 rfl (lv_at hl 0 rfl) ?_
    refine va_get (D := D) (ci := 8) (v := .ref ik0) (C := RX8) (T := TX8) (N := 16) hx hb hts (fun w h => (List.mem_cons_of_mem _ (List.mem_append_right _ h))) hown hK hP 0 rfl rfl 12 (by decide) (hts _ qX8_restore_0) (fun _ h9 => h9) rfl dX8_restore_16 ?_
    refine lv_iload_n hx hb dX8_restore_19 rfl (lv_at hl 1 rfl) ?_
    refine va_zald (i := (nI slot_0)) hx hb hK hP 3 2 rfl rfl (vp_in_nI (n := slot_0) (by omega) (by omega)) dX8_restore_20 ?_
    refine k_top (y := (ik slot_0)) (by rw [nI_clamp (by omega)]) ?_
    refine lv_if_eq (tgt := 28) hx hb dX8_restore_21 (by decide) (fun c_2 => ?_) (fun c_2 => ?_)
    · refine lv_iconst (v := 2) hx hb dX8_restore_28 (by decide) ?_
      have eslot_0 : slot.toNatClampNeg = slot_0 := Eq.symm keslot_0
      subst eslot_0
      have h9 : (kc_X8_restore ik slot) = 2 := (if_neg c_1).trans ((if_pos c_2).trans (rfl))
      rw [hk] at h9
      exact absurd h9 (by decide)
    · refine lv_iconst (v := 0) hx hb dX8_restore_24 (by decide) ?_
      refine lv_goto (tgt := 29) hx hb dX8_restore_25 (by decide) ?_
      refine k_ai (wr := [(nw0, .inl (g 0, 748, .inl nw)), (ke0, .inl (g 0, 1496, .inl ke)), (ik0, .inl (g 2, 2, .inl ik))]) (w2 := [(m0, .inr (8, [.int 0, .ref sc0, .int (nI ss), .int (nI sp), .int ig, .int lo, .ref rd0, .ref nw0, .ref tr0, .ref di0, .int (nI ac), .ref ke0, .ref ik0, .ref cp0, .ref cn0, .ref be0])), (nw0, .inl (g 0, 748, .inl nw)), (ke0, .inl (g 0, 1496, .inl ke)), (ik0, .inl (g 2, 2, .inl ik))]) (va_runV (As := [.int 0]) (rest := []) ⟨hx, hb, hml, hown, hts⟩ (c_X8_refused0 l D g m0 sc0 rd0 nw0 tr0 di0 ke0 ik0 cp0 cn0 be0 H.size rf ss sp ig lo ac) (cwV 1 hts gX8_restore_X8_refused rfl rfl rfl (by decide +kernel) (k_lvl (by omega) (by decide))) (kPV hP hD hK hS hA hE [0] rfl (by decide) 0 8 rfl rfl rfl) rfl rfl hl.1 rfl (lv_room (Nat.le_of_ble_eq_true rfl)) dX8_restore_29 ⟨Nat.le_of_ble_eq_true rfl, Nat.le_of_ble_eq_true rfl⟩) hP hD hS hA [0] [1, 2, 3] [3, 0, 1, 2] rfl rfl (by decide) (by decide) rfl (by decide) (fun H locs hP hD hS => ?_)
      refine lv_if_eq (tgt := 37) hx hb dX8_restore_32 (by decide) (fun _ => ?_) (fun c_3 => absurd c_3 (by decide))
      refine lv_aload_n hx hb dX8_restore_37 rfl (lv_at hl 0 rfl) ?_
      refine va_get (D := D) (ci := 8) (v := .ref ke0) (C := RX8) (T := TX8) (N := 16) hx hb hts (fun w h => (List.mem_cons_of_mem _ (List.mem_append_right _ h))) hown hK hP 0 rfl rfl 11 (by decide) (hts _ qX8_restore_1) (fun _ h9 => h9) rfl dX8_restore_38 ?_
      refine lv_sipush (v := 748) hx hb dX8_restore_41 (by decide) ?_
      refine lv_iload_n hx hb dX8_restore_44 rfl (lv_at hl 1 rfl) ?_
      refine lv_imul hx hb dX8_restore_45 ?_
      refine k_top (y := (nI (748 * slot_0))) (pk_mul 748 slot_0) ?_
      refine lv_aload_n hx hb dX8_restore_46 rfl (lv_at hl 0 rfl) ?_
      refine va_get (D := D) (ci := 8) (v := .ref nw0) (C := RX8) (T := TX8) (N := 16) hx hb hts (fun w h => (List.mem_cons_of_mem _ (List.mem_append_right _ h))) hown hK hP 0 rfl rfl 7 (by decide) (hts _ qX8_restore_2) (fun _ h9 => h9) rfl dX8_restore_47 ?_
      refine lv_iconst (v := 0) hx hb dX8_restore_50 (by decide) ?_
      refine lv_sipush (v := 748) hx hb dX8_restore_51 (by decide) ?_
      refine k_av (wr := [(m0, .inr (8, [.int 0, .ref sc0, .int (nI ss), .int (nI sp), .int ig, .int lo, .ref rd0, .ref nw0, .ref tr0, .ref di0, .int (nI ac), .ref ke0, .ref ik0, .ref cp0, .ref cn0, .ref be0])), (ik0, .inl (g 2, 2, .inl ik))]) (w2 := [(m0, .inr (8, [.int 0, .ref sc0, .int (nI ss), .int (nI sp), .int ig, .int lo, .ref rd0, .ref nw0, .ref tr0, .ref di0, .int (nI ac), .ref ke0, .ref ik0, .ref cp0, .ref cn0, .ref be0])), (nw0, .inl (g 0, 748, .inl (va_cpy ke nw (748 * slot_0) 0 748))), (ke0, .inl (g 0, 1496, .inl ke)), (ik0, .inl (g 2, 2, .inl ik))]) (va_runS (As := [.ref ke0, .int (nI (748 * slot_0)), .ref nw0, .int 0, .int 748]) (rest := []) ⟨hx, hb, hml, hown, hts⟩ (c_X8_copy l D g ke0 nw0 H.size ke nw (748 * slot_0) 0 748 1496 748 (by omega) (by omega) (by omega) (by omega)) (va_cwS 5 hts gX8_restore_X8_copy rfl rfl rfl (by decide +kernel) (k_lvl (by omega) (by decide))) (kPS hP hD hK hS hA hE [2, 1] rfl (by decide)) rfl rfl hl.1 rfl (lv_room (Nat.le_of_ble_eq_true rfl)) dX8_restore_54 ⟨Nat.le_of_ble_eq_true rfl, Nat.le_of_ble_eq_true rfl⟩) hP hD hS hA [2, 1] [0, 3] [0, 3, 2, 1] rfl rfl (by decide) (by decide) rfl (by decide) (fun H locs hP hD hS => ?_)
      refine lv_aload_n hx hb dX8_restore_57 rfl (lv_at hl 0 rfl) ?_
      refine lv_iconst (v := 0) hx hb dX8_restore_58 (by decide) ?_
      refine va_put (D := D) (ci := 8) (v := .int 0) (ty := .int) (C := RX8) (T := TX8) (N := 16) hx hb hts (fun w h => (List.mem_cons_of_mem _ (List.mem_append_right _ h))) tyX8 tyX8_ok nmX8 hown hK hP hD hS 0 rfl rfl 10 (by decide) (hts _ qX8_restore_3) (fun _ h9 => h9) rfl (by decide +kernel) rfl rfl (Nat.le_of_ble_eq_true rfl) dX8_restore_59 (fun H locs hP hD hS => ?_)
      have hP : va_P D vwCl [(m0, .inr (8, [.int 0, .ref sc0, .int (nI ss), .int (nI sp), .int ig, .int lo, .ref rd0, .ref nw0, .ref tr0, .ref di0, .int 0, .ref ke0, .ref ik0, .ref cp0, .ref cn0, .ref be0])), (nw0, .inl (g 0, 748, .inl (va_cpy ke nw (748 * slot_0) 0 748))), (ke0, .inl (g 0, 1496, .inl ke)), (ik0, .inl (g 2, 2, .inl ik))] H := hP
      have hD : va_D A [(m0, .inr (8, [.int 0, .ref sc0, .int (nI ss), .int (nI sp), .int ig, .int lo, .ref rd0, .ref nw0, .ref tr0, .ref di0, .int 0, .ref ke0, .ref ik0, .ref cp0, .ref cn0, .ref be0])), (nw0, .inl (g 0, 748, .inl (va_cpy ke nw (748 * slot_0) 0 748))), (ke0, .inl (g 0, 1496, .inl ke)), (ik0, .inl (g 2, 2, .inl ik))] := hD
      refine lv_aload_n hx hb dX8_restore_62 rfl (lv_at hl 0 rfl) ?_
      refine va_get (D := D) (ci := 8) (v := .ref nw0) (C := RX8) (T := TX8) (N := 16) hx hb hts (fun w h => (List.mem_cons_of_mem _ (List.mem_append_right _ h))) hown hK hP 0 rfl rfl 7 (by decide) (hts _ qX8_restore_2) (fun _ h9 => h9) rfl dX8_restore_63 ?_
      refine lv_iconst (v := 0) hx hb dX8_restore_66 (by decide) ?_
      refine va_iald (i := 0) hx hb hK hP 1 0 rfl rfl (vp_in_nI (n := 0) (by decide) (by decide)) dX8_restore_67 ?_
      refine k_top (y := ((va_cpy ke nw (748 * slot_0) 0 748) 0)) rfl ?_
      have eslot_0 : slot.toNatClampNeg = slot_0 := Eq.symm keslot_0
      have hE2 : (f_X8_restore nw ke slot) = (((va_cpy ke nw (748 * slot_0) 0 748) 0), (va_cpy ke nw (748 * slot_0) 0 748)) := by
        subst eslot_0
        exact rfl
      subst hQ
      exact k_ri hx hb hr hlocks hP hD hS dX8_restore_68 (by rw [hE2]) (by rw [hE2])
  · refine lv_iconst (v := 1) hx hb dX8_restore_11 (by decide) ?_
    refine lv_goto (tgt := 29) hx hb dX8_restore_12 (by decide) ?_
    have h9 : (kc_X8_restore ik slot) = 1 := (if_pos c_1).trans (rfl)
    rw [hk] at h9
    exact absurd h9 (by decide)
theorem qc_X8_restore_bad_X8_restore_0 : Cond.fieldLink RX8 28 "BlameChainsModel" "isKept" "[Z" ∈ wsX8_restore := (List.mem_cons_of_mem _ (List.mem_append_left _ (List.mem_of_getElem? (i := 0) rfl)))
set_option maxHeartbeats 4000000 in
set_option maxRecDepth 100000 in
theorem c_X8_restore_bad (l : Launch) (D : va_G) (g : Nat → Nat) (m0 sc0 rd0 nw0 tr0 di0 ke0 ik0 cp0 cn0 be0 : Nat) (sz : Nat) (rf : Int32) (ss : Nat) (sp : Nat) (ig : Int32) (lo : Int32) (ac : Nat) (nw : Nat → Int32) (ke : Nat → Int32) (ik : Nat → Int32) (slot : Int32) (hk : ¬ (kc_X8_restore ik slot) = 0) : kMi l D g yX8_restore wsX8_restore 2 0 0 [.ref m0, .int slot] [(m0, .inr (8, [.int rf, .ref sc0, .int (nI ss), .int (nI sp), .int ig, .int lo, .ref rd0, .ref nw0, .ref tr0, .ref di0, .int (nI ac), .ref ke0, .ref ik0, .ref cp0, .ref cn0, .ref be0])), (nw0, .inl (g 0, 748, .inl nw)), (ke0, .inl (g 0, 1496, .inl ke)), (ik0, .inl (g 2, 2, .inl ik))] sz 0 [(m0, .inr (8, [.int (kc_X8_restore ik slot), .ref sc0, .int (nI ss), .int (nI sp), .int ig, .int lo, .ref rd0, .ref nw0, .ref tr0, .ref di0, .int (nI ac), .ref ke0, .ref ik0, .ref cp0, .ref cn0, .ref be0])), (nw0, .inl (g 0, 748, .inl nw)), (ke0, .inl (g 0, 1496, .inl ke)), (ik0, .inl (g 2, 2, .inl ik))] := by
  refine k_enter (nm := "restore") (own := RX8) (bytes := cX8_restore) (maxL := 2) (ret := (some .int)) (Qf := fun A => kQi D [(m0, .inr (8, [.int (kc_X8_restore ik slot), .ref sc0, .int (nI ss), .int (nI sp), .int ig, .int lo, .ref rd0, .ref nw0, .ref tr0, .ref di0, .int (nI ac), .ref ke0, .ref ik0, .ref cp0, .ref cn0, .ref be0])), (nw0, .inl (g 0, 748, .inl nw)), (ke0, .inl (g 0, 1496, .inl ke)), (ik0, .inl (g 2, 2, .inl ik))] A 0) (by decide) rfl rfl rfl (Nat.le_of_ble_eq_true rfl) ?_
  rintro pp ee s mm below meth cc A ls args Q H locs hQ ⟨hx, hb, hr, hml, hown, hts, hlocks, hin⟩ hP hK hD hA hS hE hl
  have hl : lv_has ls 2 [(0, .ref m0), (1, .int slot)] := hl
  refine lv_aload_n hx hb dX8_restore_0 rfl (lv_at hl 0 rfl) ?_
  refine lv_iload_n hx hb dX8_restore_1 rfl (lv_at hl 1 rfl) ?_
  refine lv_i2l (v := (Int32.toInt64 slot)) hx hb dX8_restore_2 rfl ?_
  refine lv_lconst (v := 0) hx hb dX8_restore_3 (by decide) ?_
  refine lv_lconst (v := 1) hx hb dX8_restore_4 (by decide) ?_
  refine k_ai (wr := [(m0, .inr (8, [.int rf, .ref sc0, .int (nI ss), .int (nI sp), .int ig, .int lo, .ref rd0, .ref nw0, .ref tr0, .ref di0, .int (nI ac), .ref ke0, .ref ik0, .ref cp0, .ref cn0, .ref be0])), (nw0, .inl (g 0, 748, .inl nw)), (ke0, .inl (g 0, 1496, .inl ke)), (ik0, .inl (g 2, 2, .inl ik))]) (w2 := [(m0, .inr (8, [.int rf, .ref sc0, .int (nI ss), .int (nI sp), .int ig, .int lo, .ref rd0, .ref nw0, .ref tr0, .ref di0, .int (nI ac), .ref ke0, .ref ik0, .ref cp0, .ref cn0, .ref be0])), (nw0, .inl (g 0, 748, .inl nw)), (ke0, .inl (g 0, 1496, .inl ke)), (ik0, .inl (g 2, 2, .inl ik))]) (va_runS (As := [.long (Int32.toInt64 slot), .long 0, .long 1]) (rest := [.ref m0]) ⟨hx, hb, hml, hown, hts⟩ (c_X8_in l D g H.size (Int32.toInt64 slot) 0 1) (va_cwS 3 hts gX8_restore_X8_in rfl rfl rfl (by decide +kernel) (k_lvl (by omega) (by decide))) (kPS hP hD hK hS hA hE [] rfl (by decide)) rfl rfl hl.1 rfl (lv_room (Nat.le_of_ble_eq_true rfl)) dX8_restore_5 ⟨Nat.le_of_ble_eq_true rfl, Nat.le_of_ble_eq_true rfl⟩) hP hD hS hA [] [0, 1, 2, 3] [0, 1, 2, 3] rfl rfl (by decide) (by decide) rfl (by decide) (fun H locs hP hD hS => ?_)
  refine lv_if_ne (tgt := 15) hx hb dX8_restore_8 (by decide) (fun c_1 => ?_) (fun c_1 => ?_)
  · obtain ⟨slot_0, eslot_0⟩ : ∃ z, z = slot.toNatClampNeg := ⟨_, rfl⟩
    have qslot_0 : slot = nI slot_0 := by rw [eslot_0]; exact (in_N (K := 1) (by decide) c_1).1
    have bslot_0 : slot_0 ≤ 1 := by rw [eslot_0]; exact (in_N (K := 1) (by decide) c_1).2
    have keslot_0 : kEq slot_0 slot.toNatClampNeg := eslot_0
    clear eslot_0
    have hl : lv_has ls 2 [(0, .ref m0), (1, .int (nI slot_0))] := by
      have h9 := hl
      rw [qslot_0] at h9
      exact h9
    refine lv_aload_n hx hb dX8_restore_15 rfl (lv_at hl 0 rfl) ?_
    refine va_get (D := D) (ci := 8) (v := .ref ik0) (C := RX8) (T := TX8) (N := 16) hx hb hts (fun w h => (List.mem_cons_of_mem _ (List.mem_append_right _ h))) hown hK hP 0 rfl rfl 12 (by decide) (hts _ qc_X8_restore_bad_X8_restore_0) (fun _ h9 => h9) rfl dX8_restore_16 ?_
    refine lv_iload_n hx hb dX8_restore_19 rfl (lv_at hl 1 rfl) ?_
    refine va_zald (i := (nI slot_0)) hx hb hK hP 3 2 rfl rfl (vp_in_nI (n := slot_0) (by omega) (by omega)) dX8_restore_20 ?_
    refine k_top (y := (ik slot_0)) (by rw [nI_clamp (by omega)]) ?_
    refine lv_if_eq (tgt := 28) hx hb dX8_restore_21 (by decide) (fun c_2 => ?_) (fun c_2 => ?_)
    · refine lv_iconst (v := 2) hx hb dX8_restore_28 (by decide) ?_
      refine k_ai (wr := [(nw0, .inl (g 0, 748, .inl nw)), (ke0, .inl (g 0, 1496, .inl ke)), (ik0, .inl (g 2, 2, .inl ik))]) (w2 := [(m0, .inr (8, [.int 2, .ref sc0, .int (nI ss), .int (nI sp), .int ig, .int lo, .ref rd0, .ref nw0, .ref tr0, .ref di0, .int (nI ac), .ref ke0, .ref ik0, .ref cp0, .ref cn0, .ref be0])), (nw0, .inl (g 0, 748, .inl nw)), (ke0, .inl (g 0, 1496, .inl ke)), (ik0, .inl (g 2, 2, .inl ik))]) (va_runV (As := [.int 2]) (rest := []) ⟨hx, hb, hml, hown, hts⟩ (c_X8_refused2 l D g m0 sc0 rd0 nw0 tr0 di0 ke0 ik0 cp0 cn0 be0 H.size rf ss sp ig lo ac) (cwV 1 hts gX8_restore_X8_refused rfl rfl rfl (by decide +kernel) (k_lvl (by omega) (by decide))) (kPV hP hD hK hS hA hE [0] rfl (by decide) 0 8 rfl rfl rfl) rfl rfl hl.1 rfl (lv_room (Nat.le_of_ble_eq_true rfl)) dX8_restore_29 ⟨Nat.le_of_ble_eq_true rfl, Nat.le_of_ble_eq_true rfl⟩) hP hD hS hA [0] [1, 2, 3] [3, 0, 1, 2] rfl rfl (by decide) (by decide) rfl (by decide) (fun H locs hP hD hS => ?_)
      refine lv_if_eq (tgt := 37) hx hb dX8_restore_32 (by decide) (fun c_3 => absurd c_3 (by decide)) (fun _ => ?_)
      refine lv_iconst (v := 0) hx hb dX8_restore_35 (by decide) ?_
      have eslot_0 : slot.toNatClampNeg = slot_0 := Eq.symm keslot_0
      subst eslot_0
      subst hQ
      exact k_ri hx hb hr hlocks hP hD hS dX8_restore_36 (rfl) (by rw [show (kc_X8_restore ik slot) = 2 from (if_neg c_1).trans ((if_pos c_2).trans (rfl))])
    · refine lv_iconst (v := 0) hx hb dX8_restore_24 (by decide) ?_
      refine lv_goto (tgt := 29) hx hb dX8_restore_25 (by decide) ?_
      have eslot_0 : slot.toNatClampNeg = slot_0 := Eq.symm keslot_0
      subst eslot_0
      have h9 : (kc_X8_restore ik slot) = 0 := (if_neg c_1).trans ((if_neg c_2).trans (rfl))
      exact absurd h9 hk
  · refine lv_iconst (v := 1) hx hb dX8_restore_11 (by decide) ?_
    refine lv_goto (tgt := 29) hx hb dX8_restore_12 (by decide) ?_
    refine k_ai (wr := [(nw0, .inl (g 0, 748, .inl nw)), (ke0, .inl (g 0, 1496, .inl ke)), (ik0, .inl (g 2, 2, .inl ik))]) (w2 := [(m0, .inr (8, [.int 1, .ref sc0, .int (nI ss), .int (nI sp), .int ig, .int lo, .ref rd0, .ref nw0, .ref tr0, .ref di0, .int (nI ac), .ref ke0, .ref ik0, .ref cp0, .ref cn0, .ref be0])), (nw0, .inl (g 0, 748, .inl nw)), (ke0, .inl (g 0, 1496, .inl ke)), (ik0, .inl (g 2, 2, .inl ik))]) (va_runV (As := [.int 1]) (rest := []) ⟨hx, hb, hml, hown, hts⟩ (c_X8_refused1 l D g m0 sc0 rd0 nw0 tr0 di0 ke0 ik0 cp0 cn0 be0 H.size rf ss sp ig lo ac) (cwV 1 hts gX8_restore_X8_refused rfl rfl rfl (by decide +kernel) (k_lvl (by omega) (by decide))) (kPV hP hD hK hS hA hE [0] rfl (by decide) 0 8 rfl rfl rfl) rfl rfl hl.1 rfl (lv_room (Nat.le_of_ble_eq_true rfl)) dX8_restore_29 ⟨Nat.le_of_ble_eq_true rfl, Nat.le_of_ble_eq_true rfl⟩) hP hD hS hA [0] [1, 2, 3] [3, 0, 1, 2] rfl rfl (by decide) (by decide) rfl (by decide) (fun H locs hP hD hS => ?_)
    refine lv_if_eq (tgt := 37) hx hb dX8_restore_32 (by decide) (fun c_4 => absurd c_4 (by decide)) (fun _ => ?_)
    refine lv_iconst (v := 0) hx hb dX8_restore_35 (by decide) ?_
    subst hQ
    exact k_ri hx hb hr hlocks hP hD hS dX8_restore_36 (rfl) (by rw [show (kc_X8_restore ik slot) = 1 from (if_pos c_1).trans (rfl)])
end
