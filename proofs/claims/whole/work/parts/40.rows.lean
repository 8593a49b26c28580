-- MODULE: the reference, its rows
def f_X8_in (v : Int64) (least : Int64) (most : Int64) : Int32 :=
  if v < least then
    0
  else
    if most < v then
      0
    else
      1
set_option maxHeartbeats 4000000 in
set_option maxRecDepth 100000 in
theorem c_X8_in (l : Launch) (D : va_G) (g : Nat → Nat) (sz : Nat) (v : Int64) (least : Int64) (most : Int64) : kMi l D g yX8_in wsX8_in 1 0 0 [.long v, .long least, .long most] [] sz (f_X8_in v least most) [] := by
  refine k_enter (nm := "in") (own := RX8) (bytes := cX8_in) (maxL := 6) (ret := (some .boolean)) (Qf := fun A => kQi D [] A (f_X8_in v least most)) (by decide) rfl rfl rfl (Nat.le_of_ble_eq_true rfl) ?_
  rintro pp ee s mm below meth cc A ls args Q H locs hQ ⟨hx, hb, hr, hml, hown, hts, hlocks, hin⟩ hP hK hD hA hS hE hl
  have hl : lv_has ls 6 [(0, .long v), (2, .long least), (4, .long most)] := hl
  refine lv_lload_n hx hb dX8_in_0 rfl (lv_at hl 0 rfl) ?_
  refine lv_lload_n hx hb dX8_in_1 rfl (lv_at hl 1 rfl) ?_
  refine W.lcmp hx hb dX8_in_2 ?_
  refine lv_if_lt (tgt := 17) hx hb dX8_in_3 (by decide) (fun c_1 => ?_) (fun c_1 => ?_)
  · have c_1 : v < least := (lg_cmp_lt _ _).mp c_1
    refine lv_iconst (v := 0) hx hb dX8_in_17 (by decide) ?_
    have hE2 : (f_X8_in v least most) = 0 := by
      exact (if_pos c_1).trans (rfl)
    subst hQ
    exact k_rz hx hb hr hlocks hP hD hS dX8_in_18 (by rfl) (hE2.symm) (rfl)
  · have c_1 : ¬ (v < least) := fun h9 => c_1 ((lg_cmp_lt _ _).mpr h9)
    refine lv_lload_n hx hb dX8_in_6 rfl (lv_at hl 0 rfl) ?_
    refine lv_lload hx hb dX8_in_7 (lv_at hl 2 rfl) ?_
    refine W.lcmp hx hb dX8_in_9 ?_
    refine lv_if_gt (tgt := 17) hx hb dX8_in_10 (by decide) (fun c_2 => ?_) (fun c_2 => ?_)
    · have c_2 : most < v := (lg_cmp_gt _ _).mp c_2
      refine lv_iconst (v := 0) hx hb dX8_in_17 (by decide) ?_
      have hE2 : (f_X8_in v least most) = 0 := by
        exact (if_neg c_1).trans ((if_pos c_2).trans (rfl))
      subst hQ
      exact k_rz hx hb hr hlocks hP hD hS dX8_in_18 (by rfl) (hE2.symm) (rfl)
    · have c_2 : ¬ (most < v) := fun h9 => c_2 ((lg_cmp_gt _ _).mpr h9)
      refine lv_iconst (v := 1) hx hb dX8_in_13 (by decide) ?_
      refine lv_goto (tgt := 18) hx hb dX8_in_14 (by decide) ?_
      have hE2 : (f_X8_in v least most) = 1 := by
        exact (if_neg c_1).trans ((if_neg c_2).trans (rfl))
      subst hQ
      exact k_rz hx hb hr hlocks hP hD hS dX8_in_18 (by rfl) (hE2.symm) (rfl)
theorem cpy_step {ff tf : Nat → Int32} {fa ta k : Nat} : upd (va_cpy ff tf fa ta k) (ta + k) (ff (fa + k)) = va_cpy ff tf fa ta (k + 1) := by
  funext i
  unfold upd va_cpy
  by_cases h1 : i = ta + k
  · subst h1
    rw [if_pos rfl, if_pos ⟨by omega, by omega⟩, show ta + k - ta = k by omega]
  · rw [if_neg h1]
    by_cases h2 : ta ≤ i ∧ i < ta + k
    · rw [if_pos h2, if_pos ⟨h2.1, by omega⟩]
    · rw [if_neg h2, if_neg (fun h3 => h2 ⟨h3.1, by omega⟩)]
theorem cpy_zero {ff tf : Nat → Int32} {fa ta : Nat} : va_cpy ff tf fa ta 0 = tf := by
  funext i
  unfold va_cpy
  exact if_neg (fun h => by omega)
set_option maxHeartbeats 4000000 in
set_option maxRecDepth 100000 in
theorem c_X8_copy (l : Launch) (D : va_G) (g : Nat → Nat) (f0 t0 : Nat) (sz : Nat) (ff : Nat → Int32) (tf : Nat → Int32) (fa : Nat) (ta : Nat) (many : Nat) (nF : Nat) (nT : Nat) (h1 : fa + many ≤ nF) (h2 : ta + many ≤ nT) (h3 : nF < 2 ^ 30) (h4 : nT < 2 ^ 30) : kMv l D g yX8_copy wsX8_copy 1 0 0 [.ref f0, .int (nI fa), .ref t0, .int (nI ta), .int (nI many)] [(f0, .inl (g 0, nF, .inl ff)), (t0, .inl (g 0, nT, .inl tf))] sz [(f0, .inl (g 0, nF, .inl ff)), (t0, .inl (g 0, nT, .inl (va_cpy ff tf fa ta many)))] := by
  refine k_enter (nm := "copy") (own := RX8) (bytes := cX8_copy) (maxL := 6) (ret := none) (Qf := fun A => kQv D [(f0, .inl (g 0, nF, .inl ff)), (t0, .inl (g 0, nT, .inl (va_cpy ff tf fa ta many)))] A) (by decide) rfl rfl rfl (Nat.le_of_ble_eq_true rfl) ?_
  rintro pp ee s mm below meth cc A ls args Q H locs hQ ⟨hx, hb, hr, hml, hown, hts, hlocks, hin⟩ hP hK hD hA hS hE hl
  have hl : lv_has ls 6 [(0, .ref f0), (1, .int (nI fa)), (2, .ref t0), (3, .int (nI ta)), (4, .int (nI many))] := hl
  refine lv_iconst (v := 0) hx hb dX8_copy_0 (by decide) ?_
  refine lv_istore (lv' := [(5, .int 0), (0, .ref f0), (1, .int (nI fa)), (2, .ref t0), (3, .int (nI ta)), (4, .int (nI many))]) hx hb dX8_copy_1 hl (by decide) rfl (fun ls hl => ?_)
  have hloop_3 : ∀ (nn_3 : Nat) (k : Nat) (cf : Nat → Int32), many - k < nn_3 → ∀ (hk : k ≤ many) (hc : cf = va_cpy ff tf fa ta k) (H : Heap) (locs : List Loc) (ls : Array Slot), va_P D vwCl [(f0, .inl (g 0, nF, .inl ff)), (t0, .inl (g 0, nT, .inl cf))] H → va_D A [(f0, .inl (g 0, nF, .inl ff)), (t0, .inl (g 0, nT, .inl cf))] → va_S A s.heap H locs → lv_has ls 6 [(5, .int (nI k)), (0, .ref f0), (1, .int (nI fa)), (2, .ref t0), (3, .int (nI ta)), (4, .int (nI many))] → W pp l ee (kR 1 0 0) s mm args below meth cc H locs 0 0 Q (F0 mm 3 ls []) := by
    intro nn_3
    induction nn_3 with
    | zero => intro k cf hm9; exact absurd hm9 (Nat.not_lt_zero _)
    | succ nn_3 ih_3 =>
      intro k cf hm_3 hk hc H locs ls hP hD hS hl
      refine lv_iload hx hb dX8_copy_3 (lv_at hl 0 rfl) ?_
      refine lv_iload hx hb dX8_copy_5 (lv_at hl 5 rfl) ?_
      refine lv_icmp_ge (tgt := 28) hx hb dX8_copy_7 (by decide) (fun c_1 => ?_) (fun c_1 => ?_)
      · have c_1 : many ≤ k := (nI_leI (a := many) (b := k) (by omega) (by omega)).mp c_1
        obtain rfl : k = many := by omega
        subst hc
        subst hQ
        exact k_rv hx hb hr hlocks hP hD hS dX8_copy_28 (rfl)
      · have c_1 : ¬ (many ≤ k) := fun h9 => c_1 ((nI_leI (a := many) (b := k) (by omega) (by omega)).mpr h9)
        refine lv_aload_n hx hb dX8_copy_10 rfl (lv_at hl 3 rfl) ?_
        refine lv_iload_n hx hb dX8_copy_11 rfl (lv_at hl 4 rfl) ?_
        refine lv_iload hx hb dX8_copy_12 (lv_at hl 0 rfl) ?_
        refine lv_iadd hx hb dX8_copy_14 ?_
        refine k_top (y := (nI (ta + k))) (nI_add ta k) ?_
        refine lv_aload_n hx hb dX8_copy_15 rfl (lv_at hl 1 rfl) ?_
        refine lv_iload_n hx hb dX8_copy_16 rfl (lv_at hl 2 rfl) ?_
        refine lv_iload hx hb dX8_copy_17 (lv_at hl 0 rfl) ?_
        refine lv_iadd hx hb dX8_copy_19 ?_
        refine k_top (y := (nI (fa + k))) (nI_add fa k) ?_
        refine va_iald (i := (nI (fa + k))) hx hb hK hP 0 0 rfl rfl (vp_in_nI (n := (fa + k)) (by omega) (by omega)) dX8_copy_20 ?_
        refine k_top (y := (ff (fa + k))) (by rw [nI_clamp (by omega)]) ?_
        refine va_iast (i := (nI (ta + k))) (x := (ff (fa + k))) hx hb hK hP hD hS 1 0 rfl rfl (vp_in_nI (n := (ta + k)) (by omega) (by omega)) dX8_copy_21 (fun H locs hP hD hS => ?_)
        rw [nI_clamp (n := (ta + k)) (by omega)] at hP hD
        have hP : va_P D vwCl [(f0, .inl (g 0, nF, .inl ff)), (t0, .inl (g 0, nT, .inl (upd cf (ta + k) (ff (fa + k)))))] H := hP
        have hD : va_D A [(f0, .inl (g 0, nF, .inl ff)), (t0, .inl (g 0, nT, .inl (upd cf (ta + k) (ff (fa + k)))))] := hD
        refine lv_iinc (v := (nI (k + 1))) (lv' := [(5, .int (nI (k + 1))), (0, .ref f0), (1, .int (nI fa)), (2, .ref t0), (3, .int (nI ta)), (4, .int (nI many))]) hx hb dX8_copy_22 hl (k := 0) rfl (nI_1 _) (by decide) rfl (fun ls hl => ?_)
        refine lv_goto (tgt := 3) hx hb dX8_copy_25 (by decide) ?_
        exact ih_3 (k + 1) (upd cf (ta + k) (ff (fa + k))) (by omega) (by omega) (by rw [hc]; exact cpy_step) H locs ls hP hD hS (lv_sub hl [0, 1, 2, 3, 4, 5] rfl)
  exact hloop_3 ((many - 0) + 1) 0 tf (Nat.lt_succ_self _) (by omega) cpy_zero.symm H locs ls hP hD hS (lv_sub hl [0, 1, 2, 3, 4, 5] rfl)
theorem cpy_self {df : Nat → Int32} {fa k : Nat} : va_cpy df df fa 0 k (fa + k) = df (fa + k) := by
  unfold va_cpy
  exact if_neg (fun h => by omega)
set_option maxHeartbeats 4000000 in
set_option maxRecDepth 100000 in
theorem c_X8_copyS (l : Launch) (D : va_G) (g : Nat → Nat) (f0 : Nat) (sz : Nat) (df : Nat → Int32) (fa : Nat) (ta : Nat) (many : Nat) (nF : Nat) (h0 : ta = 0) (h1 : fa + many ≤ nF) (h3 : nF < 2 ^ 30) : kMv l D g yX8_copy wsX8_copy 1 0 0 [.ref f0, .int (nI fa), .ref f0, .int (nI ta), .int (nI many)] [(f0, .inl (g 0, nF, .inl df))] sz [(f0, .inl (g 0, nF, .inl (va_cpy df df fa 0 many)))] := by
  refine k_enter (nm := "copy") (own := RX8) (bytes := cX8_copy) (maxL := 6) (ret := none) (Qf := fun A => kQv D [(f0, .inl (g 0, nF, .inl (va_cpy df df fa 0 many)))] A) (by decide) rfl rfl rfl (Nat.le_of_ble_eq_true rfl) ?_
  rintro pp ee s mm below meth cc A ls args Q H locs hQ ⟨hx, hb, hr, hml, hown, hts, hlocks, hin⟩ hP hK hD hA hS hE hl
  have hl : lv_has ls 6 [(0, .ref f0), (1, .int (nI fa)), (2, .ref f0), (3, .int (nI ta)), (4, .int (nI many))] := hl
  refine lv_iconst (v := 0) hx hb dX8_copy_0 (by decide) ?_
  refine lv_istore (lv' := [(5, .int 0), (0, .ref f0), (1, .int (nI fa)), (2, .ref f0), (3, .int (nI ta)), (4, .int (nI many))]) hx hb dX8_copy_1 hl (by decide) rfl (fun ls hl => ?_)
  have hloop_3 : ∀ (nn_3 : Nat) (k : Nat) (cf : Nat → Int32), many - k < nn_3 → ∀ (hk : k ≤ many) (hc : cf = va_cpy df df fa 0 k) (H : Heap) (locs : List Loc) (ls : Array Slot), va_P D vwCl [(f0, .inl (g 0, nF, .inl cf))] H → va_D A [(f0, .inl (g 0, nF, .inl cf))] → va_S A s.heap H locs → lv_has ls 6 [(5, .int (nI k)), (0, .ref f0), (1, .int (nI fa)), (2, .ref f0), (3, .int (nI ta)), (4, .int (nI many))] → W pp l ee (kR 1 0 0) s mm args below meth cc H locs 0 0 Q (F0 mm 3 ls []) := by
    intro nn_3
    induction nn_3 with
    | zero => intro k cf hm9; exact absurd hm9 (Nat.not_lt_zero _)
    | succ nn_3 ih_3 =>
      intro k cf hm_3 hk hc H locs ls hP hD hS hl
      refine lv_iload hx hb dX8_copy_3 (lv_at hl 0 rfl) ?_
      refine lv_iload hx hb dX8_copy_5 (lv_at hl 5 rfl) ?_
      refine lv_icmp_ge (tgt := 28) hx hb dX8_copy_7 (by decide) (fun c_1 => ?_) (fun c_1 => ?_)
      · have c_1 : many ≤ k := (nI_leI (a := many) (b := k) (by omega) (by omega)).mp c_1
        obtain rfl : k = many := by omega
        subst hc
        subst hQ
        exact k_rv hx hb hr hlocks hP hD hS dX8_copy_28 (rfl)
      · have c_1 : ¬ (many ≤ k) := fun h9 => c_1 ((nI_leI (a := many) (b := k) (by omega) (by omega)).mpr h9)
        refine lv_aload_n hx hb dX8_copy_10 rfl (lv_at hl 3 rfl) ?_
        refine lv_iload_n hx hb dX8_copy_11 rfl (lv_at hl 4 rfl) ?_
        refine lv_iload hx hb dX8_copy_12 (lv_at hl 0 rfl) ?_
        refine lv_iadd hx hb dX8_copy_14 ?_
        refine k_top (y := (nI (ta + k))) (nI_add ta k) ?_
        refine lv_aload_n hx hb dX8_copy_15 rfl (lv_at hl 1 rfl) ?_
        refine lv_iload_n hx hb dX8_copy_16 rfl (lv_at hl 2 rfl) ?_
        refine lv_iload hx hb dX8_copy_17 (lv_at hl 0 rfl) ?_
        refine lv_iadd hx hb dX8_copy_19 ?_
        refine k_top (y := (nI (fa + k))) (nI_add fa k) ?_
        refine va_iald (i := (nI (fa + k))) hx hb hK hP 0 0 rfl rfl (vp_in_nI (n := (fa + k)) (by omega) (by omega)) dX8_copy_20 ?_
        refine k_top (y := (cf (fa + k))) (by rw [nI_clamp (by omega)]) ?_
        refine va_iast (i := (nI (ta + k))) (x := (cf (fa + k))) hx hb hK hP hD hS 0 0 rfl rfl (vp_in_nI (n := (ta + k)) (by omega) (by omega)) dX8_copy_21 (fun H locs hP hD hS => ?_)
        rw [nI_clamp (n := (ta + k)) (by omega)] at hP hD
        have hP : va_P D vwCl [(f0, .inl (g 0, nF, .inl (upd cf (ta + k) (cf (fa + k)))))] H := hP
        have hD : va_D A [(f0, .inl (g 0, nF, .inl (upd cf (ta + k) (cf (fa + k)))))] := hD
        refine lv_iinc (v := (nI (k + 1))) (lv' := [(5, .int (nI (k + 1))), (0, .ref f0), (1, .int (nI fa)), (2, .ref f0), (3, .int (nI ta)), (4, .int (nI many))]) hx hb dX8_copy_22 hl (k := 0) rfl (nI_1 _) (by decide) rfl (fun ls hl => ?_)
        refine lv_goto (tgt := 3) hx hb dX8_copy_25 (by decide) ?_
        exact ih_3 (k + 1) (upd cf (ta + k) (cf (fa + k))) (by omega) (by omega) (by subst h0; rw [hc, cpy_self]; exact cpy_step) H locs ls hP hD hS (lv_sub hl [0, 1, 2, 3, 4, 5] rfl)
  exact hloop_3 ((many - 0) + 1) 0 df (Nat.lt_succ_self _) (by omega) cpy_zero.symm H locs ls hP hD hS (lv_sub hl [0, 1, 2, 3, 4, 5] rfl)
def kTen : Nat → Int64
  | 0 => 1
  | k + 1 => kTen k * 10
theorem qX8_tenTo_0 : Cond.constantLong RX8 45 (10) ∈ wsX8_tenTo := (List.mem_cons_of_mem _ (List.mem_of_getElem? (i := 0) rfl))
set_option maxHeartbeats 4000000 in
set_option maxRecDepth 100000 in
theorem c_X8_tenTo (l : Launch) (D : va_G) (g : Nat → Nat) (sz : Nat) (many : Nat) (hm : many ≤ 100) : kMl l D g yX8_tenTo wsX8_tenTo 1 0 0 [.int (nI many)] [] sz (kTen many) [] := by
  refine k_enter (nm := "tenTo") (own := RX8) (bytes := cX8_tenTo) (maxL := 4) (ret := (some .long)) (Qf := fun A => kQl D [] A (kTen many)) (by decide) rfl rfl rfl (Nat.le_of_ble_eq_true rfl) ?_
  rintro pp ee s mm below meth cc A ls args Q H locs hQ ⟨hx, hb, hr, hml, hown, hts, hlocks, hin⟩ hP hK hD hA hS hE hl
  have hl : lv_has ls 4 [(0, .int (nI many))] := hl
  refine lv_lconst (v := 1) hx hb dX8_tenTo_0 (by decide) ?_
  refine lv_lstore_n (lv' := [(1, .long 1), (0, .int (nI many))]) hx hb dX8_tenTo_1 rfl hl (by decide) rfl (fun ls hl => ?_)
  refine lv_iconst (v := 0) hx hb dX8_tenTo_2 (by decide) ?_
  refine lv_istore_n (lv' := [(3, .int 0), (1, .long 1), (0, .int (nI many))]) hx hb dX8_tenTo_3 rfl hl (by decide) rfl (fun ls hl => ?_)
  have hloop_4 : ∀ (nn_4 : Nat) (k : Nat) (v : Int64), many - k < nn_4 → ∀ (hk : k ≤ many) (hv : v = kTen k) (H : Heap) (locs : List Loc) (ls : Array Slot), va_P D vwCl [] H → va_D A [] → va_S A s.heap H locs → lv_has ls 4 [(3, .int (nI k)), (1, .long v), (0, .int (nI many))] → W pp l ee (kR 1 0 0) s mm args below meth cc H locs 0 0 Q (F0 mm 4 ls []) := by
    intro nn_4
    induction nn_4 with
    | zero => intro k v hm9; exact absurd hm9 (Nat.not_lt_zero _)
    | succ nn_4 ih_4 =>
      intro k v hm_4 hk hv H locs ls hP hD hS hl
      refine lv_iload_n hx hb dX8_tenTo_4 rfl (lv_at hl 0 rfl) ?_
      refine lv_iload_n hx hb dX8_tenTo_5 rfl (lv_at hl 2 rfl) ?_
      refine lv_icmp_ge (tgt := 21) hx hb dX8_tenTo_6 (by decide) (fun c_1 => ?_) (fun c_1 => ?_)
      · have c_1 : many ≤ k := (nI_leI (a := many) (b := k) (by omega) (by omega)).mp c_1
        refine lv_lload_n hx hb dX8_tenTo_21 rfl (lv_at hl 1 rfl) ?_
        subst hQ
        exact k_rl hx hb hr hlocks hP hD hS dX8_tenTo_22 (by rw [hv, show k = many by omega]) (rfl)
      · have c_1 : ¬ (many ≤ k) := fun h9 => c_1 ((nI_leI (a := many) (b := k) (by omega) (by omega)).mpr h9)
        refine lv_lload_n hx hb dX8_tenTo_9 rfl (lv_at hl 1 rfl) ?_
        refine lv_ldc2 hx hb hown (hts _ qX8_tenTo_0) dX8_tenTo_10 ?_
        refine lv_lmul hx hb dX8_tenTo_13 ?_
        refine lv_lstore_n (lv' := [(1, .long (v * 10)), (3, .int (nI k)), (0, .int (nI many))]) hx hb dX8_tenTo_14 rfl hl (by decide) rfl (fun ls hl => ?_)
        refine lv_iinc (v := (nI (k + 1))) (lv' := [(3, .int (nI (k + 1))), (1, .long (v * 10)), (0, .int (nI many))]) hx hb dX8_tenTo_15 hl (k := 1) rfl (nI_1 _) (by decide) rfl (fun ls hl => ?_)
        refine lv_goto (tgt := 4) hx hb dX8_tenTo_18 (by decide) ?_
        exact ih_4 (k + 1) (v * 10) (by omega) (by omega) (by rw [hv]; rfl) H locs ls hP hD hS (lv_sub hl [0, 1, 2] rfl)
  exact hloop_4 ((many - 0) + 1) 0 1 (Nat.lt_succ_self _) (by omega) rfl H locs ls hP hD hS (lv_sub hl [0, 1, 2] rfl)
set_option maxHeartbeats 4000000 in
set_option maxRecDepth 100000 in
theorem c_X8_partAt (l : Launch) (D : va_G) (g : Nat → Nat) (sz : Nat) (pa : Nat) (what : Nat) : kMi l D g yX8_partAt wsX8_partAt 1 0 0 [.int (nI pa), .int (nI what)] [] sz (nI (1 + 8 * pa + what)) [] := by
  refine k_enter (nm := "partAt") (own := RX8) (bytes := cX8_partAt) (maxL := 2) (ret := (some .int)) (Qf := fun A => kQi D [] A (nI (1 + 8 * pa + what))) (by decide) rfl rfl rfl (Nat.le_of_ble_eq_true rfl) ?_
  rintro pp ee s mm below meth cc A ls args Q H locs hQ ⟨hx, hb, hr, hml, hown, hts, hlocks, hin⟩ hP hK hD hA hS hE hl
  have hl : lv_has ls 2 [(0, .int (nI pa)), (1, .int (nI what))] := hl
  refine lv_iconst (v := 1) hx hb dX8_partAt_0 (by decide) ?_
  refine lv_bipush (v := 8) hx hb dX8_partAt_1 (by decide) ?_
  refine lv_iload_n hx hb dX8_partAt_3 rfl (lv_at hl 0 rfl) ?_
  refine lv_imul hx hb dX8_partAt_4 ?_
  refine k_top (y := (nI (8 * pa))) (pk_mul 8 pa) ?_
  refine lv_iadd hx hb dX8_partAt_5 ?_
  refine k_top (y := (nI (1 + (8 * pa)))) (nI_add 1 (8 * pa)) ?_
  refine lv_iload_n hx hb dX8_partAt_6 rfl (lv_at hl 1 rfl) ?_
  refine lv_iadd hx hb dX8_partAt_7 ?_
  refine k_top (y := (nI ((1 + (8 * pa)) + what))) (nI_add (1 + (8 * pa)) what) ?_
  subst hQ
  exact k_ri hx hb hr hlocks hP hD hS dX8_partAt_8 (rfl) (rfl)
/-- the row of contracts of a caller -/
def kSide (caller : Int32) : Nat := if caller = -10001 then 0 else if caller = -10000 then 1 else 2 + caller.toNatClampNeg
theorem kSide_N {c : Nat} (h : c < 2 ^ 31) : kSide (nI c) = 2 + c := by
  unfold kSide
  rw [if_neg (k_nneg h (by decide)), if_neg (k_nneg h (by decide)), nI_clamp h]
theorem k_addL {x : Int32} (h : ¬ x < 0) (n : Nat) : nI n + x = nI (n + x.toNatClampNeg) := by
  rw [← nI_add, ← k_cl h]
set_option maxHeartbeats 4000000 in
set_option maxRecDepth 100000 in
theorem c_X8_sideOf (l : Launch) (D : va_G) (g : Nat → Nat) (sz : Nat) (caller : Int32) (hcl : caller = -10001 ∨ caller = -10000 ∨ ¬ caller < 0) : kMi l D g yX8_sideOf wsX8_sideOf 1 0 0 [.int caller] [] sz (nI (kSide caller)) [] := by
  refine k_enter (nm := "sideOf") (own := RX8) (bytes := cX8_sideOf) (maxL := 1) (ret := (some .int)) (Qf := fun A => kQi D [] A (nI (kSide caller))) (by decide) rfl rfl rfl (Nat.le_of_ble_eq_true rfl) ?_
  rintro pp ee s mm below meth cc A ls args Q H locs hQ ⟨hx, hb, hr, hml, hown, hts, hlocks, hin⟩ hP hK hD hA hS hE hl
  have hl : lv_has ls 1 [(0, .int caller)] := hl
  refine lv_iload_n hx hb dX8_sideOf_0 rfl (lv_at hl 0 rfl) ?_
  refine lv_sipush (v := (-10001)) hx hb dX8_sideOf_1 (by decide) ?_
  refine lv_icmp_ne (tgt := 11) hx hb dX8_sideOf_4 (by decide) (fun c_1 => ?_) (fun c_1 => ?_)
  · refine lv_iload_n hx hb dX8_sideOf_11 rfl (lv_at hl 0 rfl) ?_
    refine lv_sipush (v := (-10000)) hx hb dX8_sideOf_12 (by decide) ?_
    refine lv_icmp_ne (tgt := 22) hx hb dX8_sideOf_15 (by decide) (fun c_2 => ?_) (fun c_2 => ?_)
    · refine lv_iconst (v := 2) hx hb dX8_sideOf_22 (by decide) ?_
      refine lv_iload_n hx hb dX8_sideOf_23 rfl (lv_at hl 0 rfl) ?_
      refine lv_iadd hx hb dX8_sideOf_24 ?_
      subst hQ
      exact k_ri hx hb hr hlocks hP hD hS dX8_sideOf_25 (by unfold kSide; rw [if_neg c_1, if_neg c_2, ← k_addL ((hcl.resolve_left c_1).resolve_left c_2) 2]; rfl) (rfl)
    · refine lv_iconst (v := 1) hx hb dX8_sideOf_18 (by decide) ?_
      refine lv_goto (tgt := 25) hx hb dX8_sideOf_19 (by decide) ?_
      subst hQ
      exact k_ri hx hb hr hlocks hP hD hS dX8_sideOf_25 (by unfold kSide; rw [if_neg c_1, if_pos c_2]; rfl) (rfl)
  · refine lv_iconst (v := 0) hx hb dX8_sideOf_7 (by decide) ?_
    refine lv_goto (tgt := 25) hx hb dX8_sideOf_8 (by decide) ?_
    subst hQ
    exact k_ri hx hb hr hlocks hP hD hS dX8_sideOf_25 (by unfold kSide; rw [if_pos c_1]; rfl) (rfl)
set_option maxHeartbeats 4000000 in
set_option maxRecDepth 100000 in
theorem c_X8_contractAt (l : Launch) (D : va_G) (g : Nat → Nat) (sz : Nat) (sd : Nat) (pa : Nat) (what : Nat) : kMi l D g yX8_contractAt wsX8_contractAt 1 0 0 [.int (nI sd), .int (nI pa), .int (nI what)] [] sz (nI (81 + 5 * (10 * sd + pa) + what)) [] := by
  refine k_enter (nm := "contractAt") (own := RX8) (bytes := cX8_contractAt) (maxL := 3) (ret := (some .int)) (Qf := fun A => kQi D [] A (nI (81 + 5 * (10 * sd + pa) + what))) (by decide) rfl rfl rfl (Nat.le_of_ble_eq_true rfl) ?_
  rintro pp ee s mm below meth cc A ls args Q H locs hQ ⟨hx, hb, hr, hml, hown, hts, hlocks, hin⟩ hP hK hD hA hS hE hl
  have hl : lv_has ls 3 [(0, .int (nI sd)), (1, .int (nI pa)), (2, .int (nI what))] := hl
  refine lv_bipush (v := 81) hx hb dX8_contractAt_0 (by decide) ?_
  refine lv_iconst (v := 5) hx hb dX8_contractAt_2 (by decide) ?_
  refine lv_bipush (v := 10) hx hb dX8_contractAt_3 (by decide) ?_
  refine lv_iload_n hx hb dX8_contractAt_5 rfl (lv_at hl 0 rfl) ?_
  refine lv_imul hx hb dX8_contractAt_6 ?_
  refine k_top (y := (nI (10 * sd))) (pk_mul 10 sd) ?_
  refine lv_iload_n hx hb dX8_contractAt_7 rfl (lv_at hl 1 rfl) ?_
  refine lv_iadd hx hb dX8_contractAt_8 ?_
  refine k_top (y := (nI ((10 * sd) + pa))) (nI_add (10 * sd) pa) ?_
  refine lv_imul hx hb dX8_contractAt_9 ?_
  refine k_top (y := (nI (5 * ((10 * sd) + pa)))) (pk_mul 5 ((10 * sd) + pa)) ?_
  refine lv_iadd hx hb dX8_contractAt_10 ?_
  refine k_top (y := (nI (81 + (5 * ((10 * sd) + pa))))) (nI_add 81 (5 * ((10 * sd) + pa))) ?_
  refine lv_iload_n hx hb dX8_contractAt_11 rfl (lv_at hl 2 rfl) ?_
  refine lv_iadd hx hb dX8_contractAt_12 ?_
  refine k_top (y := (nI ((81 + (5 * ((10 * sd) + pa))) + what))) (nI_add (81 + (5 * ((10 * sd) + pa))) what) ?_
  subst hQ
  exact k_ri hx hb hr hlocks hP hD hS dX8_contractAt_13 (rfl) (rfl)
def f_X8_hasContract (rw : Nat → Int32) (sd : Nat) (pa : Nat) : Int32 :=
  if (rw (81 + 5 * (10 * sd + pa) + 0)) = 1 then
    1
  else
    0
set_option maxHeartbeats 4000000 in
set_option maxRecDepth 100000 in
theorem c_X8_hasContract (l : Launch) (D : va_G) (g : Nat → Nat) (r0 : Nat) (sz : Nat) (rw : Nat → Int32) (sd : Nat) (pa : Nat) (hsd : sd < 12) (hpa : pa < 10) : kMi l D g yX8_hasContract wsX8_hasContract 2 0 0 [.ref r0, .int (nI sd), .int (nI pa)] [(r0, .inl (g 0, 748, .inl rw))] sz (f_X8_hasContract rw sd pa) [(r0, .inl (g 0, 748, .inl rw))] := by
  refine k_enter (nm := "hasContract") (own := RX8) (bytes := cX8_hasContract) (maxL := 3) (ret := (some .boolean)) (Qf := fun A => kQi D [(r0, .inl (g 0, 748, .inl rw))] A (f_X8_hasContract rw sd pa)) (by decide) rfl rfl rfl (Nat.le_of_ble_eq_true rfl) ?_
  rintro pp ee s mm below meth cc A ls args Q H locs hQ ⟨hx, hb, hr, hml, hown, hts, hlocks, hin⟩ hP hK hD hA hS hE hl
  have hl : lv_has ls 3 [(0, .ref r0), (1, .int (nI sd)), (2, .int (nI pa))] := hl
  refine lv_aload_n hx hb dX8_hasContract_0 rfl (lv_at hl 0 rfl) ?_
  refine lv_iload_n hx hb dX8_hasContract_1 rfl (lv_at hl 1 rfl) ?_
  refine lv_iload_n hx hb dX8_hasContract_2 rfl (lv_at hl 2 rfl) ?_
  refine lv_iconst (v := 0) hx hb dX8_hasContract_3 (by decide) ?_
  refine k_ai (wr := [(r0, .inl (g 0, 748, .inl rw))]) (w2 := [(r0, .inl (g 0, 748, .inl rw))]) (va_runS (As := [.int (nI sd), .int (nI pa), .int 0]) (rest := [.ref r0]) ⟨hx, hb, hml, hown, hts⟩ (c_X8_contractAt l D g H.size sd pa 0) (va_cwS 3 hts gX8_hasContract_X8_contractAt rfl rfl rfl (by decide +kernel) (k_lvl (by omega) (by decide))) (kPS hP hD hK hS hA hE [] rfl (by decide)) rfl rfl hl.1 rfl (lv_room (Nat.le_of_ble_eq_true rfl)) dX8_hasContract_4 ⟨Nat.le_of_ble_eq_true rfl, Nat.le_of_ble_eq_true rfl⟩) hP hD hS hA [] [0] [0] rfl rfl (by decide) (by decide) rfl (by decide) (fun H locs hP hD hS => ?_)
  refine va_iald (i := (nI (81 + 5 * (10 * sd + pa) + 0))) hx hb hK hP 0 0 rfl rfl (vp_in_nI (n := (81 + 5 * (10 * sd + pa) + 0)) (by omega) (by omega)) dX8_hasContract_7 ?_
  refine k_top (y := (rw (81 + 5 * (10 * sd + pa) + 0))) (by rw [nI_clamp (by omega)]) ?_
  refine lv_iconst (v := 1) hx hb dX8_hasContract_8 (by decide) ?_
  refine lv_icmp_ne (tgt := 16) hx hb dX8_hasContract_9 (by decide) (fun c_1 => ?_) (fun c_1 => ?_)
  · refine lv_iconst (v := 0) hx hb dX8_hasContract_16 (by decide) ?_
    have hE2 : (f_X8_hasContract rw sd pa) = 0 := by
      exact (if_neg c_1).trans (rfl)
    subst hQ
    exact k_rz hx hb hr hlocks hP hD hS dX8_hasContract_17 (by rfl) (hE2.symm) (rfl)
  · refine lv_iconst (v := 1) hx hb dX8_hasContract_12 (by decide) ?_
    refine lv_goto (tgt := 17) hx hb dX8_hasContract_13 (by decide) ?_
    have hE2 : (f_X8_hasContract rw sd pa) = 1 := by
      exact (if_pos c_1).trans (rfl)
    subst hQ
    exact k_rz hx hb hr hlocks hP hD hS dX8_hasContract_17 (by rfl) (hE2.symm) (rfl)
def f_X8_asks (rw : Nat → Int32) (sd : Nat) (pa : Nat) (x : Int32) : Int32 :=
  if (f_X8_hasContract rw sd pa) = 0 then
    1
  else
    if (f_X8_in (Int32.toInt64 x) (Int32.toInt64 (rw (81 + 5 * (10 * sd + pa) + 1))) (Int32.toInt64 (rw (81 + 5 * (10 * sd + pa) + 2)))) = 0 then
      0
    else
      1
set_option maxHeartbeats 4000000 in
set_option maxRecDepth 100000 in
theorem c_X8_asks (l : Launch) (D : va_G) (g : Nat → Nat) (r0 : Nat) (sz : Nat) (rw : Nat → Int32) (sd : Nat) (pa : Nat) (x : Int32) (hsd : sd < 12) (hpa : pa < 10) : kMi l D g yX8_asks wsX8_asks 3 0 0 [.ref r0, .int (nI sd), .int (nI pa), .int x] [(r0, .inl (g 0, 748, .inl rw))] sz (f_X8_asks rw sd pa x) [(r0, .inl (g 0, 748, .inl rw))] := by
  refine k_enter (nm := "asks") (own := RX8) (bytes := cX8_asks) (maxL := 4) (ret := (some .boolean)) (Qf := fun A => kQi D [(r0, .inl (g 0, 748, .inl rw))] A (f_X8_asks rw sd pa x)) (by decide) rfl rfl rfl (Nat.le_of_ble_eq_true rfl) ?_
  rintro pp ee s mm below meth cc A ls args Q H locs hQ ⟨hx, hb, hr, hml, hown, hts, hlocks, hin⟩ hP hK hD hA hS hE hl
  have hl : lv_has ls 4 [(0, .ref r0), (1, .int (nI sd)), (2, .int (nI pa)), (3, .int x)] := hl
  refine lv_aload_n hx hb dX8_asks_0 rfl (lv_at hl 0 rfl) ?_
  refine lv_iload_n hx hb dX8_asks_1 rfl (lv_at hl 1 rfl) ?_
  refine lv_iload_n hx hb dX8_asks_2 rfl (lv_at hl 2 rfl) ?_
  refine k_ai (wr := []) (w2 := [(r0, .inl (g 0, 748, .inl rw))]) (va_runS (As := [.ref r0, .int (nI sd), .int (nI pa)]) (rest := []) ⟨hx, hb, hml, hown, hts⟩ (c_X8_hasContract l D g r0 H.size rw sd pa (by omega) (by omega)) (va_cwS 3 hts gX8_asks_X8_hasContract rfl rfl rfl (by decide +kernel) (k_lvl (by omega) (by decide))) (kPS hP hD hK hS hA hE [0] rfl (by decide)) rfl rfl hl.1 rfl (lv_room (Nat.le_of_ble_eq_true rfl)) dX8_asks_3 ⟨Nat.le_of_ble_eq_true rfl, Nat.le_of_ble_eq_true rfl⟩) hP hD hS hA [0] [] [0] rfl rfl (by decide) (by decide) rfl (by decide) (fun H locs hP hD hS => ?_)
  refine lv_if_eq (tgt := 35) hx hb dX8_asks_6 (by decide) (fun c_1 => ?_) (fun c_1 => ?_)
  · refine lv_iconst (v := 1) hx hb dX8_asks_35 (by decide) ?_
    refine lv_goto (tgt := 40) hx hb dX8_asks_36 (by decide) ?_
    have hE2 : (f_X8_asks rw sd pa x) = 1 := by
      exact (if_pos c_1).trans (rfl)
    subst hQ
    exact k_rz hx hb hr hlocks hP hD hS dX8_asks_40 (by rfl) (hE2.symm) (rfl)
  · refine lv_iload_n hx hb dX8_asks_9 rfl (lv_at hl 3 rfl) ?_
    refine lv_i2l (v := (Int32.toInt64 x)) hx hb dX8_asks_10 rfl ?_
    refine lv_aload_n hx hb dX8_asks_11 rfl (lv_at hl 0 rfl) ?_
    refine lv_iload_n hx hb dX8_asks_12 rfl (lv_at hl 1 rfl) ?_
    refine lv_iload_n hx hb dX8_asks_13 rfl (lv_at hl 2 rfl) ?_
    refine lv_iconst (v := 1) hx hb dX8_asks_14 (by decide) ?_
    refine k_ai (wr := [(r0, .inl (g 0, 748, .inl rw))]) (w2 := [(r0, .inl (g 0, 748, .inl rw))]) (va_runS (As := [.int (nI sd), .int (nI pa), .int 1]) (rest := [.ref r0, .long (Int32.toInt64 x)]) ⟨hx, hb, hml, hown, hts⟩ (c_X8_contractAt l D g H.size sd pa 1) (va_cwS 3 hts gX8_asks_X8_contractAt rfl rfl rfl (by decide +kernel) (k_lvl (by omega) (by decide))) (kPS hP hD hK hS hA hE [] rfl (by decide)) rfl rfl hl.1 rfl (lv_room (Nat.le_of_ble_eq_true rfl)) dX8_asks_15 ⟨Nat.le_of_ble_eq_true rfl, Nat.le_of_ble_eq_true rfl⟩) hP hD hS hA [] [0] [0] rfl rfl (by decide) (by decide) rfl (by decide) (fun H locs hP hD hS => ?_)
    refine va_iald (i := (nI (81 + 5 * (10 * sd + pa) + 1))) hx hb hK hP 0 0 rfl rfl (vp_in_nI (n := (81 + 5 * (10 * sd + pa) + 1)) (by omega) (by omega)) dX8_asks_18 ?_
    refine k_top (y := (rw (81 + 5 * (10 * sd + pa) + 1))) (by rw [nI_clamp (by omega)]) ?_
    refine lv_i2l (v := (Int32.toInt64 (rw (81 + 5 * (10 * sd + pa) + 1)))) hx hb dX8_asks_19 rfl ?_
    refine lv_aload_n hx hb dX8_asks_20 rfl (lv_at hl 0 rfl) ?_
    refine lv_iload_n hx hb dX8_asks_21 rfl (lv_at hl 1 rfl) ?_
    refine lv_iload_n hx hb dX8_asks_22 rfl (lv_at hl 2 rfl) ?_
    refine lv_iconst (v := 2) hx hb dX8_asks_23 (by decide) ?_
    refine k_ai (wr := [(r0, .inl (g 0, 748, .inl rw))]) (w2 := [(r0, .inl (g 0, 748, .inl rw))]) (va_runS (As := [.int (nI sd), .int (nI pa), .int 2]) (rest := [.ref r0, .long (Int32.toInt64 (rw (81 + 5 * (10 * sd + pa) + 1))), .long (Int32.toInt64 x)]) ⟨hx, hb, hml, hown, hts⟩ (c_X8_contractAt l D g H.size sd pa 2) (va_cwS 3 hts gX8_asks_X8_contractAt rfl rfl rfl (by decide +kernel) (k_lvl (by omega) (by decide))) (kPS hP hD hK hS hA hE [] rfl (by decide)) rfl rfl hl.1 rfl (lv_room (Nat.le_of_ble_eq_true rfl)) dX8_asks_24 ⟨Nat.le_of_ble_eq_true rfl, Nat.le_of_ble_eq_true rfl⟩) hP hD hS hA [] [0] [0] rfl rfl (by decide) (by decide) rfl (by decide) (fun H locs hP hD hS => ?_)
    refine va_iald (i := (nI (81 + 5 * (10 * sd + pa) + 2))) hx hb hK hP 0 0 rfl rfl (vp_in_nI (n := (81 + 5 * (10 * sd + pa) + 2)) (by omega) (by omega)) dX8_asks_27 ?_
    refine k_top (y := (rw (81 + 5 * (10 * sd + pa) + 2))) (by rw [nI_clamp (by omega)]) ?_
    refine lv_i2l (v := (Int32.toInt64 (rw (81 + 5 * (10 * sd + pa) + 2)))) hx hb dX8_asks_28 rfl ?_
    refine k_ai (wr := [(r0, .inl (g 0, 748, .inl rw))]) (w2 := [(r0, .inl (g 0, 748, .inl rw))]) (va_runS (As := [.long (Int32.toInt64 x), .long (Int32.toInt64 (rw (81 + 5 * (10 * sd + pa) + 1))), .long (Int32.toInt64 (rw (81 + 5 * (10 * sd + pa) + 2)))]) (rest := []) ⟨hx, hb, hml, hown, hts⟩ (c_X8_in l D g H.size (Int32.toInt64 x) (Int32.toInt64 (rw (81 + 5 * (10 * sd + pa) + 1))) (Int32.toInt64 (rw (81 + 5 * (10 * sd + pa) + 2)))) (va_cwS 3 hts gX8_asks_X8_in rfl rfl rfl (by decide +kernel) (k_lvl (by omega) (by decide))) (kPS hP hD hK hS hA hE [] rfl (by decide)) rfl rfl hl.1 rfl (lv_room (Nat.le_of_ble_eq_true rfl)) dX8_asks_29 ⟨Nat.le_of_ble_eq_true rfl, Nat.le_of_ble_eq_true rfl⟩) hP hD hS hA [] [0] [0] rfl rfl (by decide) (by decide) rfl (by decide) (fun H locs hP hD hS => ?_)
    refine lv_if_eq (tgt := 39) hx hb dX8_asks_32 (by decide) (fun c_2 => ?_) (fun c_2 => ?_)
    · refine lv_iconst (v := 0) hx hb dX8_asks_39 (by decide) ?_
      have hE2 : (f_X8_asks rw sd pa x) = 0 := by
        exact (if_neg c_1).trans ((if_pos c_2).trans (rfl))
      subst hQ
      exact k_rz hx hb hr hlocks hP hD hS dX8_asks_40 (by rfl) (hE2.symm) (rfl)
    · refine lv_iconst (v := 1) hx hb dX8_asks_35 (by decide) ?_
      refine lv_goto (tgt := 40) hx hb dX8_asks_36 (by decide) ?_
      have hE2 : (f_X8_asks rw sd pa x) = 1 := by
        exact (if_neg c_1).trans ((if_neg c_2).trans (rfl))
      subst hQ
      exact k_rz hx hb hr hlocks hP hD hS dX8_asks_40 (by rfl) (hE2.symm) (rfl)
def f_X8_gives (rw : Nat → Int32) (sd : Nat) (pa : Nat) (x : Int32) : Int32 :=
  if (f_X8_hasContract rw sd pa) = 0 then
    1
  else
    if (f_X8_in (Int32.toInt64 x) (Int32.toInt64 (rw (81 + 5 * (10 * sd + pa) + 3))) (Int32.toInt64 (rw (81 + 5 * (10 * sd + pa) + 4)))) = 0 then
      0
    else
      1
set_option maxHeartbeats 4000000 in
set_option maxRecDepth 100000 in
theorem c_X8_gives (l : Launch) (D : va_G) (g : Nat → Nat) (r0 : Nat) (sz : Nat) (rw : Nat → Int32) (sd : Nat) (pa : Nat) (x : Int32) (hsd : sd < 12) (hpa : pa < 10) : kMi l D g yX8_gives wsX8_gives 3 0 0 [.ref r0, .int (nI sd), .int (nI pa), .int x] [(r0, .inl (g 0, 748, .inl rw))] sz (f_X8_gives rw sd pa x) [(r0, .inl (g 0, 748, .inl rw))] := by
  refine k_enter (nm := "gives") (own := RX8) (bytes := cX8_gives) (maxL := 4) (ret := (some .boolean)) (Qf := fun A => kQi D [(r0, .inl (g 0, 748, .inl rw))] A (f_X8_gives rw sd pa x)) (by decide) rfl rfl rfl (Nat.le_of_ble_eq_true rfl) ?_
  rintro pp ee s mm below meth cc A ls args Q H locs hQ ⟨hx, hb, hr, hml, hown, hts, hlocks, hin⟩ hP hK hD hA hS hE hl
  have hl : lv_has ls 4 [(0, .ref r0), (1, .int (nI sd)), (2, .int (nI pa)), (3, .int x)] := hl
  refine lv_aload_n hx hb dX8_gives_0 rfl (lv_at hl 0 rfl) ?_
  refine lv_iload_n hx hb dX8_gives_1 rfl (lv_at hl 1 rfl) ?_
  refine lv_iload_n hx hb dX8_gives_2 rfl (lv_at hl 2 rfl) ?_
  refine k_ai (wr := []) (w2 := [(r0, .inl (g 0, 748, .inl rw))]) (va_runS (As := [.ref r0, .int (nI sd), .int (nI pa)]) (rest := []) ⟨hx, hb, hml, hown, hts⟩ (c_X8_hasContract l D g r0 H.size rw sd pa (by omega) (by omega)) (va_cwS 3 hts gX8_gives_X8_hasContract rfl rfl rfl (by decide +kernel) (k_lvl (by omega) (by decide))) (kPS hP hD hK hS hA hE [0] rfl (by decide)) rfl rfl hl.1 rfl (lv_room (Nat.le_of_ble_eq_true rfl)) dX8_gives_3 ⟨Nat.le_of_ble_eq_true rfl, Nat.le_of_ble_eq_true rfl⟩) hP hD hS hA [0] [] [0] rfl rfl (by decide) (by decide) rfl (by decide) (fun H locs hP hD hS => ?_)
  refine lv_if_eq (tgt := 35) hx hb dX8_gives_6 (by decide) (fun c_1 => ?_) (fun c_1 => ?_)
  · refine lv_iconst (v := 1) hx hb dX8_gives_35 (by decide) ?_
    refine lv_goto (tgt := 40) hx hb dX8_gives_36 (by decide) ?_
    have hE2 : (f_X8_gives rw sd pa x) = 1 := by
      exact (if_pos c_1).trans (rfl)
    subst hQ
    exact k_rz hx hb hr hlocks hP hD hS dX8_gives_40 (by rfl) (hE2.symm) (rfl)
  · refine lv_iload_n hx hb dX8_gives_9 rfl (lv_at hl 3 rfl) ?_
    refine lv_i2l (v := (Int32.toInt64 x)) hx hb dX8_gives_10 rfl ?_
    refine lv_aload_n hx hb dX8_gives_11 rfl (lv_at hl 0 rfl) ?_
    refine lv_iload_n hx hb dX8_gives_12 rfl (lv_at hl 1 rfl) ?_
    refine lv_iload_n hx hb dX8_gives_13 rfl (lv_at hl 2 rfl) ?_
    refine lv_iconst (v := 3) hx hb dX8_gives_14 (by decide) ?_
    refine k_ai (wr := [(r0, .inl (g 0, 748, .inl rw))]) (w2 := [(r0, .inl (g 0, 748, .inl rw))]) (va_runS (As := [.int (nI sd), .int (nI pa), .int 3]) (rest := [.ref r0, .long (Int32.toInt64 x)]) ⟨hx, hb, hml, hown, hts⟩ (c_X8_contractAt l D g H.size sd pa 3) (va_cwS 3 hts gX8_gives_X8_contractAt rfl rfl rfl (by decide +kernel) (k_lvl (by omega) (by decide))) (kPS hP hD hK hS hA hE [] rfl (by decide)) rfl rfl hl.1 rfl (lv_room (Nat.le_of_ble_eq_true rfl)) dX8_gives_15 ⟨Nat.le_of_ble_eq_true rfl, Nat.le_of_ble_eq_true rfl⟩) hP hD hS hA [] [0] [0] rfl rfl (by decide) (by decide) rfl (by decide) (fun H locs hP hD hS => ?_)
    refine va_iald (i := (nI (81 + 5 * (10 * sd + pa) + 3))) hx hb hK hP 0 0 rfl rfl (vp_in_nI (n := (81 + 5 * (10 * sd + pa) + 3)) (by omega) (by omega)) dX8_gives_18 ?_
    refine k_top (y := (rw (81 + 5 * (10 * sd + pa) + 3))) (by rw [nI_clamp (by omega)]) ?_
    refine lv_i2l (v := (Int32.toInt64 (rw (81 + 5 * (10 * sd + pa) + 3)))) hx hb dX8_gives_19 rfl ?_
    refine lv_aload_n hx hb dX8_gives_20 rfl (lv_at hl 0 rfl) ?_
    refine lv_iload_n hx hb dX8_gives_21 rfl (lv_at hl 1 rfl) ?_
    refine lv_iload_n hx hb dX8_gives_22 rfl (lv_at hl 2 rfl) ?_
    refine lv_iconst (v := 4) hx hb dX8_gives_23 (by decide) ?_
    refine k_ai (wr := [(r0, .inl (g 0, 748, .inl rw))]) (w2 := [(r0, .inl (g 0, 748, .inl rw))]) (va_runS (As := [.int (nI sd), .int (nI pa), .int 4]) (rest := [.ref r0, .long (Int32.toInt64 (rw (81 + 5 * (10 * sd + pa) + 3))), .long (Int32.toInt64 x)]) ⟨hx, hb, hml, hown, hts⟩ (c_X8_contractAt l D g H.size sd pa 4) (va_cwS 3 hts gX8_gives_X8_contractAt rfl rfl rfl (by decide +kernel) (k_lvl (by omega) (by decide))) (kPS hP hD hK hS hA hE [] rfl (by decide)) rfl rfl hl.1 rfl (lv_room (Nat.le_of_ble_eq_true rfl)) dX8_gives_24 ⟨Nat.le_of_ble_eq_true rfl, Nat.le_of_ble_eq_true rfl⟩) hP hD hS hA [] [0] [0] rfl rfl (by decide) (by decide) rfl (by decide) (fun H locs hP hD hS => ?_)
    refine va_iald (i := (nI (81 + 5 * (10 * sd + pa) + 4))) hx hb hK hP 0 0 rfl rfl (vp_in_nI (n := (81 + 5 * (10 * sd + pa) + 4)) (by omega) (by omega)) dX8_gives_27 ?_
    refine k_top (y := (rw (81 + 5 * (10 * sd + pa) + 4))) (by rw [nI_clamp (by omega)]) ?_
    refine lv_i2l (v := (Int32.toInt64 (rw (81 + 5 * (10 * sd + pa) + 4)))) hx hb dX8_gives_28 rfl ?_
    refine k_ai (wr := [(r0, .inl (g 0, 748, .inl rw))]) (w2 := [(r0, .inl (g 0, 748, .inl rw))]) (va_runS (As := [.long (Int32.toInt64 x), .long (Int32.toInt64 (rw (81 + 5 * (10 * sd + pa) + 3))), .long (Int32.toInt64 (rw (81 + 5 * (10 * sd + pa) + 4)))]) (rest := []) ⟨hx, hb, hml, hown, hts⟩ (c_X8_in l D g H.size (Int32.toInt64 x) (Int32.toInt64 (rw (81 + 5 * (10 * sd + pa) + 3))) (Int32.toInt64 (rw (81 + 5 * (10 * sd + pa) + 4)))) (va_cwS 3 hts gX8_gives_X8_in rfl rfl rfl (by decide +kernel) (k_lvl (by omega) (by decide))) (kPS hP hD hK hS hA hE [] rfl (by decide)) rfl rfl hl.1 rfl (lv_room (Nat.le_of_ble_eq_true rfl)) dX8_gives_29 ⟨Nat.le_of_ble_eq_true rfl, Nat.le_of_ble_eq_true rfl⟩) hP hD hS hA [] [0] [0] rfl rfl (by decide) (by decide) rfl (by decide) (fun H locs hP hD hS => ?_)
    refine lv_if_eq (tgt := 39) hx hb dX8_gives_32 (by decide) (fun c_2 => ?_) (fun c_2 => ?_)
    · refine lv_iconst (v := 0) hx hb dX8_gives_39 (by decide) ?_
      have hE2 : (f_X8_gives rw sd pa x) = 0 := by
        exact (if_neg c_1).trans ((if_pos c_2).trans (rfl))
      subst hQ
      exact k_rz hx hb hr hlocks hP hD hS dX8_gives_40 (by rfl) (hE2.symm) (rfl)
    · refine lv_iconst (v := 1) hx hb dX8_gives_35 (by decide) ?_
      refine lv_goto (tgt := 40) hx hb dX8_gives_36 (by decide) ?_
      have hE2 : (f_X8_gives rw sd pa x) = 1 := by
        exact (if_neg c_1).trans ((if_neg c_2).trans (rfl))
      subst hQ
      exact k_rz hx hb hr hlocks hP hD hS dX8_gives_40 (by rfl) (hE2.symm) (rfl)
def f_X8_next (rw : Nat → Int32) (pa : Nat) : Int32 :=
  ((rw (1 + 8 * pa + 2)) - 1)
set_option maxHeartbeats 4000000 in
set_option maxRecDepth 100000 in
theorem c_X8_next (l : Launch) (D : va_G) (g : Nat → Nat) (r0 : Nat) (sz : Nat) (rw : Nat → Int32) (pa : Nat) (hpa : pa < 10) : kMi l D g yX8_next wsX8_next 2 0 0 [.ref r0, .int (nI pa)] [(r0, .inl (g 0, 748, .inl rw))] sz (f_X8_next rw pa) [(r0, .inl (g 0, 748, .inl rw))] := by
  refine k_enter (nm := "next") (own := RX8) (bytes := cX8_next) (maxL := 2) (ret := (some .int)) (Qf := fun A => kQi D [(r0, .inl (g 0, 748, .inl rw))] A (f_X8_next rw pa)) (by decide) rfl rfl rfl (Nat.le_of_ble_eq_true rfl) ?_
  rintro pp ee s mm below meth cc A ls args Q H locs hQ ⟨hx, hb, hr, hml, hown, hts, hlocks, hin⟩ hP hK hD hA hS hE hl
  have hl : lv_has ls 2 [(0, .ref r0), (1, .int (nI pa))] := hl
  refine lv_aload_n hx hb dX8_next_0 rfl (lv_at hl 0 rfl) ?_
  refine lv_iload_n hx hb dX8_next_1 rfl (lv_at hl 1 rfl) ?_
  refine lv_iconst (v := 2) hx hb dX8_next_2 (by decide) ?_
  refine k_ai (wr := [(r0, .inl (g 0, 748, .inl rw))]) (w2 := [(r0, .inl (g 0, 748, .inl rw))]) (va_runS (As := [.int (nI pa), .int 2]) (rest := [.ref r0]) ⟨hx, hb, hml, hown, hts⟩ (c_X8_partAt l D g H.size pa 2) (va_cwS 2 hts gX8_next_X8_partAt rfl rfl rfl (by decide +kernel) (k_lvl (by omega) (by decide))) (kPS hP hD hK hS hA hE [] rfl (by decide)) rfl rfl hl.1 rfl (lv_room (Nat.le_of_ble_eq_true rfl)) dX8_next_3 ⟨Nat.le_of_ble_eq_true rfl, Nat.le_of_ble_eq_true rfl⟩) hP hD hS hA [] [0] [0] rfl rfl (by decide) (by decide) rfl (by decide) (fun H locs hP hD hS => ?_)
  refine va_iald (i := (nI (1 + 8 * pa + 2))) hx hb hK hP 0 0 rfl rfl (vp_in_nI (n := (1 + 8 * pa + 2)) (by omega) (by omega)) dX8_next_6 ?_
  refine k_top (y := (rw (1 + 8 * pa + 2))) (by rw [nI_clamp (by omega)]) ?_
  refine lv_iconst (v := 1) hx hb dX8_next_7 (by decide) ?_
  refine lv_isub hx hb dX8_next_8 ?_
  have hE2 : (f_X8_next rw pa) = ((rw (1 + 8 * pa + 2)) - 1) := by
    exact rfl
  subst hQ
  exact k_ri hx hb hr hlocks hP hD hS dX8_next_9 (hE2.symm) (rfl)
theorem k_jm {j : Nat} (h : j < 2 ^ 31) : nI j - 1 < 0 ↔ j = 0 := by
  constructor
  · intro h1
    cases j with
    | zero => rfl
    | succ i => rw [nI_pred] at h1; exact absurd h1 (nI_pos (by omega))
  · intro h1; subst h1; decide
/-- how long a chain is: what is written of the next part, what was counted -/
def rLen (rw : Nat → Int32) : Nat → Nat → Nat → Nat
  | 0, _, n => n
  | f + 1, j, n => if j = 0 then n else rLen rw f (rw (1 + 8 * (j - 1) + 2)).toNatClampNeg (n + 1)
/-- chains go down -/
def rNx (rw : Nat → Int32) : Prop := ∀ q : Nat, q < 10 → ∃ j : Nat, j ≤ q ∧ rw (1 + 8 * q + 2) = nI j
theorem rNx_at {rw : Nat → Int32} (h : rNx rw) {q : Nat} (hq : q < 10) : rw (1 + 8 * q + 2) = nI (rw (1 + 8 * q + 2)).toNatClampNeg ∧ (rw (1 + 8 * q + 2)).toNatClampNeg ≤ q := by
  obtain ⟨j, hj, e⟩ := h q hq
  rw [e, nI_clamp (by omega)]
  exact ⟨rfl, hj⟩
def f_X8_reckon (rw : Nat → Int32) (pa : Nat) (z : Int32) : Int32 :=
  if (((rw (1 + 8 * pa + 0)) * z) + (rw (1 + 8 * pa + 1))) ≤ 9999 then
    if (-9999) ≤ (((rw (1 + 8 * pa + 0)) * z) + (rw (1 + 8 * pa + 1))) then
      (((rw (1 + 8 * pa + 0)) * z) + (rw (1 + 8 * pa + 1)))
    else
      (-9999)
  else
    9999
set_option maxHeartbeats 4000000 in
set_option maxRecDepth 100000 in
theorem c_X8_reckon (l : Launch) (D : va_G) (g : Nat → Nat) (r0 : Nat) (sz : Nat) (rw : Nat → Int32) (pa : Nat) (z : Int32) (hpa : pa < 10) : kMi l D g yX8_reckon wsX8_reckon 2 0 0 [.ref r0, .int (nI pa), .int z] [(r0, .inl (g 0, 748, .inl rw))] sz (f_X8_reckon rw pa z) [(r0, .inl (g 0, 748, .inl rw))] := by
  refine k_enter (nm := "reckon") (own := RX8) (bytes := cX8_reckon) (maxL := 4) (ret := (some .int)) (Qf := fun A => kQi D [(r0, .inl (g 0, 748, .inl rw))] A (f_X8_reckon rw pa z)) (by decide) rfl rfl rfl (Nat.le_of_ble_eq_true rfl) ?_
  rintro pp ee s mm below meth cc A ls args Q H locs hQ ⟨hx, hb, hr, hml, hown, hts, hlocks, hin⟩ hP hK hD hA hS hE hl
  have hl : lv_has ls 4 [(0, .ref r0), (1, .int (nI pa)), (2, .int z)] := hl
  refine lv_aload_n hx hb dX8_reckon_0 rfl (lv_at hl 0 rfl) ?_
  refine lv_iload_n hx hb dX8_reckon_1 rfl (lv_at hl 1 rfl) ?_
  refine lv_iconst (v := 0) hx hb dX8_reckon_2 (by decide) ?_
  refine k_ai (wr := [(r0, .inl (g 0, 748, .inl rw))]) (w2 := [(r0, .inl (g 0, 748, .inl rw))]) (va_runS (As := [.int (nI pa), .int 0]) (rest := [.ref r0]) ⟨hx, hb, hml, hown, hts⟩ (c_X8_partAt l D g H.size pa 0) (va_cwS 2 hts gX8_reckon_X8_partAt rfl rfl rfl (by decide +kernel) (k_lvl (by omega) (by decide))) (kPS hP hD hK hS hA hE [] rfl (by decide)) rfl rfl hl.1 rfl (lv_room (Nat.le_of_ble_eq_true rfl)) dX8_reckon_3 ⟨Nat.le_of_ble_eq_true rfl, Nat.le_of_ble_eq_true rfl⟩) hP hD hS hA [] [0] [0] rfl rfl (by decide) (by decide) rfl (by decide) (fun H locs hP hD hS => ?_)
  refine va_iald (i := (nI (1 + 8 * pa + 0))) hx hb hK hP 0 0 rfl rfl (vp_in_nI (n := (1 + 8 * pa + 0)) (by omega) (by omega)) dX8_reckon_6 ?_
  refine k_top (y := (rw (1 + 8 * pa + 0))) (by rw [nI_clamp (by omega)]) ?_
  refine lv_iload_n hx hb dX8_reckon_7 rfl (lv_at hl 2 rfl) ?_
  refine lv_imul hx hb dX8_reckon_8 ?_
  refine lv_aload_n hx hb dX8_reckon_9 rfl (lv_at hl 0 rfl) ?_
  refine lv_iload_n hx hb dX8_reckon_10 rfl (lv_at hl 1 rfl) ?_
  refine lv_iconst (v := 1) hx hb dX8_reckon_11 (by decide) ?_
  refine k_ai (wr := [(r0, .inl (g 0, 748, .inl rw))]) (w2 := [(r0, .inl (g 0, 748, .inl rw))]) (va_runS (As := [.int (nI pa), .int 1]) (rest := [.ref r0, .int ((rw (1 + 8 * pa + 0)) * z)]) ⟨hx, hb, hml, hown, hts⟩ (c_X8_partAt l D g H.size pa 1) (va_cwS 2 hts gX8_reckon_X8_partAt rfl rfl rfl (by decide +kernel) (k_lvl (by omega) (by decide))) (kPS hP hD hK hS hA hE [] rfl (by decide)) rfl rfl hl.1 rfl (lv_room (Nat.le_of_ble_eq_true rfl)) dX8_reckon_12 ⟨Nat.le_of_ble_eq_true rfl, Nat.le_of_ble_eq_true rfl⟩) hP hD hS hA [] [0] [0] rfl rfl (by decide) (by decide) rfl (by decide) (fun H locs hP hD hS => ?_)
  refine va_iald (i := (nI (1 + 8 * pa + 1))) hx hb hK hP 0 0 rfl rfl (vp_in_nI (n := (1 + 8 * pa + 1)) (by omega) (by omega)) dX8_reckon_15 ?_
  refine k_top (y := (rw (1 + 8 * pa + 1))) (by rw [nI_clamp (by omega)]) ?_
  refine lv_iadd hx hb dX8_reckon_16 ?_
  refine lv_istore_n (lv' := [(3, .int (((rw (1 + 8 * pa + 0)) * z) + (rw (1 + 8 * pa + 1)))), (0, .ref r0), (1, .int (nI pa)), (2, .int z)]) hx hb dX8_reckon_17 rfl hl (by decide) rfl (fun ls hl => ?_)
  refine lv_iload_n hx hb dX8_reckon_18 rfl (lv_at hl 0 rfl) ?_
  refine lv_sipush (v := 9999) hx hb dX8_reckon_19 (by decide) ?_
  refine lv_icmp_le (tgt := 31) hx hb dX8_reckon_22 (by decide) (fun c_1 => ?_) (fun c_1 => ?_)
  · refine lv_iload_n hx hb dX8_reckon_31 rfl (lv_at hl 0 rfl) ?_
    refine lv_sipush (v := (-9999)) hx hb dX8_reckon_32 (by decide) ?_
    refine lv_icmp_ge (tgt := 44) hx hb dX8_reckon_35 (by decide) (fun c_2 => ?_) (fun c_2 => ?_)
    · refine lv_iload_n hx hb dX8_reckon_44 rfl (lv_at hl 0 rfl) ?_
      have hE2 : (f_X8_reckon rw pa z) = (((rw (1 + 8 * pa + 0)) * z) + (rw (1 + 8 * pa + 1))) := by
        exact (if_pos c_1).trans ((if_pos c_2).trans (rfl))
      subst hQ
      exact k_ri hx hb hr hlocks hP hD hS dX8_reckon_45 (hE2.symm) (rfl)
    · refine lv_sipush (v := (-9999)) hx hb dX8_reckon_38 (by decide) ?_
      refine lv_goto (tgt := 45) hx hb dX8_reckon_41 (by decide) ?_
      have hE2 : (f_X8_reckon rw pa z) = (-9999) := by
        exact (if_pos c_1).trans ((if_neg c_2).trans (rfl))
      subst hQ
      exact k_ri hx hb hr hlocks hP hD hS dX8_reckon_45 (hE2.symm) (rfl)
  · refine lv_sipush (v := 9999) hx hb dX8_reckon_25 (by decide) ?_
    refine lv_goto (tgt := 45) hx hb dX8_reckon_28 (by decide) ?_
    have hE2 : (f_X8_reckon rw pa z) = 9999 := by
      exact (if_neg c_1).trans (rfl)
    subst hQ
    exact k_ri hx hb hr hlocks hP hD hS dX8_reckon_45 (hE2.symm) (rfl)
def f_X8_chainIn (rw : Nat → Int32) (pa : Nat) (q : Int32) (step : Int32) : (Nat → Int32) :=
  if q = (-10000) then
    (upd (upd rw (1 + 8 * pa + 2) 0) (1 + 8 * pa + 3) step)
  else
    (upd (upd rw (1 + 8 * pa + 2) (q + 1)) (1 + 8 * pa + 3) step)
set_option maxHeartbeats 4000000 in
set_option maxRecDepth 100000 in
theorem c_X8_chainIn (l : Launch) (D : va_G) (g : Nat → Nat) (r0 : Nat) (sz : Nat) (rw : Nat → Int32) (pa : Nat) (q : Int32) (step : Int32) (hpa : pa < 10) : kMv l D g yX8_chainIn wsX8_chainIn 2 0 0 [.ref r0, .int (nI pa), .int q, .int step] [(r0, .inl (g 0, 748, .inl rw))] sz [(r0, .inl (g 0, 748, .inl (f_X8_chainIn rw pa q step)))] := by
  refine k_enter (nm := "chainIn") (own := RX8) (bytes := cX8_chainIn) (maxL := 4) (ret := none) (Qf := fun A => kQv D [(r0, .inl (g 0, 748, .inl (f_X8_chainIn rw pa q step)))] A) (by decide) rfl rfl rfl (Nat.le_of_ble_eq_true rfl) ?_
  rintro pp ee s mm below meth cc A ls args Q H locs hQ ⟨hx, hb, hr, hml, hown, hts, hlocks, hin⟩ hP hK hD hA hS hE hl
  have hl : lv_has ls 4 [(0, .ref r0), (1, .int (nI pa)), (2, .int q), (3, .int step)] := hl
  refine lv_aload_n hx hb dX8_chainIn_0 rfl (lv_at hl 0 rfl) ?_
  refine lv_iload_n hx hb dX8_chainIn_1 rfl (lv_at hl 1 rfl) ?_
  refine lv_iconst (v := 2) hx hb dX8_chainIn_2 (by decide) ?_
  refine k_ai (wr := [(r0, .inl (g 0, 748, .inl rw))]) (w2 := [(r0, .inl (g 0, 748, .inl rw))]) (va_runS (As := [.int (nI pa), .int 2]) (rest := [.ref r0]) ⟨hx, hb, hml, hown, hts⟩ (c_X8_partAt l D g H.size pa 2) (va_cwS 2 hts gX8_chainIn_X8_partAt rfl rfl rfl (by decide +kernel) (k_lvl (by omega) (by decide))) (kPS hP hD hK hS hA hE [] rfl (by decide)) rfl rfl hl.1 rfl (lv_room (Nat.le_of_ble_eq_true rfl)) dX8_chainIn_3 ⟨Nat.le_of_ble_eq_true rfl, Nat.le_of_ble_eq_true rfl⟩) hP hD hS hA [] [0] [0] rfl rfl (by decide) (by decide) rfl (by decide) (fun H locs hP hD hS => ?_)
  refine lv_iload_n hx hb dX8_chainIn_6 rfl (lv_at hl 2 rfl) ?_
  refine lv_sipush (v := (-10000)) hx hb dX8_chainIn_7 (by decide) ?_
  refine lv_icmp_ne (tgt := 17) hx hb dX8_chainIn_10 (by decide) (fun c_1 => ?_) (fun c_1 => ?_)
  · refine lv_iload_n hx hb dX8_chainIn_17 rfl (lv_at hl 2 rfl) ?_
    refine lv_iconst (v := 1) hx hb dX8_chainIn_18 (by decide) ?_
    refine lv_iadd hx hb dX8_chainIn_19 ?_
    refine va_iast (i := (nI (1 + 8 * pa + 2))) (x := (q + 1)) hx hb hK hP hD hS 0 0 rfl rfl (vp_in_nI (n := (1 + 8 * pa + 2)) (by omega) (by omega)) dX8_chainIn_20 (fun H locs hP hD hS => ?_)
    rw [nI_clamp (n := (1 + 8 * pa + 2)) (by omega)] at hP hD
    have hP : va_P D vwCl [(r0, .inl (g 0, 748, .inl (upd rw (1 + 8 * pa + 2) (q + 1))))] H := hP
    have hD : va_D A [(r0, .inl (g 0, 748, .inl (upd rw (1 + 8 * pa + 2) (q + 1))))] := hD
    refine lv_aload_n hx hb dX8_chainIn_21 rfl (lv_at hl 0 rfl) ?_
    refine lv_iload_n hx hb dX8_chainIn_22 rfl (lv_at hl 1 rfl) ?_
    refine lv_iconst (v := 3) hx hb dX8_chainIn_23 (by decide) ?_
    refine k_ai (wr := [(r0, .inl (g 0, 748, .inl (upd rw (1 + 8 * pa + 2) (q + 1))))]) (w2 := [(r0, .inl (g 0, 748, .inl (upd rw (1 + 8 * pa + 2) (q + 1))))]) (va_runS (As := [.int (nI pa), .int 3]) (rest := [.ref r0]) ⟨hx, hb, hml, hown, hts⟩ (c_X8_partAt l D g H.size pa 3) (va_cwS 2 hts gX8_chainIn_X8_partAt rfl rfl rfl (by decide +kernel) (k_lvl (by omega) (by decide))) (kPS hP hD hK hS hA hE [] rfl (by decide)) rfl rfl hl.1 rfl (lv_room (Nat.le_of_ble_eq_true rfl)) dX8_chainIn_24 ⟨Nat.le_of_ble_eq_true rfl, Nat.le_of_ble_eq_true rfl⟩) hP hD hS hA [] [0] [0] rfl rfl (by decide) (by decide) rfl (by decide) (fun H locs hP hD hS => ?_)
    refine lv_iload_n hx hb dX8_chainIn_27 rfl (lv_at hl 3 rfl) ?_
    refine va_iast (i := (nI (1 + 8 * pa + 3))) (x := step) hx hb hK hP hD hS 0 0 rfl rfl (vp_in_nI (n := (1 + 8 * pa + 3)) (by omega) (by omega)) dX8_chainIn_28 (fun H locs hP hD hS => ?_)
    rw [nI_clamp (n := (1 + 8 * pa + 3)) (by omega)] at hP hD
    have hP : va_P D vwCl [(r0, .inl (g 0, 748, .inl (upd (upd rw (1 + 8 * pa + 2) (q + 1)) (1 + 8 * pa + 3) step)))] H := hP
    have hD : va_D A [(r0, .inl (g 0, 748, .inl (upd (upd rw (1 + 8 * pa + 2) (q + 1)) (1 + 8 * pa + 3) step)))] := hD
    have hE2 : (f_X8_chainIn rw pa q step) = (upd (upd rw (1 + 8 * pa + 2) (q + 1)) (1 + 8 * pa + 3) step) := by
      exact (if_neg c_1).trans (rfl)
    subst hQ
    exact k_rv hx hb hr hlocks hP hD hS dX8_chainIn_29 (by rw [hE2])
  · refine lv_iconst (v := 0) hx hb dX8_chainIn_13 (by decide) ?_
    refine lv_goto (tgt := 20) hx hb dX8_chainIn_14 (by decide) ?_
    refine va_iast (i := (nI (1 + 8 * pa + 2))) (x := 0) hx hb hK hP hD hS 0 0 rfl rfl (vp_in_nI (n := (1 + 8 * pa + 2)) (by omega) (by omega)) dX8_chainIn_20 (fun H locs hP hD hS => ?_)
    rw [nI_clamp (n := (1 + 8 * pa + 2)) (by omega)] at hP hD
    have hP : va_P D vwCl [(r0, .inl (g 0, 748, .inl (upd rw (1 + 8 * pa + 2) 0)))] H := hP
    have hD : va_D A [(r0, .inl (g 0, 748, .inl (upd rw (1 + 8 * pa + 2) 0)))] := hD
    refine lv_aload_n hx hb dX8_chainIn_21 rfl (lv_at hl 0 rfl) ?_
    refine lv_iload_n hx hb dX8_chainIn_22 rfl (lv_at hl 1 rfl) ?_
    refine lv_iconst (v := 3) hx hb dX8_chainIn_23 (by decide) ?_
    refine k_ai (wr := [(r0, .inl (g 0, 748, .inl (upd rw (1 + 8 * pa + 2) 0)))]) (w2 := [(r0, .inl (g 0, 748, .inl (upd rw (1 + 8 * pa + 2) 0)))]) (va_runS (As := [.int (nI pa), .int 3]) (rest := [.ref r0]) ⟨hx, hb, hml, hown, hts⟩ (c_X8_partAt l D g H.size pa 3) (va_cwS 2 hts gX8_chainIn_X8_partAt rfl rfl rfl (by decide +kernel) (k_lvl (by omega) (by decide))) (kPS hP hD hK hS hA hE [] rfl (by decide)) rfl rfl hl.1 rfl (lv_room (Nat.le_of_ble_eq_true rfl)) dX8_chainIn_24 ⟨Nat.le_of_ble_eq_true rfl, Nat.le_of_ble_eq_true rfl⟩) hP hD hS hA [] [0] [0] rfl rfl (by decide) (by decide) rfl (by decide) (fun H locs hP hD hS => ?_)
    refine lv_iload_n hx hb dX8_chainIn_27 rfl (lv_at hl 3 rfl) ?_
    refine va_iast (i := (nI (1 + 8 * pa + 3))) (x := step) hx hb hK hP hD hS 0 0 rfl rfl (vp_in_nI (n := (1 + 8 * pa + 3)) (by omega) (by omega)) dX8_chainIn_28 (fun H locs hP hD hS => ?_)
    rw [nI_clamp (n := (1 + 8 * pa + 3)) (by omega)] at hP hD
    have hP : va_P D vwCl [(r0, .inl (g 0, 748, .inl (upd (upd rw (1 + 8 * pa + 2) 0) (1 + 8 * pa + 3) step)))] H := hP
    have hD : va_D A [(r0, .inl (g 0, 748, .inl (upd (upd rw (1 + 8 * pa + 2) 0) (1 + 8 * pa + 3) step)))] := hD
    have hE2 : (f_X8_chainIn rw pa q step) = (upd (upd rw (1 + 8 * pa + 2) 0) (1 + 8 * pa + 3) step) := by
      exact (if_pos c_1).trans (rfl)
    subst hQ
    exact k_rv hx hb hr hlocks hP hD hS dX8_chainIn_29 (by rw [hE2])
def f_X8_promise (rw : Nat → Int32) (sd : Nat) (pa : Nat) (al : Int32) (ah : Int32) (gl : Int32) (gh : Int32) : (Nat → Int32) :=
  (upd (upd (upd (upd (upd rw (81 + 5 * (10 * sd + pa) + 0) 1) (81 + 5 * (10 * sd + pa) + 1) al) (81 + 5 * (10 * sd + pa) + 2) ah) (81 + 5 * (10 * sd + pa) + 3) gl) (81 + 5 * (10 * sd + pa) + 4) gh)
set_option maxHeartbeats 4000000 in
set_option maxRecDepth 100000 in
theorem c_X8_promise (l : Launch) (D : va_G) (g : Nat → Nat) (r0 : Nat) (sz : Nat) (rw : Nat → Int32) (sd : Nat) (pa : Nat) (al : Int32) (ah : Int32) (gl : Int32) (gh : Int32) (hsd : sd < 12) (hpa : pa < 10) : kMv l D g yX8_promise wsX8_promise 2 0 0 [.ref r0, .int (nI sd), .int (nI pa), .int al, .int ah, .int gl, .int gh] [(r0, .inl (g 0, 748, .inl rw))] sz [(r0, .inl (g 0, 748, .inl (f_X8_promise rw sd pa al ah gl gh)))] := by
  refine k_enter (nm := "promise") (own := RX8) (bytes := cX8_promise) (maxL := 7) (ret := none) (Qf := fun A => kQv D [(r0, .inl (g 0, 748, .inl (f_X8_promise rw sd pa al ah gl gh)))] A) (by decide) rfl rfl rfl (Nat.le_of_ble_eq_true rfl) ?_
  rintro pp ee s mm below meth cc A ls args Q H locs hQ ⟨hx, hb, hr, hml, hown, hts, hlocks, hin⟩ hP hK hD hA hS hE hl
  have hl : lv_has ls 7 [(0, .ref r0), (1, .int (nI sd)), (2, .int (nI pa)), (3, .int al), (4, .int ah), (5, .int gl), (6, .int gh)] := hl
  refine lv_aload_n hx hb dX8_promise_0 rfl (lv_at hl 0 rfl) ?_
  refine lv_iload_n hx hb dX8_promise_1 rfl (lv_at hl 1 rfl) ?_
  refine lv_iload_n hx hb dX8_promise_2 rfl (lv_at hl 2 rfl) ?_
  refine lv_iconst (v := 0) hx hb dX8_promise_3 (by decide) ?_
  refine k_ai (wr := [(r0, .inl (g 0, 748, .inl rw))]) (w2 := [(r0, .inl (g 0, 748, .inl rw))]) (va_runS (As := [.int (nI sd), .int (nI pa), .int 0]) (rest := [.ref r0]) ⟨hx, hb, hml, hown, hts⟩ (c_X8_contractAt l D g H.size sd pa 0) (va_cwS 3 hts gX8_promise_X8_contractAt rfl rfl rfl (by decide +kernel) (k_lvl (by omega) (by decide))) (kPS hP hD hK hS hA hE [] rfl (by decide)) rfl rfl hl.1 rfl (lv_room (Nat.le_of_ble_eq_true rfl)) dX8_promise_4 ⟨Nat.le_of_ble_eq_true rfl, Nat.le_of_ble_eq_true rfl⟩) hP hD hS hA [] [0] [0] rfl rfl (by decide) (by decide) rfl (by decide) (fun H locs hP hD hS => ?_)
  refine lv_iconst (v := 1) hx hb dX8_promise_7 (by decide) ?_
  refine va_iast (i := (nI (81 + 5 * (10 * sd + pa) + 0))) (x := 1) hx hb hK hP hD hS 0 0 rfl rfl (vp_in_nI (n := (81 + 5 * (10 * sd + pa) + 0)) (by omega) (by omega)) dX8_promise_8 (fun H locs hP hD hS => ?_)
  rw [nI_clamp (n := (81 + 5 * (10 * sd + pa) + 0)) (by omega)] at hP hD
  have hP : va_P D vwCl [(r0, .inl (g 0, 748, .inl (upd rw (81 + 5 * (10 * sd + pa) + 0) 1)))] H := hP
  have hD : va_D A [(r0, .inl (g 0, 748, .inl (upd rw (81 + 5 * (10 * sd + pa) + 0) 1)))] := hD
  refine lv_aload_n hx hb dX8_promise_9 rfl (lv_at hl 0 rfl) ?_
  refine lv_iload_n hx hb dX8_promise_10 rfl (lv_at hl 1 rfl) ?_
  refine lv_iload_n hx hb dX8_promise_11 rfl (lv_at hl 2 rfl) ?_
  refine lv_iconst (v := 1) hx hb dX8_promise_12 (by decide) ?_
  refine k_ai (wr := [(r0, .inl (g 0, 748, .inl (upd rw (81 + 5 * (10 * sd + pa) + 0) 1)))]) (w2 := [(r0, .inl (g 0, 748, .inl (upd rw (81 + 5 * (10 * sd + pa) + 0) 1)))]) (va_runS (As := [.int (nI sd), .int (nI pa), .int 1]) (rest := [.ref r0]) ⟨hx, hb, hml, hown, hts⟩ (c_X8_contractAt l D g H.size sd pa 1) (va_cwS 3 hts gX8_promise_X8_contractAt rfl rfl rfl (by decide +kernel) (k_lvl (by omega) (by decide))) (kPS hP hD hK hS hA hE [] rfl (by decide)) rfl rfl hl.1 rfl (lv_room (Nat.le_of_ble_eq_true rfl)) dX8_promise_13 ⟨Nat.le_of_ble_eq_true rfl, Nat.le_of_ble_eq_true rfl⟩) hP hD hS hA [] [0] [0] rfl rfl (by decide) (by decide) rfl (by decide) (fun H locs hP hD hS => ?_)
  refine lv_iload_n hx hb dX8_promise_16 rfl (lv_at hl 3 rfl) ?_
  refine va_iast (i := (nI (81 + 5 * (10 * sd + pa) + 1))) (x := al) hx hb hK hP hD hS 0 0 rfl rfl (vp_in_nI (n := (81 + 5 * (10 * sd + pa) + 1)) (by omega) (by omega)) dX8_promise_17 (fun H locs hP hD hS => ?_)
  rw [nI_clamp (n := (81 + 5 * (10 * sd + pa) + 1)) (by omega)] at hP hD
  have hP : va_P D vwCl [(r0, .inl (g 0, 748, .inl (upd (upd rw (81 + 5 * (10 * sd + pa) + 0) 1) (81 + 5 * (10 * sd + pa) + 1) al)))] H := hP
  have hD : va_D A [(r0, .inl (g 0, 748, .inl (upd (upd rw (81 + 5 * (10 * sd + pa) + 0) 1) (81 + 5 * (10 * sd + pa) + 1) al)))] := hD
  refine lv_aload_n hx hb dX8_promise_18 rfl (lv_at hl 0 rfl) ?_
  refine lv_iload_n hx hb dX8_promise_19 rfl (lv_at hl 1 rfl) ?_
  refine lv_iload_n hx hb dX8_promise_20 rfl (lv_at hl 2 rfl) ?_
  refine lv_iconst (v := 2) hx hb dX8_promise_21 (by decide) ?_
  refine k_ai (wr := [(r0, .inl (g 0, 748, .inl (upd (upd rw (81 + 5 * (10 * sd + pa) + 0) 1) (81 + 5 * (10 * sd + pa) + 1) al)))]) (w2 := [(r0, .inl (g 0, 748, .inl (upd (upd rw (81 + 5 * (10 * sd + pa) + 0) 1) (81 + 5 * (10 * sd + pa) + 1) al)))]) (va_runS (As := [.int (nI sd), .int (nI pa), .int 2]) (rest := [.ref r0]) ⟨hx, hb, hml, hown, hts⟩ (c_X8_contractAt l D g H.size sd pa 2) (va_cwS 3 hts gX8_promise_X8_contractAt rfl rfl rfl (by decide +kernel) (k_lvl (by omega) (by decide))) (kPS hP hD hK hS hA hE [] rfl (by decide)) rfl rfl hl.1 rfl (lv_room (Nat.le_of_ble_eq_true rfl)) dX8_promise_22 ⟨Nat.le_of_ble_eq_true rfl, Nat.le_of_ble_eq_true rfl⟩) hP hD hS hA [] [0] [0] rfl rfl (by decide) (by decide) rfl (by decide) (fun H locs hP hD hS => ?_)
  refine lv_iload hx hb dX8_promise_25 (lv_at hl 4 rfl) ?_
  refine va_iast (i := (nI (81 + 5 * (10 * sd + pa) + 2))) (x := ah) hx hb hK hP hD hS 0 0 rfl rfl (vp_in_nI (n := (81 + 5 * (10 * sd + pa) + 2)) (by omega) (by omega)) dX8_promise_27 (fun H locs hP hD hS => ?_)
  rw [nI_clamp (n := (81 + 5 * (10 * sd + pa) + 2)) (by omega)] at hP hD
  have hP : va_P D vwCl [(r0, .inl (g 0, 748, .inl (upd (upd (upd rw (81 + 5 * (10 * sd + pa) + 0) 1) (81 + 5 * (10 * sd + pa) + 1) al) (81 + 5 * (10 * sd + pa) + 2) ah)))] H := hP
  have hD : va_D A [(r0, .inl (g 0, 748, .inl (upd (upd (upd rw (81 + 5 * (10 * sd + pa) + 0) 1) (81 + 5 * (10 * sd + pa) + 1) al) (81 + 5 * (10 * sd + pa) + 2) ah)))] := hD
  refine lv_aload_n hx hb dX8_promise_28 rfl (lv_at hl 0 rfl) ?_
  refine lv_iload_n hx hb dX8_promise_29 rfl (lv_at hl 1 rfl) ?_
  refine lv_iload_n hx hb dX8_promise_30 rfl (lv_at hl 2 rfl) ?_
  refine lv_iconst (v := 3) hx hb dX8_promise_31 (by decide) ?_
  refine k_ai (wr := [(r0, .inl (g 0, 748, .inl (upd (upd (upd rw (81 + 5 * (10 * sd + pa) + 0) 1) (81 + 5 * (10 * sd + pa) + 1) al) (81 + 5 * (10 * sd + pa) + 2) ah)))]) (w2 := [(r0, .inl (g 0, 748, .inl (upd (upd (upd rw (81 + 5 * (10 * sd + pa) + 0) 1) (81 + 5 * (10 * sd + pa) + 1) al) (81 + 5 * (10 * sd + pa) + 2) ah)))]) (va_runS (As := [.int (nI sd), .int (nI pa), .int 3]) (rest := [.ref r0]) ⟨hx, hb, hml, hown, hts⟩ (c_X8_contractAt l D g H.size sd pa 3) (va_cwS 3 hts gX8_promise_X8_contractAt rfl rfl rfl (by decide +kernel) (k_lvl (by omega) (by decide))) (kPS hP hD hK hS hA hE [] rfl (by decide)) rfl rfl hl.1 rfl (lv_room (Nat.le_of_ble_eq_true rfl)) dX8_promise_32 ⟨Nat.le_of_ble_eq_true rfl, Nat.le_of_ble_eq_true rfl⟩) hP hD hS hA [] [0] [0] rfl rfl (by decide) (by decide) rfl (by decide) (fun H locs hP hD hS => ?_)
  refine lv_iload hx hb dX8_promise_35 (lv_at hl 5 rfl) ?_
  refine va_iast (i := (nI (81 + 5 * (10 * sd + pa) + 3))) (x := gl) hx hb hK hP hD hS 0 0 rfl rfl (vp_in_nI (n := (81 + 5 * (10 * sd + pa) + 3)) (by omega) (by omega)) dX8_promise_37 (fun H locs hP hD hS => ?_)
  rw [nI_clamp (n := (81 + 5 * (10 * sd + pa) + 3)) (by omega)] at hP hD
  have hP : va_P D vwCl [(r0, .inl (g 0, 748, .inl (upd (upd (upd (upd rw (81 + 5 * (10 * sd + pa) + 0) 1) (81 + 5 * (10 * sd + pa) + 1) al) (81 + 5 * (10 * sd + pa) + 2) ah) (81 + 5 * (10 * sd + pa) + 3) gl)))] H := hP
  have hD : va_D A [(r0, .inl (g 0, 748, .inl (upd (upd (upd (upd rw (81 + 5 * (10 * sd + pa) + 0) 1) (81 + 5 * (10 * sd + pa) + 1) al) (81 + 5 * (10 * sd + pa) + 2) ah) (81 + 5 * (10 * sd + pa) + 3) gl)))] := hD
  refine lv_aload_n hx hb dX8_promise_38 rfl (lv_at hl 0 rfl) ?_
  refine lv_iload_n hx hb dX8_promise_39 rfl (lv_at hl 1 rfl) ?_
  refine lv_iload_n hx hb dX8_promise_40 rfl (lv_at hl 2 rfl) ?_
  refine lv_iconst (v := 4) hx hb dX8_promise_41 (by decide) ?_
  refine k_ai (wr := [(r0, .inl (g 0, 748, .inl (upd (upd (upd (upd rw (81 + 5 * (10 * sd + pa) + 0) 1) (81 + 5 * (10 * sd + pa) + 1) al) (81 + 5 * (10 * sd + pa) + 2) ah) (81 + 5 * (10 * sd + pa) + 3) gl)))]) (w2 := [(r0, .inl (g 0, 748, .inl (upd (upd (upd (upd rw (81 + 5 * (10 * sd + pa) + 0) 1) (81 + 5 * (10 * sd + pa) + 1) al) (81 + 5 * (10 * sd + pa) + 2) ah) (81 + 5 * (10 * sd + pa) + 3) gl)))]) (va_runS (As := [.int (nI sd), .int (nI pa), .int 4]) (rest := [.ref r0]) ⟨hx, hb, hml, hown, hts⟩ (c_X8_contractAt l D g H.size sd pa 4) (va_cwS 3 hts gX8_promise_X8_contractAt rfl rfl rfl (by decide +kernel) (k_lvl (by omega) (by decide))) (kPS hP hD hK hS hA hE [] rfl (by decide)) rfl rfl hl.1 rfl (lv_room (Nat.le_of_ble_eq_true rfl)) dX8_promise_42 ⟨Nat.le_of_ble_eq_true rfl, Nat.le_of_ble_eq_true rfl⟩) hP hD hS hA [] [0] [0] rfl rfl (by decide) (by decide) rfl (by decide) (fun H locs hP hD hS => ?_)
  refine lv_iload hx hb dX8_promise_45 (lv_at hl 6 rfl) ?_
  refine va_iast (i := (nI (81 + 5 * (10 * sd + pa) + 4))) (x := gh) hx hb hK hP hD hS 0 0 rfl rfl (vp_in_nI (n := (81 + 5 * (10 * sd + pa) + 4)) (by omega) (by omega)) dX8_promise_47 (fun H locs hP hD hS => ?_)
  rw [nI_clamp (n := (81 + 5 * (10 * sd + pa) + 4)) (by omega)] at hP hD
  have hP : va_P D vwCl [(r0, .inl (g 0, 748, .inl (upd (upd (upd (upd (upd rw (81 + 5 * (10 * sd + pa) + 0) 1) (81 + 5 * (10 * sd + pa) + 1) al) (81 + 5 * (10 * sd + pa) + 2) ah) (81 + 5 * (10 * sd + pa) + 3) gl) (81 + 5 * (10 * sd + pa) + 4) gh)))] H := hP
  have hD : va_D A [(r0, .inl (g 0, 748, .inl (upd (upd (upd (upd (upd rw (81 + 5 * (10 * sd + pa) + 0) 1) (81 + 5 * (10 * sd + pa) + 1) al) (81 + 5 * (10 * sd + pa) + 2) ah) (81 + 5 * (10 * sd + pa) + 3) gl) (81 + 5 * (10 * sd + pa) + 4) gh)))] := hD
  have hE2 : (f_X8_promise rw sd pa al ah gl gh) = (upd (upd (upd (upd (upd rw (81 + 5 * (10 * sd + pa) + 0) 1) (81 + 5 * (10 * sd + pa) + 1) al) (81 + 5 * (10 * sd + pa) + 2) ah) (81 + 5 * (10 * sd + pa) + 3) gl) (81 + 5 * (10 * sd + pa) + 4) gh) := by
    exact rfl
  subst hQ
  exact k_rv hx hb hr hlocks hP hD hS dX8_promise_48 (by rw [hE2])
/-- the blames move up by one -/
def shK (rw : Nat → Int32) (k : Nat) : Nat → Int32 := fun i => if 688 + k < i ∧ i < 748 then rw (i - 6) else rw i
theorem shK_step {rw : Nat → Int32} {k : Nat} (h : 5 < k) (h2 : k ≤ 59) : upd (shK rw k) (688 + k) (shK rw k (688 + k - 6)) = shK rw (k - 1) := by
  funext i
  unfold upd shK
  by_cases h1 : i = 688 + k
  · subst h1
    rw [if_pos rfl, if_neg (fun h => by omega), if_pos ⟨by omega, by omega⟩]
  · rw [if_neg h1]
    by_cases h3 : 688 + k < i ∧ i < 748
    · rw [if_pos h3, if_pos ⟨by omega, h3.2⟩]
    · rw [if_neg h3, if_neg (fun h => by omega)]
theorem shK_59 {rw : Nat → Int32} : shK rw 59 = rw := by
  funext i
  unfold shK
  exact if_neg (fun h => by omega)
