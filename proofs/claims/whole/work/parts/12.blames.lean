-- MODULE: blames (X0)
theorem qX0_forgetAll_0 : Cond.fieldLink RX0 15 "BlameChains$Blames" "kept" "I" ∈ wsX0_forgetAll := (List.mem_cons_of_mem _ (List.mem_append_left _ (List.mem_of_getElem? (i := 0) rfl)))
set_option maxHeartbeats 4000000 in
set_option maxRecDepth 100000 in
theorem c_X0_forgetAll (l : Launch) (D : va_G) (g : Nat → Nat) (b0 b1 : Nat) (sz : Nat) (kp : Int32) (blm : Nat → Int32) : kMv l D g yX0_forgetAll wsX0_forgetAll 1 0 0 [.ref b0] [(b0, .inr (0, [.ref b1, .int kp])), (b1, .inl (g 0, 60, .inl blm))] sz [(b0, .inr (0, [.ref b1, .int 0])), (b1, .inl (g 0, 60, .inl blm))] := by
  refine k_enter (nm := "forgetAll") (own := RX0) (bytes := cX0_forgetAll) (maxL := 1) (ret := none) (Qf := fun A => kQv D [(b0, .inr (0, [.ref b1, .int 0])), (b1, .inl (g 0, 60, .inl blm))] A) (by decide) rfl rfl rfl (Nat.le_of_ble_eq_true rfl) ?_
  rintro pp ee s mm below meth cc A ls args Q H locs hQ ⟨hx, hb, hr, hml, hown, hts, hlocks, hin⟩ hP hK hD hA hS hE hl
  have hl : lv_has ls 1 [(0, .ref b0)] := hl
  refine lv_aload_n hx hb dX0_forgetAll_0 rfl (lv_at hl 0 rfl) ?_
  refine lv_iconst (v := 0) hx hb dX0_forgetAll_1 (by decide) ?_
  refine va_put (D := D) (ci := 0) (v := .int 0) (ty := .int) (C := RX0) (T := TX0) (N := 2) hx hb hts (fun w h => (List.mem_cons_of_mem _ (List.mem_append_right _ h))) tyX0 tyX0_ok nmX0 hown hK hP hD hS 0 rfl rfl 1 (by decide) (hts _ qX0_forgetAll_0) (fun _ h9 => h9) rfl (by decide +kernel) rfl rfl (Nat.le_of_ble_eq_true rfl) dX0_forgetAll_2 (fun H locs hP hD hS => ?_)
  have hP : va_P D vwCl [(b0, .inr (0, [.ref b1, .int 0])), (b1, .inl (g 0, 60, .inl blm))] H := hP
  have hD : va_D A [(b0, .inr (0, [.ref b1, .int 0])), (b1, .inl (g 0, 60, .inl blm))] := hD
  subst hQ
  exact k_rv hx hb hr hlocks hP hD hS dX0_forgetAll_5 (rfl)
theorem qX0_copyFrom_0 : Cond.fieldLink RX0 11 "BlameChains$Blames" "numbers" "[I" ∈ wsX0_copyFrom := (List.mem_cons_of_mem _ (List.mem_append_left _ (List.mem_of_getElem? (i := 0) rfl)))
theorem qX0_copyFrom_1 : Cond.methodLink RX0 19 arraycopyName ∈ wsX0_copyFrom := (List.mem_cons_of_mem _ (List.mem_append_left _ (List.mem_of_getElem? (i := 1) rfl)))
theorem qX0_copyFrom_2 : Cond.native arraycopyName ∈ wsX0_copyFrom := (List.mem_cons_of_mem _ (List.mem_append_left _ (List.mem_of_getElem? (i := 2) rfl)))
theorem qX0_copyFrom_3 : Cond.static arraycopyName ∈ wsX0_copyFrom := (List.mem_cons_of_mem _ (List.mem_append_left _ (List.mem_of_getElem? (i := 3) rfl)))
theorem qX0_copyFrom_4 : Cond.initialized "java/lang/System" ∈ wsX0_copyFrom := (List.mem_cons_of_mem _ (List.mem_append_left _ (List.mem_of_getElem? (i := 4) rfl)))
theorem qX0_copyFrom_5 : Cond.fieldLink RX0 15 "BlameChains$Blames" "kept" "I" ∈ wsX0_copyFrom := (List.mem_cons_of_mem _ (List.mem_append_left _ (List.mem_of_getElem? (i := 5) rfl)))
set_option maxHeartbeats 4000000 in
set_option maxRecDepth 100000 in
theorem c_X0_copyFrom (l : Launch) (D : va_G) (g : Nat → Nat) (b0 b0x b1 b1x : Nat) (sz : Nat) (kp : Int32) (blm : Nat → Int32) (kpx : Int32) (blmx : Nat → Int32) : kMv l D g yX0_copyFrom wsX0_copyFrom 1 0 0 [.ref b0, .ref b0x] [(b0, .inr (0, [.ref b1, .int kp])), (b1, .inl (g 0, 60, .inl blm)), (b0x, .inr (0, [.ref b1x, .int kpx])), (b1x, .inl (g 0, 60, .inl blmx))] sz [(b0, .inr (0, [.ref b1, .int kpx])), (b1, .inl (g 0, 60, .inl blmx)), (b0x, .inr (0, [.ref b1x, .int kpx])), (b1x, .inl (g 0, 60, .inl blmx))] := by
  refine k_enter (nm := "copyFrom") (own := RX0) (bytes := cX0_copyFrom) (maxL := 2) (ret := none) (Qf := fun A => kQv D [(b0, .inr (0, [.ref b1, .int kpx])), (b1, .inl (g 0, 60, .inl blmx)), (b0x, .inr (0, [.ref b1x, .int kpx])), (b1x, .inl (g 0, 60, .inl blmx))] A) (by decide) rfl rfl rfl (Nat.le_of_ble_eq_true rfl) ?_
  rintro pp ee s mm below meth cc A ls args Q H locs hQ ⟨hx, hb, hr, hml, hown, hts, hlocks, hin⟩ hP hK hD hA hS hE hl
  have hl : lv_has ls 2 [(0, .ref b0), (1, .ref b0x)] := hl
  refine lv_aload_n hx hb dX0_copyFrom_0 rfl (lv_at hl 1 rfl) ?_
  refine va_get (D := D) (ci := 0) (v := .ref b1x) (C := RX0) (T := TX0) (N := 2) hx hb hts (fun w h => (List.mem_cons_of_mem _ (List.mem_append_right _ h))) hown hK hP 2 rfl rfl 0 (by decide) (hts _ qX0_copyFrom_0) (fun _ h9 => h9) rfl dX0_copyFrom_1 ?_
  refine lv_iconst (v := 0) hx hb dX0_copyFrom_4 (by decide) ?_
  refine lv_aload_n hx hb dX0_copyFrom_5 rfl (lv_at hl 0 rfl) ?_
  refine va_get (D := D) (ci := 0) (v := .ref b1) (C := RX0) (T := TX0) (N := 2) hx hb hts (fun w h => (List.mem_cons_of_mem _ (List.mem_append_right _ h))) hown hK hP 0 rfl rfl 0 (by decide) (hts _ qX0_copyFrom_0) (fun _ h9 => h9) rfl dX0_copyFrom_6 ?_
  refine lv_iconst (v := 0) hx hb dX0_copyFrom_9 (by decide) ?_
  refine lv_aload_n hx hb dX0_copyFrom_10 rfl (lv_at hl 0 rfl) ?_
  refine va_get (D := D) (ci := 0) (v := .ref b1) (C := RX0) (T := TX0) (N := 2) hx hb hts (fun w h => (List.mem_cons_of_mem _ (List.mem_append_right _ h))) hown hK hP 0 rfl rfl 0 (by decide) (hts _ qX0_copyFrom_0) (fun _ h9 => h9) rfl dX0_copyFrom_11 ?_
  refine va_alen (v := 60) hx hb hK hP 1 0 rfl rfl rfl dX0_copyFrom_14 ?_
  refine va_copyi hx hb (hml.trans hl.1.symm) hown (hts _ qX0_copyFrom_1) (hts _ qX0_copyFrom_2) (hts _ qX0_copyFrom_3) (hts _ qX0_copyFrom_4) hK hP hD hS 3 1 0 0 rfl rfl rfl rfl rfl (sp := 0) (dp := 0) (n := 60) (by decide) (by decide) (by decide) (by decide) (by decide) (fun _ _ => rfl) (Nat.le_of_ble_eq_true rfl) (Nat.le_of_ble_eq_true rfl) dX0_copyFrom_15 (fun H locs hP hD hS => ?_)
  have hP : va_P D vwCl [(b0, .inr (0, [.ref b1, .int kp])), (b1, .inl (g 0, 60, .inl (va_cpy blmx blm 0 0 60))), (b0x, .inr (0, [.ref b1x, .int kpx])), (b1x, .inl (g 0, 60, .inl blmx))] H := hP
  have hD : va_D A [(b0, .inr (0, [.ref b1, .int kp])), (b1, .inl (g 0, 60, .inl (va_cpy blmx blm 0 0 60))), (b0x, .inr (0, [.ref b1x, .int kpx])), (b1x, .inl (g 0, 60, .inl blmx))] := hD
  obtain ⟨hP, hD⟩ := k_full (q0 := 1) hP hD rfl
  have hP : va_P D vwCl [(b0, .inr (0, [.ref b1, .int kp])), (b1, .inl (g 0, 60, .inl blmx)), (b0x, .inr (0, [.ref b1x, .int kpx])), (b1x, .inl (g 0, 60, .inl blmx))] H := hP
  have hD : va_D A [(b0, .inr (0, [.ref b1, .int kp])), (b1, .inl (g 0, 60, .inl blmx)), (b0x, .inr (0, [.ref b1x, .int kpx])), (b1x, .inl (g 0, 60, .inl blmx))] := hD
  refine lv_aload_n hx hb dX0_copyFrom_18 rfl (lv_at hl 0 rfl) ?_
  refine lv_aload_n hx hb dX0_copyFrom_19 rfl (lv_at hl 1 rfl) ?_
  refine va_get (D := D) (ci := 0) (v := .int kpx) (C := RX0) (T := TX0) (N := 2) hx hb hts (fun w h => (List.mem_cons_of_mem _ (List.mem_append_right _ h))) hown hK hP 2 rfl rfl 1 (by decide) (hts _ qX0_copyFrom_5) (fun _ h9 => h9) rfl dX0_copyFrom_20 ?_
  refine va_put (D := D) (ci := 0) (v := .int kpx) (ty := .int) (C := RX0) (T := TX0) (N := 2) hx hb hts (fun w h => (List.mem_cons_of_mem _ (List.mem_append_right _ h))) tyX0 tyX0_ok nmX0 hown hK hP hD hS 0 rfl rfl 1 (by decide) (hts _ qX0_copyFrom_5) (fun _ h9 => h9) rfl (by decide +kernel) rfl rfl (Nat.le_of_ble_eq_true rfl) dX0_copyFrom_23 (fun H locs hP hD hS => ?_)
  have hP : va_P D vwCl [(b0, .inr (0, [.ref b1, .int kpx])), (b1, .inl (g 0, 60, .inl blmx)), (b0x, .inr (0, [.ref b1x, .int kpx])), (b1x, .inl (g 0, 60, .inl blmx))] H := hP
  have hD : va_D A [(b0, .inr (0, [.ref b1, .int kpx])), (b1, .inl (g 0, 60, .inl blmx)), (b0x, .inr (0, [.ref b1x, .int kpx])), (b1x, .inl (g 0, 60, .inl blmx))] := hD
  subst hQ
  exact k_rv hx hb hr hlocks hP hD hS dX0_copyFrom_26 (rfl)
def f_X0_arise (kp : Int32) (blm : Nat → Int32) (kind : Int32) (caller : Int32) (pa : Int32) (number : Int32) : Int32 × (Nat → Int32) :=
  ((k_min (kp + 1) 10), (upd (upd (upd (upd (upd (upd (va_cpy blm blm 0 6 54) 0 kind) 1 caller) 2 pa) 3 number) 4 1) 5 0))
theorem qX0_arise_0 : Cond.fieldLink RX0 11 "BlameChains$Blames" "numbers" "[I" ∈ wsX0_arise := (List.mem_cons_of_mem _ (List.mem_append_left _ (List.mem_of_getElem? (i := 0) rfl)))
theorem qX0_arise_1 : Cond.methodLink RX0 19 arraycopyName ∈ wsX0_arise := (List.mem_cons_of_mem _ (List.mem_append_left _ (List.mem_of_getElem? (i := 1) rfl)))
theorem qX0_arise_2 : Cond.native arraycopyName ∈ wsX0_arise := (List.mem_cons_of_mem _ (List.mem_append_left _ (List.mem_of_getElem? (i := 2) rfl)))
theorem qX0_arise_3 : Cond.static arraycopyName ∈ wsX0_arise := (List.mem_cons_of_mem _ (List.mem_append_left _ (List.mem_of_getElem? (i := 3) rfl)))
theorem qX0_arise_4 : Cond.initialized "java/lang/System" ∈ wsX0_arise := (List.mem_cons_of_mem _ (List.mem_append_left _ (List.mem_of_getElem? (i := 4) rfl)))
theorem qX0_arise_5 : Cond.fieldLink RX0 15 "BlameChains$Blames" "kept" "I" ∈ wsX0_arise := (List.mem_cons_of_mem _ (List.mem_append_left _ (List.mem_of_getElem? (i := 5) rfl)))
theorem qX0_arise_6 : Cond.methodLink RX0 25 Lib.Math.min.name ∈ wsX0_arise := (List.mem_cons_of_mem _ (List.mem_append_left _ (List.mem_of_getElem? (i := 6) rfl)))
theorem qX0_arise_7 : Cond.static Lib.Math.min.name ∈ wsX0_arise := (List.mem_cons_of_mem _ (List.mem_append_left _ (List.mem_of_getElem? (i := 7) rfl)))
theorem qX0_arise_8 : Cond.initialized "java/lang/Math" ∈ wsX0_arise := (List.mem_cons_of_mem _ (List.mem_append_left _ (List.mem_of_getElem? (i := 8) rfl)))
theorem qX0_arise_9 : Cond.code Lib.Math.min.name Lib.Math.min.code 2 (some .int) ∈ wsX0_arise := (List.mem_cons_of_mem _ (List.mem_append_left _ (List.mem_of_getElem? (i := 9) rfl)))
set_option maxHeartbeats 4000000 in
set_option maxRecDepth 100000 in
theorem c_X0_arise (l : Launch) (D : va_G) (g : Nat → Nat) (b0 b1 : Nat) (sz : Nat) (kp : Int32) (blm : Nat → Int32) (kind : Int32) (caller : Int32) (pa : Int32) (number : Int32) : kMv l D g yX0_arise wsX0_arise 1 0 0 [.ref b0, .int kind, .int caller, .int pa, .int number] [(b0, .inr (0, [.ref b1, .int kp])), (b1, .inl (g 0, 60, .inl blm))] sz [(b0, .inr (0, [.ref b1, .int ((f_X0_arise kp blm kind caller pa number).1)])), (b1, .inl (g 0, 60, .inl ((f_X0_arise kp blm kind caller pa number).2)))] := by
  refine k_enter (nm := "arise") (own := RX0) (bytes := cX0_arise) (maxL := 5) (ret := none) (Qf := fun A => kQv D [(b0, .inr (0, [.ref b1, .int ((f_X0_arise kp blm kind caller pa number).1)])), (b1, .inl (g 0, 60, .inl ((f_X0_arise kp blm kind caller pa number).2)))] A) (by decide) rfl rfl rfl (Nat.le_of_ble_eq_true rfl) ?_
  rintro pp ee s mm below meth cc A ls args Q H locs hQ ⟨hx, hb, hr, hml, hown, hts, hlocks, hin⟩ hP hK hD hA hS hE hl
  have hl : lv_has ls 5 [(0, .ref b0), (1, .int kind), (2, .int caller), (3, .int pa), (4, .int number)] := hl
  refine lv_aload_n hx hb dX0_arise_0 rfl (lv_at hl 0 rfl) ?_
  refine va_get (D := D) (ci := 0) (v := .ref b1) (C := RX0) (T := TX0) (N := 2) hx hb hts (fun w h => (List.mem_cons_of_mem _ (List.mem_append_right _ h))) hown hK hP 0 rfl rfl 0 (by decide) (hts _ qX0_arise_0) (fun _ h9 => h9) rfl dX0_arise_1 ?_
  refine lv_iconst (v := 0) hx hb dX0_arise_4 (by decide) ?_
  refine lv_aload_n hx hb dX0_arise_5 rfl (lv_at hl 0 rfl) ?_
  refine va_get (D := D) (ci := 0) (v := .ref b1) (C := RX0) (T := TX0) (N := 2) hx hb hts (fun w h => (List.mem_cons_of_mem _ (List.mem_append_right _ h))) hown hK hP 0 rfl rfl 0 (by decide) (hts _ qX0_arise_0) (fun _ h9 => h9) rfl dX0_arise_6 ?_
  refine lv_bipush (v := 6) hx hb dX0_arise_9 (by decide) ?_
  refine lv_aload_n hx hb dX0_arise_11 rfl (lv_at hl 0 rfl) ?_
  refine va_get (D := D) (ci := 0) (v := .ref b1) (C := RX0) (T := TX0) (N := 2) hx hb hts (fun w h => (List.mem_cons_of_mem _ (List.mem_append_right _ h))) hown hK hP 0 rfl rfl 0 (by decide) (hts _ qX0_arise_0) (fun _ h9 => h9) rfl dX0_arise_12 ?_
  refine va_alen (v := 60) hx hb hK hP 1 0 rfl rfl rfl dX0_arise_15 ?_
  refine lv_bipush (v := 6) hx hb dX0_arise_16 (by decide) ?_
  refine lv_isub hx hb dX0_arise_18 ?_
  refine k_top (y := 54) (by decide) ?_
  refine va_copyi hx hb (hml.trans hl.1.symm) hown (hts _ qX0_arise_1) (hts _ qX0_arise_2) (hts _ qX0_arise_3) (hts _ qX0_arise_4) hK hP hD hS 1 1 0 0 rfl rfl rfl rfl rfl (sp := 0) (dp := 6) (n := 54) (by decide) (by decide) (by decide) (by decide) (by decide) (fun _ _ => rfl) (Nat.le_of_ble_eq_true rfl) (Nat.le_of_ble_eq_true rfl) dX0_arise_19 (fun H locs hP hD hS => ?_)
  have hP : va_P D vwCl [(b0, .inr (0, [.ref b1, .int kp])), (b1, .inl (g 0, 60, .inl (va_cpy blm blm 0 6 54)))] H := hP
  have hD : va_D A [(b0, .inr (0, [.ref b1, .int kp])), (b1, .inl (g 0, 60, .inl (va_cpy blm blm 0 6 54)))] := hD
  refine lv_aload_n hx hb dX0_arise_22 rfl (lv_at hl 0 rfl) ?_
  refine va_get (D := D) (ci := 0) (v := .ref b1) (C := RX0) (T := TX0) (N := 2) hx hb hts (fun w h => (List.mem_cons_of_mem _ (List.mem_append_right _ h))) hown hK hP 0 rfl rfl 0 (by decide) (hts _ qX0_arise_0) (fun _ h9 => h9) rfl dX0_arise_23 ?_
  refine lv_iconst (v := 0) hx hb dX0_arise_26 (by decide) ?_
  refine lv_iload_n hx hb dX0_arise_27 rfl (lv_at hl 1 rfl) ?_
  refine va_iast (i := 0) (x := kind) hx hb hK hP hD hS 1 0 rfl rfl (vp_in_nI (n := 0) (by decide) (by decide)) dX0_arise_28 (fun H locs hP hD hS => ?_)
  have hP : va_P D vwCl [(b0, .inr (0, [.ref b1, .int kp])), (b1, .inl (g 0, 60, .inl (upd (va_cpy blm blm 0 6 54) 0 kind)))] H := hP
  have hD : va_D A [(b0, .inr (0, [.ref b1, .int kp])), (b1, .inl (g 0, 60, .inl (upd (va_cpy blm blm 0 6 54) 0 kind)))] := hD
  refine lv_aload_n hx hb dX0_arise_29 rfl (lv_at hl 0 rfl) ?_
  refine va_get (D := D) (ci := 0) (v := .ref b1) (C := RX0) (T := TX0) (N := 2) hx hb hts (fun w h => (List.mem_cons_of_mem _ (List.mem_append_right _ h))) hown hK hP 0 rfl rfl 0 (by decide) (hts _ qX0_arise_0) (fun _ h9 => h9) rfl dX0_arise_30 ?_
  refine lv_iconst (v := 1) hx hb dX0_arise_33 (by decide) ?_
  refine lv_iload_n hx hb dX0_arise_34 rfl (lv_at hl 2 rfl) ?_
  refine va_iast (i := 1) (x := caller) hx hb hK hP hD hS 1 0 rfl rfl (vp_in_nI (n := 1) (by decide) (by decide)) dX0_arise_35 (fun H locs hP hD hS => ?_)
  have hP : va_P D vwCl [(b0, .inr (0, [.ref b1, .int kp])), (b1, .inl (g 0, 60, .inl (upd (upd (va_cpy blm blm 0 6 54) 0 kind) 1 caller)))] H := hP
  have hD : va_D A [(b0, .inr (0, [.ref b1, .int kp])), (b1, .inl (g 0, 60, .inl (upd (upd (va_cpy blm blm 0 6 54) 0 kind) 1 caller)))] := hD
  refine lv_aload_n hx hb dX0_arise_36 rfl (lv_at hl 0 rfl) ?_
  refine va_get (D := D) (ci := 0) (v := .ref b1) (C := RX0) (T := TX0) (N := 2) hx hb hts (fun w h => (List.mem_cons_of_mem _ (List.mem_append_right _ h))) hown hK hP 0 rfl rfl 0 (by decide) (hts _ qX0_arise_0) (fun _ h9 => h9) rfl dX0_arise_37 ?_
  refine lv_iconst (v := 2) hx hb dX0_arise_40 (by decide) ?_
  refine lv_iload_n hx hb dX0_arise_41 rfl (lv_at hl 3 rfl) ?_
  refine va_iast (i := 2) (x := pa) hx hb hK hP hD hS 1 0 rfl rfl (vp_in_nI (n := 2) (by decide) (by decide)) dX0_arise_42 (fun H locs hP hD hS => ?_)
  have hP : va_P D vwCl [(b0, .inr (0, [.ref b1, .int kp])), (b1, .inl (g 0, 60, .inl (upd (upd (upd (va_cpy blm blm 0 6 54) 0 kind) 1 caller) 2 pa)))] H := hP
  have hD : va_D A [(b0, .inr (0, [.ref b1, .int kp])), (b1, .inl (g 0, 60, .inl (upd (upd (upd (va_cpy blm blm 0 6 54) 0 kind) 1 caller) 2 pa)))] := hD
  refine lv_aload_n hx hb dX0_arise_43 rfl (lv_at hl 0 rfl) ?_
  refine va_get (D := D) (ci := 0) (v := .ref b1) (C := RX0) (T := TX0) (N := 2) hx hb hts (fun w h => (List.mem_cons_of_mem _ (List.mem_append_right _ h))) hown hK hP 0 rfl rfl 0 (by decide) (hts _ qX0_arise_0) (fun _ h9 => h9) rfl dX0_arise_44 ?_
  refine lv_iconst (v := 3) hx hb dX0_arise_47 (by decide) ?_
  refine lv_iload hx hb dX0_arise_48 (lv_at hl 4 rfl) ?_
  refine va_iast (i := 3) (x := number) hx hb hK hP hD hS 1 0 rfl rfl (vp_in_nI (n := 3) (by decide) (by decide)) dX0_arise_50 (fun H locs hP hD hS => ?_)
  have hP : va_P D vwCl [(b0, .inr (0, [.ref b1, .int kp])), (b1, .inl (g 0, 60, .inl (upd (upd (upd (upd (va_cpy blm blm 0 6 54) 0 kind) 1 caller) 2 pa) 3 number)))] H := hP
  have hD : va_D A [(b0, .inr (0, [.ref b1, .int kp])), (b1, .inl (g 0, 60, .inl (upd (upd (upd (upd (va_cpy blm blm 0 6 54) 0 kind) 1 caller) 2 pa) 3 number)))] := hD
  refine lv_aload_n hx hb dX0_arise_51 rfl (lv_at hl 0 rfl) ?_
  refine va_get (D := D) (ci := 0) (v := .ref b1) (C := RX0) (T := TX0) (N := 2) hx hb hts (fun w h => (List.mem_cons_of_mem _ (List.mem_append_right _ h))) hown hK hP 0 rfl rfl 0 (by decide) (hts _ qX0_arise_0) (fun _ h9 => h9) rfl dX0_arise_52 ?_
  refine lv_iconst (v := 4) hx hb dX0_arise_55 (by decide) ?_
  refine lv_iconst (v := 1) hx hb dX0_arise_56 (by decide) ?_
  refine va_iast (i := 4) (x := 1) hx hb hK hP hD hS 1 0 rfl rfl (vp_in_nI (n := 4) (by decide) (by decide)) dX0_arise_57 (fun H locs hP hD hS => ?_)
  have hP : va_P D vwCl [(b0, .inr (0, [.ref b1, .int kp])), (b1, .inl (g 0, 60, .inl (upd (upd (upd (upd (upd (va_cpy blm blm 0 6 54) 0 kind) 1 caller) 2 pa) 3 number) 4 1)))] H := hP
  have hD : va_D A [(b0, .inr (0, [.ref b1, .int kp])), (b1, .inl (g 0, 60, .inl (upd (upd (upd (upd (upd (va_cpy blm blm 0 6 54) 0 kind) 1 caller) 2 pa) 3 number) 4 1)))] := hD
  refine lv_aload_n hx hb dX0_arise_58 rfl (lv_at hl 0 rfl) ?_
  refine va_get (D := D) (ci := 0) (v := .ref b1) (C := RX0) (T := TX0) (N := 2) hx hb hts (fun w h => (List.mem_cons_of_mem _ (List.mem_append_right _ h))) hown hK hP 0 rfl rfl 0 (by decide) (hts _ qX0_arise_0) (fun _ h9 => h9) rfl dX0_arise_59 ?_
  refine lv_iconst (v := 5) hx hb dX0_arise_62 (by decide) ?_
  refine lv_iconst (v := 0) hx hb dX0_arise_63 (by decide) ?_
  refine va_iast (i := 5) (x := 0) hx hb hK hP hD hS 1 0 rfl rfl (vp_in_nI (n := 5) (by decide) (by decide)) dX0_arise_64 (fun H locs hP hD hS => ?_)
  have hP : va_P D vwCl [(b0, .inr (0, [.ref b1, .int kp])), (b1, .inl (g 0, 60, .inl (upd (upd (upd (upd (upd (upd (va_cpy blm blm 0 6 54) 0 kind) 1 caller) 2 pa) 3 number) 4 1) 5 0)))] H := hP
  have hD : va_D A [(b0, .inr (0, [.ref b1, .int kp])), (b1, .inl (g 0, 60, .inl (upd (upd (upd (upd (upd (upd (va_cpy blm blm 0 6 54) 0 kind) 1 caller) 2 pa) 3 number) 4 1) 5 0)))] := hD
  refine lv_aload_n hx hb dX0_arise_65 rfl (lv_at hl 0 rfl) ?_
  refine lv_aload_n hx hb dX0_arise_66 rfl (lv_at hl 0 rfl) ?_
  refine va_get (D := D) (ci := 0) (v := .int kp) (C := RX0) (T := TX0) (N := 2) hx hb hts (fun w h => (List.mem_cons_of_mem _ (List.mem_append_right _ h))) hown hK hP 0 rfl rfl 1 (by decide) (hts _ qX0_arise_5) (fun _ h9 => h9) rfl dX0_arise_67 ?_
  refine lv_iconst (v := 1) hx hb dX0_arise_70 (by decide) ?_
  refine lv_iadd hx hb dX0_arise_71 ?_
  refine lv_bipush (v := 10) hx hb dX0_arise_72 (by decide) ?_
  refine va_mmin hx hb (hml.trans hl.1.symm) hown (hts _ qX0_arise_6) (hts _ qX0_arise_7) (hts _ qX0_arise_8) (hts _ qX0_arise_9) (by first | exact Nat.le_of_ble_eq_true rfl | (simp; omega)) (by first | exact Nat.le_of_ble_eq_true rfl | (simp; omega)) (Nat.zero_le _) (Nat.zero_le _) dX0_arise_74 ?_
  refine k_top (y := (k_min (kp + 1) 10)) (rfl) ?_
  refine va_put (D := D) (ci := 0) (v := .int (k_min (kp + 1) 10)) (ty := .int) (C := RX0) (T := TX0) (N := 2) hx hb hts (fun w h => (List.mem_cons_of_mem _ (List.mem_append_right _ h))) tyX0 tyX0_ok nmX0 hown hK hP hD hS 0 rfl rfl 1 (by decide) (hts _ qX0_arise_5) (fun _ h9 => h9) rfl (by decide +kernel) rfl rfl (Nat.le_of_ble_eq_true rfl) dX0_arise_77 (fun H locs hP hD hS => ?_)
  have hP : va_P D vwCl [(b0, .inr (0, [.ref b1, .int (k_min (kp + 1) 10)])), (b1, .inl (g 0, 60, .inl (upd (upd (upd (upd (upd (upd (va_cpy blm blm 0 6 54) 0 kind) 1 caller) 2 pa) 3 number) 4 1) 5 0)))] H := hP
  have hD : va_D A [(b0, .inr (0, [.ref b1, .int (k_min (kp + 1) 10)])), (b1, .inl (g 0, 60, .inl (upd (upd (upd (upd (upd (upd (va_cpy blm blm 0 6 54) 0 kind) 1 caller) 2 pa) 3 number) 4 1) 5 0)))] := hD
  have hE2 : (f_X0_arise kp blm kind caller pa number) = ((k_min (kp + 1) 10), (upd (upd (upd (upd (upd (upd (va_cpy blm blm 0 6 54) 0 kind) 1 caller) 2 pa) 3 number) 4 1) 5 0)) := by
    exact rfl
  subst hQ
  exact k_rv hx hb hr hlocks hP hD hS dX0_arise_80 (by rw [hE2])
def f_X0_goHigher (blm : Nat → Int32) : (Nat → Int32) :=
  (upd blm 4 ((blm 4) + 1))
theorem qX0_goHigher_0 : Cond.fieldLink RX0 11 "BlameChains$Blames" "numbers" "[I" ∈ wsX0_goHigher := (List.mem_cons_of_mem _ (List.mem_append_left _ (List.mem_of_getElem? (i := 0) rfl)))
set_option maxHeartbeats 4000000 in
set_option maxRecDepth 100000 in
theorem c_X0_goHigher (l : Launch) (D : va_G) (g : Nat → Nat) (b0 b1 : Nat) (sz : Nat) (kp : Int32) (blm : Nat → Int32) : kMv l D g yX0_goHigher wsX0_goHigher 1 0 0 [.ref b0] [(b0, .inr (0, [.ref b1, .int kp])), (b1, .inl (g 0, 60, .inl blm))] sz [(b0, .inr (0, [.ref b1, .int kp])), (b1, .inl (g 0, 60, .inl (f_X0_goHigher blm)))] := by
  refine k_enter (nm := "goHigher") (own := RX0) (bytes := cX0_goHigher) (maxL := 1) (ret := none) (Qf := fun A => kQv D [(b0, .inr (0, [.ref b1, .int kp])), (b1, .inl (g 0, 60, .inl (f_X0_goHigher blm)))] A) (by decide) rfl rfl rfl (Nat.le_of_ble_eq_true rfl) ?_
  rintro pp ee s mm below meth cc A ls args Q H locs hQ ⟨hx, hb, hr, hml, hown, hts, hlocks, hin⟩ hP hK hD hA hS hE hl
  have hl : lv_has ls 1 [(0, .ref b0)] := hl
  refine lv_aload_n hx hb dX0_goHigher_0 rfl (lv_at hl 0 rfl) ?_
  refine va_get (D := D) (ci := 0) (v := .ref b1) (C := RX0) (T := TX0) (N := 2) hx hb hts (fun w h => (List.mem_cons_of_mem _ (List.mem_append_right _ h))) hown hK hP 0 rfl rfl 0 (by decide) (hts _ qX0_goHigher_0) (fun _ h9 => h9) rfl dX0_goHigher_1 ?_
  refine lv_iconst (v := 4) hx hb dX0_goHigher_4 (by decide) ?_
  refine lv_dup2_11 hx hb dX0_goHigher_5 rfl rfl ?_
  refine va_iald (i := 4) hx hb hK hP 1 0 rfl rfl (vp_in_nI (n := 4) (by decide) (by decide)) dX0_goHigher_6 ?_
  refine k_top (y := (blm 4)) rfl ?_
  refine lv_iconst (v := 1) hx hb dX0_goHigher_7 (by decide) ?_
  refine lv_iadd hx hb dX0_goHigher_8 ?_
  refine va_iast (i := 4) (x := ((blm 4) + 1)) hx hb hK hP hD hS 1 0 rfl rfl (vp_in_nI (n := 4) (by decide) (by decide)) dX0_goHigher_9 (fun H locs hP hD hS => ?_)
  have hP : va_P D vwCl [(b0, .inr (0, [.ref b1, .int kp])), (b1, .inl (g 0, 60, .inl (upd blm 4 ((blm 4) + 1))))] H := hP
  have hD : va_D A [(b0, .inr (0, [.ref b1, .int kp])), (b1, .inl (g 0, 60, .inl (upd blm 4 ((blm 4) + 1))))] := hD
  have hE2 : (f_X0_goHigher blm) = (upd blm 4 ((blm 4) + 1)) := by
    exact rfl
  subst hQ
  exact k_rv hx hb hr hlocks hP hD hS dX0_goHigher_10 (by rw [hE2])
def f_X0_markCaught (blm : Nat → Int32) : (Nat → Int32) :=
  (upd blm 5 1)
theorem qX0_markCaught_0 : Cond.fieldLink RX0 11 "BlameChains$Blames" "numbers" "[I" ∈ wsX0_markCaught := (List.mem_cons_of_mem _ (List.mem_append_left _ (List.mem_of_getElem? (i := 0) rfl)))
set_option maxHeartbeats 4000000 in
set_option maxRecDepth 100000 in
theorem c_X0_markCaught (l : Launch) (D : va_G) (g : Nat → Nat) (b0 b1 : Nat) (sz : Nat) (kp : Int32) (blm : Nat → Int32) : kMv l D g yX0_markCaught wsX0_markCaught 1 0 0 [.ref b0] [(b0, .inr (0, [.ref b1, .int kp])), (b1, .inl (g 0, 60, .inl blm))] sz [(b0, .inr (0, [.ref b1, .int kp])), (b1, .inl (g 0, 60, .inl (f_X0_markCaught blm)))] := by
  refine k_enter (nm := "markCaught") (own := RX0) (bytes := cX0_markCaught) (maxL := 1) (ret := none) (Qf := fun A => kQv D [(b0, .inr (0, [.ref b1, .int kp])), (b1, .inl (g 0, 60, .inl (f_X0_markCaught blm)))] A) (by decide) rfl rfl rfl (Nat.le_of_ble_eq_true rfl) ?_
  rintro pp ee s mm below meth cc A ls args Q H locs hQ ⟨hx, hb, hr, hml, hown, hts, hlocks, hin⟩ hP hK hD hA hS hE hl
  have hl : lv_has ls 1 [(0, .ref b0)] := hl
  refine lv_aload_n hx hb dX0_markCaught_0 rfl (lv_at hl 0 rfl) ?_
  refine va_get (D := D) (ci := 0) (v := .ref b1) (C := RX0) (T := TX0) (N := 2) hx hb hts (fun w h => (List.mem_cons_of_mem _ (List.mem_append_right _ h))) hown hK hP 0 rfl rfl 0 (by decide) (hts _ qX0_markCaught_0) (fun _ h9 => h9) rfl dX0_markCaught_1 ?_
  refine lv_iconst (v := 5) hx hb dX0_markCaught_4 (by decide) ?_
  refine lv_iconst (v := 1) hx hb dX0_markCaught_5 (by decide) ?_
  refine va_iast (i := 5) (x := 1) hx hb hK hP hD hS 1 0 rfl rfl (vp_in_nI (n := 5) (by decide) (by decide)) dX0_markCaught_6 (fun H locs hP hD hS => ?_)
  have hP : va_P D vwCl [(b0, .inr (0, [.ref b1, .int kp])), (b1, .inl (g 0, 60, .inl (upd blm 5 1)))] H := hP
  have hD : va_D A [(b0, .inr (0, [.ref b1, .int kp])), (b1, .inl (g 0, 60, .inl (upd blm 5 1)))] := hD
  have hE2 : (f_X0_markCaught blm) = (upd blm 5 1) := by
    exact rfl
  subst hQ
  exact k_rv hx hb hr hlocks hP hD hS dX0_markCaught_7 (by rw [hE2])
def f_X0_tell (kp : Int32) (blm : Nat → Int32) (k : Nat) (what : Nat) : Int32 :=
  if kp ≤ (nI k) then
    (-10000)
  else
    (blm ((k * 6) + what))
theorem qX0_tell_0 : Cond.fieldLink RX0 15 "BlameChains$Blames" "kept" "I" ∈ wsX0_tell := (List.mem_cons_of_mem _ (List.mem_append_left _ (List.mem_of_getElem? (i := 0) rfl)))
theorem qX0_tell_1 : Cond.fieldLink RX0 11 "BlameChains$Blames" "numbers" "[I" ∈ wsX0_tell := (List.mem_cons_of_mem _ (List.mem_append_left _ (List.mem_of_getElem? (i := 1) rfl)))
set_option maxHeartbeats 4000000 in
set_option maxRecDepth 100000 in
theorem c_X0_tell (l : Launch) (D : va_G) (g : Nat → Nat) (b0 b1 : Nat) (sz : Nat) (kp : Int32) (blm : Nat → Int32) (k : Nat) (what : Nat) (hk : k < 10) (hw : what < 6) : kMi l D g yX0_tell wsX0_tell 1 0 0 [.ref b0, .int (nI k), .int (nI what)] [(b0, .inr (0, [.ref b1, .int kp])), (b1, .inl (g 0, 60, .inl blm))] sz (f_X0_tell kp blm k what) [(b0, .inr (0, [.ref b1, .int kp])), (b1, .inl (g 0, 60, .inl blm))] := by
  refine k_enter (nm := "tell") (own := RX0) (bytes := cX0_tell) (maxL := 3) (ret := (some .int)) (Qf := fun A => kQi D [(b0, .inr (0, [.ref b1, .int kp])), (b1, .inl (g 0, 60, .inl blm))] A (f_X0_tell kp blm k what)) (by decide) rfl rfl rfl (Nat.le_of_ble_eq_true rfl) ?_
  rintro pp ee s mm below meth cc A ls args Q H locs hQ ⟨hx, hb, hr, hml, hown, hts, hlocks, hin⟩ hP hK hD hA hS hE hl
  have hl : lv_has ls 3 [(0, .ref b0), (1, .int (nI k)), (2, .int (nI what))] := hl
  refine lv_iload_n hx hb dX0_tell_0 rfl (lv_at hl 1 rfl) ?_
  refine lv_aload_n hx hb dX0_tell_1 rfl (lv_at hl 0 rfl) ?_
  refine va_get (D := D) (ci := 0) (v := .int kp) (C := RX0) (T := TX0) (N := 2) hx hb hts (fun w h => (List.mem_cons_of_mem _ (List.mem_append_right _ h))) hown hK hP 0 rfl rfl 1 (by decide) (hts _ qX0_tell_0) (fun _ h9 => h9) rfl dX0_tell_2 ?_
  refine lv_icmp_ge (tgt := 22) hx hb dX0_tell_5 (by decide) (fun c_1 => ?_) (fun c_1 => ?_)
  · refine lv_sipush (v := (-10000)) hx hb dX0_tell_22 (by decide) ?_
    have hE2 : (f_X0_tell kp blm k what) = (-10000) := by
      exact (if_pos c_1).trans (rfl)
    subst hQ
    exact k_ri hx hb hr hlocks hP hD hS dX0_tell_25 (hE2.symm) (rfl)
  · refine lv_aload_n hx hb dX0_tell_8 rfl (lv_at hl 0 rfl) ?_
    refine va_get (D := D) (ci := 0) (v := .ref b1) (C := RX0) (T := TX0) (N := 2) hx hb hts (fun w h => (List.mem_cons_of_mem _ (List.mem_append_right _ h))) hown hK hP 0 rfl rfl 0 (by decide) (hts _ qX0_tell_1) (fun _ h9 => h9) rfl dX0_tell_9 ?_
    refine lv_iload_n hx hb dX0_tell_12 rfl (lv_at hl 1 rfl) ?_
    refine lv_bipush (v := 6) hx hb dX0_tell_13 (by decide) ?_
    refine lv_imul hx hb dX0_tell_15 ?_
    refine k_top (y := (nI (k * 6))) (pk_mul k 6) ?_
    refine lv_iload_n hx hb dX0_tell_16 rfl (lv_at hl 2 rfl) ?_
    refine lv_iadd hx hb dX0_tell_17 ?_
    refine k_top (y := (nI ((k * 6) + what))) (nI_add (k * 6) what) ?_
    refine va_iald (i := (nI ((k * 6) + what))) hx hb hK hP 1 0 rfl rfl (vp_in_nI (n := ((k * 6) + what)) (by omega) (by omega)) dX0_tell_18 ?_
    refine k_top (y := (blm ((k * 6) + what))) (by rw [nI_clamp (by omega)]) ?_
    refine lv_goto (tgt := 25) hx hb dX0_tell_19 (by decide) ?_
    have hE2 : (f_X0_tell kp blm k what) = (blm ((k * 6) + what)) := by
      exact (if_neg c_1).trans (rfl)
    subst hQ
    exact k_ri hx hb hr hlocks hP hD hS dX0_tell_25 (hE2.symm) (rfl)
def f_X0_lastKind (kp : Int32) (blm : Nat → Int32) : Int32 :=
  if kp ≤ 0 then
    0
  else
    (blm 0)
theorem qX0_lastKind_0 : Cond.fieldLink RX0 15 "BlameChains$Blames" "kept" "I" ∈ wsX0_lastKind := (List.mem_cons_of_mem _ (List.mem_append_left _ (List.mem_of_getElem? (i := 0) rfl)))
theorem qX0_lastKind_1 : Cond.fieldLink RX0 11 "BlameChains$Blames" "numbers" "[I" ∈ wsX0_lastKind := (List.mem_cons_of_mem _ (List.mem_append_left _ (List.mem_of_getElem? (i := 1) rfl)))
set_option maxHeartbeats 4000000 in
set_option maxRecDepth 100000 in
theorem c_X0_lastKind (l : Launch) (D : va_G) (g : Nat → Nat) (b0 b1 : Nat) (sz : Nat) (kp : Int32) (blm : Nat → Int32) : kMi l D g yX0_lastKind wsX0_lastKind 1 0 0 [.ref b0] [(b0, .inr (0, [.ref b1, .int kp])), (b1, .inl (g 0, 60, .inl blm))] sz (f_X0_lastKind kp blm) [(b0, .inr (0, [.ref b1, .int kp])), (b1, .inl (g 0, 60, .inl blm))] := by
  refine k_enter (nm := "lastKind") (own := RX0) (bytes := cX0_lastKind) (maxL := 1) (ret := (some .int)) (Qf := fun A => kQi D [(b0, .inr (0, [.ref b1, .int kp])), (b1, .inl (g 0, 60, .inl blm))] A (f_X0_lastKind kp blm)) (by decide) rfl rfl rfl (Nat.le_of_ble_eq_true rfl) ?_
  rintro pp ee s mm below meth cc A ls args Q H locs hQ ⟨hx, hb, hr, hml, hown, hts, hlocks, hin⟩ hP hK hD hA hS hE hl
  have hl : lv_has ls 1 [(0, .ref b0)] := hl
  refine lv_aload_n hx hb dX0_lastKind_0 rfl (lv_at hl 0 rfl) ?_
  refine va_get (D := D) (ci := 0) (v := .int kp) (C := RX0) (T := TX0) (N := 2) hx hb hts (fun w h => (List.mem_cons_of_mem _ (List.mem_append_right _ h))) hown hK hP 0 rfl rfl 1 (by decide) (hts _ qX0_lastKind_0) (fun _ h9 => h9) rfl dX0_lastKind_1 ?_
  refine lv_if_le (tgt := 16) hx hb dX0_lastKind_4 (by decide) (fun c_1 => ?_) (fun c_1 => ?_)
  · refine lv_iconst (v := 0) hx hb dX0_lastKind_16 (by decide) ?_
    have hE2 : (f_X0_lastKind kp blm) = 0 := by
      exact (if_pos c_1).trans (rfl)
    subst hQ
    exact k_ri hx hb hr hlocks hP hD hS dX0_lastKind_17 (hE2.symm) (rfl)
  · refine lv_aload_n hx hb dX0_lastKind_7 rfl (lv_at hl 0 rfl) ?_
    refine va_get (D := D) (ci := 0) (v := .ref b1) (C := RX0) (T := TX0) (N := 2) hx hb hts (fun w h => (List.mem_cons_of_mem _ (List.mem_append_right _ h))) hown hK hP 0 rfl rfl 0 (by decide) (hts _ qX0_lastKind_1) (fun _ h9 => h9) rfl dX0_lastKind_8 ?_
    refine lv_iconst (v := 0) hx hb dX0_lastKind_11 (by decide) ?_
    refine va_iald (i := 0) hx hb hK hP 1 0 rfl rfl (vp_in_nI (n := 0) (by decide) (by decide)) dX0_lastKind_12 ?_
    refine k_top (y := (blm 0)) rfl ?_
    refine lv_goto (tgt := 17) hx hb dX0_lastKind_13 (by decide) ?_
    have hE2 : (f_X0_lastKind kp blm) = (blm 0) := by
      exact (if_neg c_1).trans (rfl)
    subst hQ
    exact k_ri hx hb hr hlocks hP hD hS dX0_lastKind_17 (hE2.symm) (rfl)
def f_X0_blamedPart (kind : Int32) (caller : Int32) (pa : Int32) : Int32 :=
  if kind = 1 then
    caller
  else
    if kind = 2 then
      pa
    else
      (-10000)
set_option maxHeartbeats 4000000 in
set_option maxRecDepth 100000 in
theorem c_X0_blamedPart (l : Launch) (D : va_G) (g : Nat → Nat) (sz : Nat) (kind : Int32) (caller : Int32) (pa : Int32) : kMi l D g yX0_blamedPart wsX0_blamedPart 1 0 0 [.int kind, .int caller, .int pa] [] sz (f_X0_blamedPart kind caller pa) [] := by
  refine k_enter (nm := "blamedPart") (own := RX0) (bytes := cX0_blamedPart) (maxL := 3) (ret := (some .int)) (Qf := fun A => kQi D [] A (f_X0_blamedPart kind caller pa)) (by decide) rfl rfl rfl (Nat.le_of_ble_eq_true rfl) ?_
  rintro pp ee s mm below meth cc A ls args Q H locs hQ ⟨hx, hb, hr, hml, hown, hts, hlocks, hin⟩ hP hK hD hA hS hE hl
  have hl : lv_has ls 3 [(0, .int kind), (1, .int caller), (2, .int pa)] := hl
  refine lv_iload_n hx hb dX0_blamedPart_0 rfl (lv_at hl 0 rfl) ?_
  by_cases c_1 : kind = 1
  · refine k_lookIn (v := 1) (off := (27)) (tgt := 28) hx hb dX0_blamedPart_1 c_1 (by decide) (by decide) (by decide) ?_
    refine lv_iload_n hx hb dX0_blamedPart_28 rfl (lv_at hl 1 rfl) ?_
    have hE2 : (f_X0_blamedPart kind caller pa) = caller := by
      exact (if_pos c_1).trans (rfl)
    subst hQ
    exact k_ri hx hb hr hlocks hP hD hS dX0_blamedPart_29 (hE2.symm) (rfl)
  by_cases c_2 : kind = 2
  · refine k_lookIn (v := 2) (off := (29)) (tgt := 30) hx hb dX0_blamedPart_1 c_2 (by decide) (by decide) (by decide) ?_
    refine lv_iload_n hx hb dX0_blamedPart_30 rfl (lv_at hl 2 rfl) ?_
    have hE2 : (f_X0_blamedPart kind caller pa) = pa := by
      exact (if_neg c_1).trans ((if_pos c_2).trans (rfl))
    subst hQ
    exact k_ri hx hb hr hlocks hP hD hS dX0_blamedPart_31 (hE2.symm) (rfl)
  refine lv_lookup (off := (31)) (tgt := 32) hx hb dX0_blamedPart_1 (by decide) (by rw [lv_osw c_1 (by decide), lv_osw c_2 (by decide)]; rfl) (by decide) ?_
  refine lv_sipush (v := (-10000)) hx hb dX0_blamedPart_32 (by decide) ?_
  have hE2 : (f_X0_blamedPart kind caller pa) = (-10000) := by
    exact (if_neg c_1).trans ((if_neg c_2).trans (rfl))
  subst hQ
  exact k_ri hx hb hr hlocks hP hD hS dX0_blamedPart_35 (hE2.symm) (rfl)
def f_X0_lastBlamedPart (kp : Int32) (blm : Nat → Int32) : Int32 :=
  (f_X0_blamedPart (f_X0_lastKind kp blm) (blm 1) (blm 2))
theorem qX0_lastBlamedPart_0 : Cond.fieldLink RX0 11 "BlameChains$Blames" "numbers" "[I" ∈ wsX0_lastBlamedPart := (List.mem_cons_of_mem _ (List.mem_append_left _ (List.mem_of_getElem? (i := 0) rfl)))
set_option maxHeartbeats 4000000 in
set_option maxRecDepth 100000 in
theorem c_X0_lastBlamedPart (l : Launch) (D : va_G) (g : Nat → Nat) (b0 b1 : Nat) (sz : Nat) (kp : Int32) (blm : Nat → Int32) : kMi l D g yX0_lastBlamedPart wsX0_lastBlamedPart 2 0 0 [.ref b0] [(b0, .inr (0, [.ref b1, .int kp])), (b1, .inl (g 0, 60, .inl blm))] sz (f_X0_lastBlamedPart kp blm) [(b0, .inr (0, [.ref b1, .int kp])), (b1, .inl (g 0, 60, .inl blm))] := by
  refine k_enter (nm := "lastBlamedPart") (own := RX0) (bytes := cX0_lastBlamedPart) (maxL := 1) (ret := (some .int)) (Qf := fun A => kQi D [(b0, .inr (0, [.ref b1, .int kp])), (b1, .inl (g 0, 60, .inl blm))] A (f_X0_lastBlamedPart kp blm)) (by decide) rfl rfl rfl (Nat.le_of_ble_eq_true rfl) ?_
  rintro pp ee s mm below meth cc A ls args Q H locs hQ ⟨hx, hb, hr, hml, hown, hts, hlocks, hin⟩ hP hK hD hA hS hE hl
  have hl : lv_has ls 1 [(0, .ref b0)] := hl
  refine lv_aload_n hx hb dX0_lastBlamedPart_0 rfl (lv_at hl 0 rfl) ?_
  refine k_ai (wr := []) (w2 := [(b0, .inr (0, [.ref b1, .int kp])), (b1, .inl (g 0, 60, .inl blm))]) (va_runV (As := []) (rest := []) ⟨hx, hb, hml, hown, hts⟩ (c_X0_lastKind l D g b0 b1 H.size kp blm) (cwV 0 hts gX0_lastBlamedPart_X0_lastKind rfl rfl rfl (by decide +kernel) (k_lvl (by omega) (by decide))) (kPV hP hD hK hS hA hE [0, 1] rfl (by decide) 0 0 rfl rfl rfl) rfl rfl hl.1 rfl (lv_room (Nat.le_of_ble_eq_true rfl)) dX0_lastBlamedPart_1 ⟨Nat.le_of_ble_eq_true rfl, Nat.le_of_ble_eq_true rfl⟩) hP hD hS hA [0, 1] [] [0, 1] rfl rfl (by decide) (by decide) rfl (by decide) (fun H locs hP hD hS => ?_)
  refine lv_aload_n hx hb dX0_lastBlamedPart_4 rfl (lv_at hl 0 rfl) ?_
  refine va_get (D := D) (ci := 0) (v := .ref b1) (C := RX0) (T := TX0) (N := 2) hx hb hts (fun w h => (List.mem_cons_of_mem _ (List.mem_append_right _ h))) hown hK hP 0 rfl rfl 0 (by decide) (hts _ qX0_lastBlamedPart_0) (fun _ h9 => h9) rfl dX0_lastBlamedPart_5 ?_
  refine lv_iconst (v := 1) hx hb dX0_lastBlamedPart_8 (by decide) ?_
  refine va_iald (i := 1) hx hb hK hP 1 0 rfl rfl (vp_in_nI (n := 1) (by decide) (by decide)) dX0_lastBlamedPart_9 ?_
  refine k_top (y := (blm 1)) rfl ?_
  refine lv_aload_n hx hb dX0_lastBlamedPart_10 rfl (lv_at hl 0 rfl) ?_
  refine va_get (D := D) (ci := 0) (v := .ref b1) (C := RX0) (T := TX0) (N := 2) hx hb hts (fun w h => (List.mem_cons_of_mem _ (List.mem_append_right _ h))) hown hK hP 0 rfl rfl 0 (by decide) (hts _ qX0_lastBlamedPart_0) (fun _ h9 => h9) rfl dX0_lastBlamedPart_11 ?_
  refine lv_iconst (v := 2) hx hb dX0_lastBlamedPart_14 (by decide) ?_
  refine va_iald (i := 2) hx hb hK hP 1 0 rfl rfl (vp_in_nI (n := 2) (by decide) (by decide)) dX0_lastBlamedPart_15 ?_
  refine k_top (y := (blm 2)) rfl ?_
  refine k_ai (wr := [(b0, .inr (0, [.ref b1, .int kp])), (b1, .inl (g 0, 60, .inl blm))]) (w2 := [(b0, .inr (0, [.ref b1, .int kp])), (b1, .inl (g 0, 60, .inl blm))]) (va_runS (As := [.int (f_X0_lastKind kp blm), .int (blm 1), .int (blm 2)]) (rest := []) ⟨hx, hb, hml, hown, hts⟩ (c_X0_blamedPart l D g H.size (f_X0_lastKind kp blm) (blm 1) (blm 2)) (va_cwS 3 hts gX0_lastBlamedPart_X0_blamedPart rfl rfl rfl (by decide +kernel) (k_lvl (by omega) (by decide))) (kPS hP hD hK hS hA hE [] rfl (by decide)) rfl rfl hl.1 rfl (lv_room (Nat.le_of_ble_eq_true rfl)) dX0_lastBlamedPart_16 ⟨Nat.le_of_ble_eq_true rfl, Nat.le_of_ble_eq_true rfl⟩) hP hD hS hA [] [0, 1] [0, 1] rfl rfl (by decide) (by decide) rfl (by decide) (fun H locs hP hD hS => ?_)
  have hE2 : (f_X0_lastBlamedPart kp blm) = (f_X0_blamedPart (f_X0_lastKind kp blm) (blm 1) (blm 2)) := by
    exact rfl
  subst hQ
  exact k_ri hx hb hr hlocks hP hD hS dX0_lastBlamedPart_19 (hE2.symm) (rfl)
