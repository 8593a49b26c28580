-- MODULE: plans (X4)
theorem qX1_copyFrom_0 : Cond.fieldLink RX1 11 "BlameChains$Contracts" "bounds" "[I" ∈ wsX1_copyFrom := (List.mem_cons_of_mem _ (List.mem_append_left _ (List.mem_of_getElem? (i := 0) rfl)))
theorem qX1_copyFrom_1 : Cond.methodLink RX1 21 arraycopyName ∈ wsX1_copyFrom := (List.mem_cons_of_mem _ (List.mem_append_left _ (List.mem_of_getElem? (i := 1) rfl)))
theorem qX1_copyFrom_2 : Cond.native arraycopyName ∈ wsX1_copyFrom := (List.mem_cons_of_mem _ (List.mem_append_left _ (List.mem_of_getElem? (i := 2) rfl)))
theorem qX1_copyFrom_3 : Cond.static arraycopyName ∈ wsX1_copyFrom := (List.mem_cons_of_mem _ (List.mem_append_left _ (List.mem_of_getElem? (i := 3) rfl)))
theorem qX1_copyFrom_4 : Cond.initialized "java/lang/System" ∈ wsX1_copyFrom := (List.mem_cons_of_mem _ (List.mem_append_left _ (List.mem_of_getElem? (i := 4) rfl)))
set_option maxHeartbeats 4000000 in
set_option maxRecDepth 100000 in
theorem c_X1_copyFrom (l : Launch) (D : va_G) (g : Nat → Nat) (c0 c0x c1 c1x : Nat) (sz : Nat) (bnd : Nat → Int32) (bndx : Nat → Int32) : kMv l D g yX1_copyFrom wsX1_copyFrom 1 0 0 [.ref c0, .ref c0x] [(c0, .inr (1, [.ref c1])), (c1, .inl (g 0, 480, .inl bnd)), (c0x, .inr (1, [.ref c1x])), (c1x, .inl (g 0, 480, .inl bndx))] sz [(c0, .inr (1, [.ref c1])), (c1, .inl (g 0, 480, .inl bndx)), (c0x, .inr (1, [.ref c1x])), (c1x, .inl (g 0, 480, .inl bndx))] := by
  refine k_enter (nm := "copyFrom") (own := RX1) (bytes := cX1_copyFrom) (maxL := 2) (ret := none) (Qf := fun A => kQv D [(c0, .inr (1, [.ref c1])), (c1, .inl (g 0, 480, .inl bndx)), (c0x, .inr (1, [.ref c1x])), (c1x, .inl (g 0, 480, .inl bndx))] A) (by decide) rfl rfl rfl (Nat.le_of_ble_eq_true rfl) ?_
  rintro pp ee s mm below meth cc A ls args Q H locs hQ ⟨hx, hb, hr, hml, hown, hts, hlocks, hin⟩ hP hK hD hA hS hE hl
  have hl : lv_has ls 2 [(0, .ref c0), (1, .ref c0x)] := hl
  refine lv_aload_n hx hb dX1_copyFrom_0 rfl (lv_at hl 1 rfl) ?_
  refine va_get (D := D) (ci := 1) (v := .ref c1x) (C := RX1) (T := TX1) (N := 1) hx hb hts (fun w h => (List.mem_cons_of_mem _ (List.mem_append_right _ h))) hown hK hP 2 rfl rfl 0 (by decide) (hts _ qX1_copyFrom_0) (fun _ h9 => h9) rfl dX1_copyFrom_1 ?_
  refine lv_iconst (v := 0) hx hb dX1_copyFrom_4 (by decide) ?_
  refine lv_aload_n hx hb dX1_copyFrom_5 rfl (lv_at hl 0 rfl) ?_
  refine va_get (D := D) (ci := 1) (v := .ref c1) (C := RX1) (T := TX1) (N := 1) hx hb hts (fun w h => (List.mem_cons_of_mem _ (List.mem_append_right _ h))) hown hK hP 0 rfl rfl 0 (by decide) (hts _ qX1_copyFrom_0) (fun _ h9 => h9) rfl dX1_copyFrom_6 ?_
  refine lv_iconst (v := 0) hx hb dX1_copyFrom_9 (by decide) ?_
  refine lv_aload_n hx hb dX1_copyFrom_10 rfl (lv_at hl 0 rfl) ?_
  refine va_get (D := D) (ci := 1) (v := .ref c1) (C := RX1) (T := TX1) (N := 1) hx hb hts (fun w h => (List.mem_cons_of_mem _ (List.mem_append_right _ h))) hown hK hP 0 rfl rfl 0 (by decide) (hts _ qX1_copyFrom_0) (fun _ h9 => h9) rfl dX1_copyFrom_11 ?_
  refine va_alen (v := 480) hx hb hK hP 1 0 rfl rfl rfl dX1_copyFrom_14 ?_
  refine va_copyi hx hb (hml.trans hl.1.symm) hown (hts _ qX1_copyFrom_1) (hts _ qX1_copyFrom_2) (hts _ qX1_copyFrom_3) (hts _ qX1_copyFrom_4) hK hP hD hS 3 1 0 0 rfl rfl rfl rfl rfl (sp := 0) (dp := 0) (n := 480) (by decide) (by decide) (by decide) (by decide) (by decide) (fun _ _ => rfl) (Nat.le_of_ble_eq_true rfl) (Nat.le_of_ble_eq_true rfl) dX1_copyFrom_15 (fun H locs hP hD hS => ?_)
  have hP : va_P D vwCl [(c0, .inr (1, [.ref c1])), (c1, .inl (g 0, 480, .inl (va_cpy bndx bnd 0 0 480))), (c0x, .inr (1, [.ref c1x])), (c1x, .inl (g 0, 480, .inl bndx))] H := hP
  have hD : va_D A [(c0, .inr (1, [.ref c1])), (c1, .inl (g 0, 480, .inl (va_cpy bndx bnd 0 0 480))), (c0x, .inr (1, [.ref c1x])), (c1x, .inl (g 0, 480, .inl bndx))] := hD
  obtain ⟨hP, hD⟩ := k_full (q0 := 1) hP hD rfl
  have hP : va_P D vwCl [(c0, .inr (1, [.ref c1])), (c1, .inl (g 0, 480, .inl bndx)), (c0x, .inr (1, [.ref c1x])), (c1x, .inl (g 0, 480, .inl bndx))] H := hP
  have hD : va_D A [(c0, .inr (1, [.ref c1])), (c1, .inl (g 0, 480, .inl bndx)), (c0x, .inr (1, [.ref c1x])), (c1x, .inl (g 0, 480, .inl bndx))] := hD
  subst hQ
  exact k_rv hx hb hr hlocks hP hD hS dX1_copyFrom_18 (rfl)
theorem qX4_copyFrom_0 : Cond.fieldLink RX4 12 "BlameChains$Plan" "contracts" "LBlameChains$Contracts;" ∈ wsX4_copyFrom := (List.mem_cons_of_mem _ (List.mem_append_left _ (List.mem_append_left _ (List.mem_append_left _ (List.mem_append_left _ (List.mem_of_getElem? (i := 0) rfl))))))
theorem qX4_copyFrom_1 : Cond.fieldLink RX4 21 "BlameChains$Plan" "blames" "LBlameChains$Blames;" ∈ wsX4_copyFrom := (List.mem_cons_of_mem _ (List.mem_append_left _ (List.mem_append_left _ (List.mem_append_left _ (List.mem_append_left _ (List.mem_of_getElem? (i := 1) rfl))))))
theorem qX4_copyFrom_2 : Cond.fieldLink RX4 25 "BlameChains$Plan" "numbers" "[I" ∈ wsX4_copyFrom := (List.mem_cons_of_mem _ (List.mem_append_left _ (List.mem_append_left _ (List.mem_append_left _ (List.mem_append_left _ (List.mem_of_getElem? (i := 2) rfl))))))
theorem qX4_copyFrom_3 : Cond.methodLink RX4 61 arraycopyName ∈ wsX4_copyFrom := (List.mem_cons_of_mem _ (List.mem_append_left _ (List.mem_append_left _ (List.mem_append_left _ (List.mem_append_left _ (List.mem_of_getElem? (i := 3) rfl))))))
theorem qX4_copyFrom_4 : Cond.native arraycopyName ∈ wsX4_copyFrom := (List.mem_cons_of_mem _ (List.mem_append_left _ (List.mem_append_left _ (List.mem_append_left _ (List.mem_append_left _ (List.mem_of_getElem? (i := 4) rfl))))))
theorem qX4_copyFrom_5 : Cond.static arraycopyName ∈ wsX4_copyFrom := (List.mem_cons_of_mem _ (List.mem_append_left _ (List.mem_append_left _ (List.mem_append_left _ (List.mem_append_left _ (List.mem_of_getElem? (i := 5) rfl))))))
theorem qX4_copyFrom_6 : Cond.initialized "java/lang/System" ∈ wsX4_copyFrom := (List.mem_cons_of_mem _ (List.mem_append_left _ (List.mem_append_left _ (List.mem_append_left _ (List.mem_append_left _ (List.mem_of_getElem? (i := 6) rfl))))))
theorem qX4_copyFrom_7 : Cond.fieldLink RX4 35 "BlameChains$Plan" "parts" "I" ∈ wsX4_copyFrom := (List.mem_cons_of_mem _ (List.mem_append_left _ (List.mem_append_left _ (List.mem_append_left _ (List.mem_append_left _ (List.mem_of_getElem? (i := 7) rfl))))))
theorem qX4_copyFrom_8 : Cond.fieldLink RX4 39 "BlameChains$Plan" "calls" "I" ∈ wsX4_copyFrom := (List.mem_cons_of_mem _ (List.mem_append_left _ (List.mem_append_left _ (List.mem_append_left _ (List.mem_append_left _ (List.mem_of_getElem? (i := 8) rfl))))))
theorem qX4_copyFrom_9 : Cond.fieldLink RX4 42 "BlameChains$Plan" "callsFromOutside" "I" ∈ wsX4_copyFrom := (List.mem_cons_of_mem _ (List.mem_append_left _ (List.mem_append_left _ (List.mem_append_left _ (List.mem_append_left _ (List.mem_of_getElem? (i := 9) rfl))))))
theorem qX4_copyFrom_10 : Cond.fieldLink RX4 45 "BlameChains$Plan" "arisen" "I" ∈ wsX4_copyFrom := (List.mem_cons_of_mem _ (List.mem_append_left _ (List.mem_append_left _ (List.mem_append_left _ (List.mem_append_left _ (List.mem_of_getElem? (i := 10) rfl))))))
theorem qX4_copyFrom_11 : Cond.fieldLink RX4 48 "BlameChains$Plan" "cameOut" "I" ∈ wsX4_copyFrom := (List.mem_cons_of_mem _ (List.mem_append_left _ (List.mem_append_left _ (List.mem_append_left _ (List.mem_append_left _ (List.mem_of_getElem? (i := 11) rfl))))))
theorem qX4_copyFrom_12 : Cond.fieldLink RX4 51 "BlameChains$Plan" "caught" "I" ∈ wsX4_copyFrom := (List.mem_cons_of_mem _ (List.mem_append_left _ (List.mem_append_left _ (List.mem_append_left _ (List.mem_append_left _ (List.mem_of_getElem? (i := 12) rfl))))))
set_option maxHeartbeats 4000000 in
set_option maxRecDepth 100000 in
theorem c_X4_copyFrom (l : Launch) (D : va_G) (g : Nat → Nat) (p0 p0x c0 b0 p1 c1 b1 c0x b0x p1x c1x b1x : Nat) (sz : Nat) (pt : Int32) (cl : Int32) (cf : Int32) (ar : Int32) (co : Int32) (ct : Int32) (num : Nat → Int32) (bnd : Nat → Int32) (kp : Int32) (blm : Nat → Int32) (ptx : Int32) (clx : Int32) (cfx : Int32) (arx : Int32) (cox : Int32) (ctx : Int32) (numx : Nat → Int32) (bndx : Nat → Int32) (kpx : Int32) (blmx : Nat → Int32) : kMv l D g yX4_copyFrom wsX4_copyFrom 2 0 0 [.ref p0, .ref p0x] [(p0, .inr (4, [.ref c0, .ref b0, .ref p1, .int pt, .int cl, .int cf, .int ar, .int co, .int ct])), (p1, .inl (g 0, 80, .inl num)), (c0, .inr (1, [.ref c1])), (c1, .inl (g 0, 480, .inl bnd)), (b0, .inr (0, [.ref b1, .int kp])), (b1, .inl (g 0, 60, .inl blm)), (p0x, .inr (4, [.ref c0x, .ref b0x, .ref p1x, .int ptx, .int clx, .int cfx, .int arx, .int cox, .int ctx])), (p1x, .inl (g 0, 80, .inl numx)), (c0x, .inr (1, [.ref c1x])), (c1x, .inl (g 0, 480, .inl bndx)), (b0x, .inr (0, [.ref b1x, .int kpx])), (b1x, .inl (g 0, 60, .inl blmx))] sz [(p0, .inr (4, [.ref c0, .ref b0, .ref p1, .int ptx, .int clx, .int cfx, .int arx, .int cox, .int ctx])), (p1, .inl (g 0, 80, .inl numx)), (c0, .inr (1, [.ref c1])), (c1, .inl (g 0, 480, .inl bndx)), (b0, .inr (0, [.ref b1, .int kpx])), (b1, .inl (g 0, 60, .inl blmx)), (p0x, .inr (4, [.ref c0x, .ref b0x, .ref p1x, .int ptx, .int clx, .int cfx, .int arx, .int cox, .int ctx])), (p1x, .inl (g 0, 80, .inl numx)), (c0x, .inr (1, [.ref c1x])), (c1x, .inl (g 0, 480, .inl bndx)), (b0x, .inr (0, [.ref b1x, .int kpx])), (b1x, .inl (g 0, 60, .inl blmx))] := by
  refine k_enter (nm := "copyFrom") (own := RX4) (bytes := cX4_copyFrom) (maxL := 2) (ret := none) (Qf := fun A => kQv D [(p0, .inr (4, [.ref c0, .ref b0, .ref p1, .int ptx, .int clx, .int cfx, .int arx, .int cox, .int ctx])), (p1, .inl (g 0, 80, .inl numx)), (c0, .inr (1, [.ref c1])), (c1, .inl (g 0, 480, .inl bndx)), (b0, .inr (0, [.ref b1, .int kpx])), (b1, .inl (g 0, 60, .inl blmx)), (p0x, .inr (4, [.ref c0x, .ref b0x, .ref p1x, .int ptx, .int clx, .int cfx, .int arx, .int cox, .int ctx])), (p1x, .inl (g 0, 80, .inl numx)), (c0x, .inr (1, [.ref c1x])), (c1x, .inl (g 0, 480, .inl bndx)), (b0x, .inr (0, [.ref b1x, .int kpx])), (b1x, .inl (g 0, 60, .inl blmx))] A) (by decide) rfl rfl rfl (Nat.le_of_ble_eq_true rfl) ?_
  rintro pp ee s mm below meth cc A ls args Q H locs hQ ⟨hx, hb, hr, hml, hown, hts, hlocks, hin⟩ hP hK hD hA hS hE hl
  have hl : lv_has ls 2 [(0, .ref p0), (1, .ref p0x)] := hl
  refine lv_aload_n hx hb dX4_copyFrom_0 rfl (lv_at hl 0 rfl) ?_
  refine va_get (D := D) (ci := 4) (v := .ref c0) (C := RX4) (T := TX4) (N := 9) hx hb hts (fun w h => (List.mem_cons_of_mem _ (List.mem_append_left _ (List.mem_append_left _ (List.mem_append_right _ h))))) hown hK hP 0 rfl rfl 0 (by decide) (hts _ qX4_copyFrom_0) (fun _ h9 => h9) rfl dX4_copyFrom_1 ?_
  refine lv_aload_n hx hb dX4_copyFrom_4 rfl (lv_at hl 1 rfl) ?_
  refine va_get (D := D) (ci := 4) (v := .ref c0x) (C := RX4) (T := TX4) (N := 9) hx hb hts (fun w h => (List.mem_cons_of_mem _ (List.mem_append_left _ (List.mem_append_left _ (List.mem_append_right _ h))))) hown hK hP 6 rfl rfl 0 (by decide) (hts _ qX4_copyFrom_0) (fun _ h9 => h9) rfl dX4_copyFrom_5 ?_
  refine k_av (wr := [(p0, .inr (4, [.ref c0, .ref b0, .ref p1, .int pt, .int cl, .int cf, .int ar, .int co, .int ct])), (p1, .inl (g 0, 80, .inl num)), (b0, .inr (0, [.ref b1, .int kp])), (b1, .inl (g 0, 60, .inl blm)), (p0x, .inr (4, [.ref c0x, .ref b0x, .ref p1x, .int ptx, .int clx, .int cfx, .int arx, .int cox, .int ctx])), (p1x, .inl (g 0, 80, .inl numx)), (b0x, .inr (0, [.ref b1x, .int kpx])), (b1x, .inl (g 0, 60, .inl blmx))]) (w2 := [(p0, .inr (4, [.ref c0, .ref b0, .ref p1, .int pt, .int cl, .int cf, .int ar, .int co, .int ct])), (p1, .inl (g 0, 80, .inl num)), (c0, .inr (1, [.ref c1])), (c1, .inl (g 0, 480, .inl bndx)), (b0, .inr (0, [.ref b1, .int kp])), (b1, .inl (g 0, 60, .inl blm)), (p0x, .inr (4, [.ref c0x, .ref b0x, .ref p1x, .int ptx, .int clx, .int cfx, .int arx, .int cox, .int ctx])), (p1x, .inl (g 0, 80, .inl numx)), (c0x, .inr (1, [.ref c1x])), (c1x, .inl (g 0, 480, .inl bndx)), (b0x, .inr (0, [.ref b1x, .int kpx])), (b1x, .inl (g 0, 60, .inl blmx))]) (va_runV (As := [.ref c0x]) (rest := []) ⟨hx, hb, hml, hown, hts⟩ (c_X1_copyFrom l D g c0 c0x c1 c1x H.size bnd bndx) (cwV 1 hts gX4_copyFrom_X1_copyFrom rfl rfl rfl (by decide +kernel) (k_lvl (by omega) (by decide))) (kPV hP hD hK hS hA hE [2, 3, 8, 9] rfl (by decide) 2 1 rfl rfl rfl) rfl rfl hl.1 rfl (lv_room (Nat.le_of_ble_eq_true rfl)) dX4_copyFrom_8 ⟨Nat.le_of_ble_eq_true rfl, Nat.le_of_ble_eq_true rfl⟩) hP hD hS hA [2, 3, 8, 9] [0, 1, 4, 5, 6, 7, 10, 11] [0, 1, 8, 9, 2, 3, 4, 5, 10, 11, 6, 7] rfl rfl (by decide) (by decide) rfl (by decide) (fun H locs hP hD hS => ?_)
  refine lv_aload_n hx hb dX4_copyFrom_11 rfl (lv_at hl 0 rfl) ?_
  refine va_get (D := D) (ci := 4) (v := .ref b0) (C := RX4) (T := TX4) (N := 9) hx hb hts (fun w h => (List.mem_cons_of_mem _ (List.mem_append_left _ (List.mem_append_left _ (List.mem_append_right _ h))))) hown hK hP 0 rfl rfl 1 (by decide) (hts _ qX4_copyFrom_1) (fun _ h9 => h9) rfl dX4_copyFrom_12 ?_
  refine lv_aload_n hx hb dX4_copyFrom_15 rfl (lv_at hl 1 rfl) ?_
  refine va_get (D := D) (ci := 4) (v := .ref b0x) (C := RX4) (T := TX4) (N := 9) hx hb hts (fun w h => (List.mem_cons_of_mem _ (List.mem_append_left _ (List.mem_append_left _ (List.mem_append_right _ h))))) hown hK hP 6 rfl rfl 1 (by decide) (hts _ qX4_copyFrom_1) (fun _ h9 => h9) rfl dX4_copyFrom_16 ?_
  refine k_av (wr := [(p0, .inr (4, [.ref c0, .ref b0, .ref p1, .int pt, .int cl, .int cf, .int ar, .int co, .int ct])), (p1, .inl (g 0, 80, .inl num)), (c0, .inr (1, [.ref c1])), (c1, .inl (g 0, 480, .inl bndx)), (p0x, .inr (4, [.ref c0x, .ref b0x, .ref p1x, .int ptx, .int clx, .int cfx, .int arx, .int cox, .int ctx])), (p1x, .inl (g 0, 80, .inl numx)), (c0x, .inr (1, [.ref c1x])), (c1x, .inl (g 0, 480, .inl bndx))]) (w2 := [(p0, .inr (4, [.ref c0, .ref b0, .ref p1, .int pt, .int cl, .int cf, .int ar, .int co, .int ct])), (p1, .inl (g 0, 80, .inl num)), (c0, .inr (1, [.ref c1])), (c1, .inl (g 0, 480, .inl bndx)), (b0, .inr (0, [.ref b1, .int kpx])), (b1, .inl (g 0, 60, .inl blmx)), (p0x, .inr (4, [.ref c0x, .ref b0x, .ref p1x, .int ptx, .int clx, .int cfx, .int arx, .int cox, .int ctx])), (p1x, .inl (g 0, 80, .inl numx)), (c0x, .inr (1, [.ref c1x])), (c1x, .inl (g 0, 480, .inl bndx)), (b0x, .inr (0, [.ref b1x, .int kpx])), (b1x, .inl (g 0, 60, .inl blmx))]) (va_runV (As := [.ref b0x]) (rest := []) ⟨hx, hb, hml, hown, hts⟩ (c_X0_copyFrom l D g b0 b0x b1 b1x H.size kp blm kpx blmx) (cwV 1 hts gX4_copyFrom_X0_copyFrom rfl rfl rfl (by decide +kernel) (k_lvl (by omega) (by decide))) (kPV hP hD hK hS hA hE [4, 5, 10, 11] rfl (by decide) 4 0 rfl rfl rfl) rfl rfl hl.1 rfl (lv_room (Nat.le_of_ble_eq_true rfl)) dX4_copyFrom_19 ⟨Nat.le_of_ble_eq_true rfl, Nat.le_of_ble_eq_true rfl⟩) hP hD hS hA [4, 5, 10, 11] [0, 1, 2, 3, 6, 7, 8, 9] [0, 1, 2, 3, 8, 9, 4, 5, 6, 7, 10, 11] rfl rfl (by decide) (by decide) rfl (by decide) (fun H locs hP hD hS => ?_)
  refine lv_aload_n hx hb dX4_copyFrom_22 rfl (lv_at hl 1 rfl) ?_
  refine va_get (D := D) (ci := 4) (v := .ref p1x) (C := RX4) (T := TX4) (N := 9) hx hb hts (fun w h => (List.mem_cons_of_mem _ (List.mem_append_left _ (List.mem_append_left _ (List.mem_append_right _ h))))) hown hK hP 6 rfl rfl 2 (by decide) (hts _ qX4_copyFrom_2) (fun _ h9 => h9) rfl dX4_copyFrom_23 ?_
  refine lv_iconst (v := 0) hx hb dX4_copyFrom_26 (by decide) ?_
  refine lv_aload_n hx hb dX4_copyFrom_27 rfl (lv_at hl 0 rfl) ?_
  refine va_get (D := D) (ci := 4) (v := .ref p1) (C := RX4) (T := TX4) (N := 9) hx hb hts (fun w h => (List.mem_cons_of_mem _ (List.mem_append_left _ (List.mem_append_left _ (List.mem_append_right _ h))))) hown hK hP 0 rfl rfl 2 (by decide) (hts _ qX4_copyFrom_2) (fun _ h9 => h9) rfl dX4_copyFrom_28 ?_
  refine lv_iconst (v := 0) hx hb dX4_copyFrom_31 (by decide) ?_
  refine lv_aload_n hx hb dX4_copyFrom_32 rfl (lv_at hl 0 rfl) ?_
  refine va_get (D := D) (ci := 4) (v := .ref p1) (C := RX4) (T := TX4) (N := 9) hx hb hts (fun w h => (List.mem_cons_of_mem _ (List.mem_append_left _ (List.mem_append_left _ (List.mem_append_right _ h))))) hown hK hP 0 rfl rfl 2 (by decide) (hts _ qX4_copyFrom_2) (fun _ h9 => h9) rfl dX4_copyFrom_33 ?_
  refine va_alen (v := 80) hx hb hK hP 1 0 rfl rfl rfl dX4_copyFrom_36 ?_
  refine va_copyi hx hb (hml.trans hl.1.symm) hown (hts _ qX4_copyFrom_3) (hts _ qX4_copyFrom_4) (hts _ qX4_copyFrom_5) (hts _ qX4_copyFrom_6) hK hP hD hS 7 1 0 0 rfl rfl rfl rfl rfl (sp := 0) (dp := 0) (n := 80) (by decide) (by decide) (by decide) (by decide) (by decide) (fun _ _ => rfl) (Nat.le_of_ble_eq_true rfl) (Nat.le_of_ble_eq_true rfl) dX4_copyFrom_37 (fun H locs hP hD hS => ?_)
  have hP : va_P D vwCl [(p0, .inr (4, [.ref c0, .ref b0, .ref p1, .int pt, .int cl, .int cf, .int ar, .int co, .int ct])), (p1, .inl (g 0, 80, .inl (va_cpy numx num 0 0 80))), (c0, .inr (1, [.ref c1])), (c1, .inl (g 0, 480, .inl bndx)), (b0, .inr (0, [.ref b1, .int kpx])), (b1, .inl (g 0, 60, .inl blmx)), (p0x, .inr (4, [.ref c0x, .ref b0x, .ref p1x, .int ptx, .int clx, .int cfx, .int arx, .int cox, .int ctx])), (p1x, .inl (g 0, 80, .inl numx)), (c0x, .inr (1, [.ref c1x])), (c1x, .inl (g 0, 480, .inl bndx)), (b0x, .inr (0, [.ref b1x, .int kpx])), (b1x, .inl (g 0, 60, .inl blmx))] H := hP
  have hD : va_D A [(p0, .inr (4, [.ref c0, .ref b0, .ref p1, .int pt, .int cl, .int cf, .int ar, .int co, .int ct])), (p1, .inl (g 0, 80, .inl (va_cpy numx num 0 0 80))), (c0, .inr (1, [.ref c1])), (c1, .inl (g 0, 480, .inl bndx)), (b0, .inr (0, [.ref b1, .int kpx])), (b1, .inl (g 0, 60, .inl blmx)), (p0x, .inr (4, [.ref c0x, .ref b0x, .ref p1x, .int ptx, .int clx, .int cfx, .int arx, .int cox, .int ctx])), (p1x, .inl (g 0, 80, .inl numx)), (c0x, .inr (1, [.ref c1x])), (c1x, .inl (g 0, 480, .inl bndx)), (b0x, .inr (0, [.ref b1x, .int kpx])), (b1x, .inl (g 0, 60, .inl blmx))] := hD
  obtain ⟨hP, hD⟩ := k_full (q0 := 1) hP hD rfl
  have hP : va_P D vwCl [(p0, .inr (4, [.ref c0, .ref b0, .ref p1, .int pt, .int cl, .int cf, .int ar, .int co, .int ct])), (p1, .inl (g 0, 80, .inl numx)), (c0, .inr (1, [.ref c1])), (c1, .inl (g 0, 480, .inl bndx)), (b0, .inr (0, [.ref b1, .int kpx])), (b1, .inl (g 0, 60, .inl blmx)), (p0x, .inr (4, [.ref c0x, .ref b0x, .ref p1x, .int ptx, .int clx, .int cfx, .int arx, .int cox, .int ctx])), (p1x, .inl (g 0, 80, .inl numx)), (c0x, .inr (1, [.ref c1x])), (c1x, .inl (g 0, 480, .inl bndx)), (b0x, .inr (0, [.ref b1x, .int kpx])), (b1x, .inl (g 0, 60, .inl blmx))] H := hP
  have hD : va_D A [(p0, .inr (4, [.ref c0, .ref b0, .ref p1, .int pt, .int cl, .int cf, .int ar, .int co, .int ct])), (p1, .inl (g 0, 80, .inl numx)), (c0, .inr (1, [.ref c1])), (c1, .inl (g 0, 480, .inl bndx)), (b0, .inr (0, [.ref b1, .int kpx])), (b1, .inl (g 0, 60, .inl blmx)), (p0x, .inr (4, [.ref c0x, .ref b0x, .ref p1x, .int ptx, .int clx, .int cfx, .int arx, .int cox, .int ctx])), (p1x, .inl (g 0, 80, .inl numx)), (c0x, .inr (1, [.ref c1x])), (c1x, .inl (g 0, 480, .inl bndx)), (b0x, .inr (0, [.ref b1x, .int kpx])), (b1x, .inl (g 0, 60, .inl blmx))] := hD
  refine lv_aload_n hx hb dX4_copyFrom_40 rfl (lv_at hl 0 rfl) ?_
  refine lv_aload_n hx hb dX4_copyFrom_41 rfl (lv_at hl 1 rfl) ?_
  refine va_get (D := D) (ci := 4) (v := .int ptx) (C := RX4) (T := TX4) (N := 9) hx hb hts (fun w h => (List.mem_cons_of_mem _ (List.mem_append_left _ (List.mem_append_left _ (List.mem_append_right _ h))))) hown hK hP 6 rfl rfl 3 (by decide) (hts _ qX4_copyFrom_7) (fun _ h9 => h9) rfl dX4_copyFrom_42 ?_
  refine va_put (D := D) (ci := 4) (v := .int ptx) (ty := .int) (C := RX4) (T := TX4) (N := 9) hx hb hts (fun w h => (List.mem_cons_of_mem _ (List.mem_append_left _ (List.mem_append_left _ (List.mem_append_right _ h))))) tyX4 tyX4_ok nmX4 hown hK hP hD hS 0 rfl rfl 3 (by decide) (hts _ qX4_copyFrom_7) (fun _ h9 => h9) rfl (by decide +kernel) rfl rfl (Nat.le_of_ble_eq_true rfl) dX4_copyFrom_45 (fun H locs hP hD hS => ?_)
  have hP : va_P D vwCl [(p0, .inr (4, [.ref c0, .ref b0, .ref p1, .int ptx, .int cl, .int cf, .int ar, .int co, .int ct])), (p1, .inl (g 0, 80, .inl numx)), (c0, .inr (1, [.ref c1])), (c1, .inl (g 0, 480, .inl bndx)), (b0, .inr (0, [.ref b1, .int kpx])), (b1, .inl (g 0, 60, .inl blmx)), (p0x, .inr (4, [.ref c0x, .ref b0x, .ref p1x, .int ptx, .int clx, .int cfx, .int arx, .int cox, .int ctx])), (p1x, .inl (g 0, 80, .inl numx)), (c0x, .inr (1, [.ref c1x])), (c1x, .inl (g 0, 480, .inl bndx)), (b0x, .inr (0, [.ref b1x, .int kpx])), (b1x, .inl (g 0, 60, .inl blmx))] H := hP
  have hD : va_D A [(p0, .inr (4, [.ref c0, .ref b0, .ref p1, .int ptx, .int cl, .int cf, .int ar, .int co, .int ct])), (p1, .inl (g 0, 80, .inl numx)), (c0, .inr (1, [.ref c1])), (c1, .inl (g 0, 480, .inl bndx)), (b0, .inr (0, [.ref b1, .int kpx])), (b1, .inl (g 0, 60, .inl blmx)), (p0x, .inr (4, [.ref c0x, .ref b0x, .ref p1x, .int ptx, .int clx, .int cfx, .int arx, .int cox, .int ctx])), (p1x, .inl (g 0, 80, .inl numx)), (c0x, .inr (1, [.ref c1x])), (c1x, .inl (g 0, 480, .inl bndx)), (b0x, .inr (0, [.ref b1x, .int kpx])), (b1x, .inl (g 0, 60, .inl blmx))] := hD
  refine lv_aload_n hx hb dX4_copyFrom_48 rfl (lv_at hl 0 rfl) ?_
  refine lv_aload_n hx hb dX4_copyFrom_49 rfl (lv_at hl 1 rfl) ?_
  refine va_get (D := D) (ci := 4) (v := .int clx) (C := RX4) (T := TX4) (N := 9) hx hb hts (fun w h => (List.mem_cons_of_mem _ (List.mem_append_left _ (List.mem_append_left _ (List.mem_append_right _ h))))) hown hK hP 6 rfl rfl 4 (by decide) (hts _ qX4_copyFrom_8) (fun _ h9 => h9) rfl dX4_copyFrom_50 ?_
  refine va_put (D := D) (ci := 4) (v := .int clx) (ty := .int) (C := RX4) (T := TX4) (N := 9) hx hb hts (fun w h => (List.mem_cons_of_mem _ (List.mem_append_left _ (List.mem_append_left _ (List.mem_append_right _ h))))) tyX4 tyX4_ok nmX4 hown hK hP hD hS 0 rfl rfl 4 (by decide) (hts _ qX4_copyFrom_8) (fun _ h9 => h9) rfl (by decide +kernel) rfl rfl (Nat.le_of_ble_eq_true rfl) dX4_copyFrom_53 (fun H locs hP hD hS => ?_)
  have hP : va_P D vwCl [(p0, .inr (4, [.ref c0, .ref b0, .ref p1, .int ptx, .int clx, .int cf, .int ar, .int co, .int ct])), (p1, .inl (g 0, 80, .inl numx)), (c0, .inr (1, [.ref c1])), (c1, .inl (g 0, 480, .inl bndx)), (b0, .inr (0, [.ref b1, .int kpx])), (b1, .inl (g 0, 60, .inl blmx)), (p0x, .inr (4, [.ref c0x, .ref b0x, .ref p1x, .int ptx, .int clx, .int cfx, .int arx, .int cox, .int ctx])), (p1x, .inl (g 0, 80, .inl numx)), (c0x, .inr (1, [.ref c1x])), (c1x, .inl (g 0, 480, .inl bndx)), (b0x, .inr (0, [.ref b1x, .int kpx])), (b1x, .inl (g 0, 60, .inl blmx))] H := hP
  have hD : va_D A [(p0, .inr (4, [.ref c0, .ref b0, .ref p1, .int ptx, .int clx, .int cf, .int ar, .int co, .int ct])), (p1, .inl (g 0, 80, .inl numx)), (c0, .inr (1, [.ref c1])), (c1, .inl (g 0, 480, .inl bndx)), (b0, .inr (0, [.ref b1, .int kpx])), (b1, .inl (g 0, 60, .inl blmx)), (p0x, .inr (4, [.ref c0x, .ref b0x, .ref p1x, .int ptx, .int clx, .int cfx, .int arx, .int cox, .int ctx])), (p1x, .inl (g 0, 80, .inl numx)), (c0x, .inr (1, [.ref c1x])), (c1x, .inl (g 0, 480, .inl bndx)), (b0x, .inr (0, [.ref b1x, .int kpx])), (b1x, .inl (g 0, 60, .inl blmx))] := hD
  refine lv_aload_n hx hb dX4_copyFrom_56 rfl (lv_at hl 0 rfl) ?_
  refine lv_aload_n hx hb dX4_copyFrom_57 rfl (lv_at hl 1 rfl) ?_
  refine va_get (D := D) (ci := 4) (v := .int cfx) (C := RX4) (T := TX4) (N := 9) hx hb hts (fun w h => (List.mem_cons_of_mem _ (List.mem_append_left _ (List.mem_append_left _ (List.mem_append_right _ h))))) hown hK hP 6 rfl rfl 5 (by decide) (hts _ qX4_copyFrom_9) (fun _ h9 => h9) rfl dX4_copyFrom_58 ?_
  refine va_put (D := D) (ci := 4) (v := .int cfx) (ty := .int) (C := RX4) (T := TX4) (N := 9) hx hb hts (fun w h => (List.mem_cons_of_mem _ (List.mem_append_left _ (List.mem_append_left _ (List.mem_append_right _ h))))) tyX4 tyX4_ok nmX4 hown hK hP hD hS 0 rfl rfl 5 (by decide) (hts _ qX4_copyFrom_9) (fun _ h9 => h9) rfl (by decide +kernel) rfl rfl (Nat.le_of_ble_eq_true rfl) dX4_copyFrom_61 (fun H locs hP hD hS => ?_)
  have hP : va_P D vwCl [(p0, .inr (4, [.ref c0, .ref b0, .ref p1, .int ptx, .int clx, .int cfx, .int ar, .int co, .int ct])), (p1, .inl (g 0, 80, .inl numx)), (c0, .inr (1, [.ref c1])), (c1, .inl (g 0, 480, .inl bndx)), (b0, .inr (0, [.ref b1, .int kpx])), (b1, .inl (g 0, 60, .inl blmx)), (p0x, .inr (4, [.ref c0x, .ref b0x, .ref p1x, .int ptx, .int clx, .int cfx, .int arx, .int cox, .int ctx])), (p1x, .inl (g 0, 80, .inl numx)), (c0x, .inr (1, [.ref c1x])), (c1x, .inl (g 0, 480, .inl bndx)), (b0x, .inr (0, [.ref b1x, .int kpx])), (b1x, .inl (g 0, 60, .inl blmx))] H := hP
  have hD : va_D A [(p0, .inr (4, [.ref c0, .ref b0, .ref p1, .int ptx, .int clx, .int cfx, .int ar, .int co, .int ct])), (p1, .inl (g 0, 80, .inl numx)), (c0, .inr (1, [.ref c1])), (c1, .inl (g 0, 480, .inl bndx)), (b0, .inr (0, [.ref b1, .int kpx])), (b1, .inl (g 0, 60, .inl blmx)), (p0x, .inr (4, [.ref c0x, .ref b0x, .ref p1x, .int ptx, .int clx, .int cfx, .int arx, .int cox, .int ctx])), (p1x, .inl (g 0, 80, .inl numx)), (c0x, .inr (1, [.ref c1x])), (c1x, .inl (g 0, 480, .inl bndx)), (b0x, .inr (0, [.ref b1x, .int kpx])), (b1x, .inl (g 0, 60, .inl blmx))] := hD
  refine lv_aload_n hx hb dX4_copyFrom_64 rfl (lv_at hl 0 rfl) ?_
  refine lv_aload_n hx hb dX4_copyFrom_65 rfl (lv_at hl 1 rfl) ?_
  refine va_get (D := D) (ci := 4) (v := .int arx) (C := RX4) (T := TX4) (N := 9) hx hb hts (fun w h => (List.mem_cons_of_mem _ (List.mem_append_left _ (List.mem_append_left _ (List.mem_append_right _ h))))) hown hK hP 6 rfl rfl 6 (by decide) (hts _ qX4_copyFrom_10) (fun _ h9 => h9) rfl dX4_copyFrom_66 ?_
  refine va_put (D := D) (ci := 4) (v := .int arx) (ty := .int) (C := RX4) (T := TX4) (N := 9) hx hb hts (fun w h => (List.mem_cons_of_mem _ (List.mem_append_left _ (List.mem_append_left _ (List.mem_append_right _ h))))) tyX4 tyX4_ok nmX4 hown hK hP hD hS 0 rfl rfl 6 (by decide) (hts _ qX4_copyFrom_10) (fun _ h9 => h9) rfl (by decide +kernel) rfl rfl (Nat.le_of_ble_eq_true rfl) dX4_copyFrom_69 (fun H locs hP hD hS => ?_)
  have hP : va_P D vwCl [(p0, .inr (4, [.ref c0, .ref b0, .ref p1, .int ptx, .int clx, .int cfx, .int arx, .int co, .int ct])), (p1, .inl (g 0, 80, .inl numx)), (c0, .inr (1, [.ref c1])), (c1, .inl (g 0, 480, .inl bndx)), (b0, .inr (0, [.ref b1, .int kpx])), (b1, .inl (g 0, 60, .inl blmx)), (p0x, .inr (4, [.ref c0x, .ref b0x, .ref p1x, .int ptx, .int clx, .int cfx, .int arx, .int cox, .int ctx])), (p1x, .inl (g 0, 80, .inl numx)), (c0x, .inr (1, [.ref c1x])), (c1x, .inl (g 0, 480, .inl bndx)), (b0x, .inr (0, [.ref b1x, .int kpx])), (b1x, .inl (g 0, 60, .inl blmx))] H := hP
  have hD : va_D A [(p0, .inr (4, [.ref c0, .ref b0, .ref p1, .int ptx, .int clx, .int cfx, .int arx, .int co, .int ct])), (p1, .inl (g 0, 80, .inl numx)), (c0, .inr (1, [.ref c1])), (c1, .inl (g 0, 480, .inl bndx)), (b0, .inr (0, [.ref b1, .int kpx])), (b1, .inl (g 0, 60, .inl blmx)), (p0x, .inr (4, [.ref c0x, .ref b0x, .ref p1x, .int ptx, .int clx, .int cfx, .int arx, .int cox, .int ctx])), (p1x, .inl (g 0, 80, .inl numx)), (c0x, .inr (1, [.ref c1x])), (c1x, .inl (g 0, 480, .inl bndx)), (b0x, .inr (0, [.ref b1x, .int kpx])), (b1x, .inl (g 0, 60, .inl blmx))] := hD
  refine lv_aload_n hx hb dX4_copyFrom_72 rfl (lv_at hl 0 rfl) ?_
  refine lv_aload_n hx hb dX4_copyFrom_73 rfl (lv_at hl 1 rfl) ?_
  refine va_get (D := D) (ci := 4) (v := .int cox) (C := RX4) (T := TX4) (N := 9) hx hb hts (fun w h => (List.mem_cons_of_mem _ (List.mem_append_left _ (List.mem_append_left _ (List.mem_append_right _ h))))) hown hK hP 6 rfl rfl 7 (by decide) (hts _ qX4_copyFrom_11) (fun _ h9 => h9) rfl dX4_copyFrom_74 ?_
  refine va_put (D := D) (ci := 4) (v := .int cox) (ty := .int) (C := RX4) (T := TX4) (N := 9) hx hb hts (fun w h => (List.mem_cons_of_mem _ (List.mem_append_left _ (List.mem_append_left _ (List.mem_append_right _ h))))) tyX4 tyX4_ok nmX4 hown hK hP hD hS 0 rfl rfl 7 (by decide) (hts _ qX4_copyFrom_11) (fun _ h9 => h9) rfl (by decide +kernel) rfl rfl (Nat.le_of_ble_eq_true rfl) dX4_copyFrom_77 (fun H locs hP hD hS => ?_)
  have hP : va_P D vwCl [(p0, .inr (4, [.ref c0, .ref b0, .ref p1, .int ptx, .int clx, .int cfx, .int arx, .int cox, .int ct])), (p1, .inl (g 0, 80, .inl numx)), (c0, .inr (1, [.ref c1])), (c1, .inl (g 0, 480, .inl bndx)), (b0, .inr (0, [.ref b1, .int kpx])), (b1, .inl (g 0, 60, .inl blmx)), (p0x, .inr (4, [.ref c0x, .ref b0x, .ref p1x, .int ptx, .int clx, .int cfx, .int arx, .int cox, .int ctx])), (p1x, .inl (g 0, 80, .inl numx)), (c0x, .inr (1, [.ref c1x])), (c1x, .inl (g 0, 480, .inl bndx)), (b0x, .inr (0, [.ref b1x, .int kpx])), (b1x, .inl (g 0, 60, .inl blmx))] H := hP
  have hD : va_D A [(p0, .inr (4, [.ref c0, .ref b0, .ref p1, .int ptx, .int clx, .int cfx, .int arx, .int cox, .int ct])), (p1, .inl (g 0, 80, .inl numx)), (c0, .inr (1, [.ref c1])), (c1, .inl (g 0, 480, .inl bndx)), (b0, .inr (0, [.ref b1, .int kpx])), (b1, .inl (g 0, 60, .inl blmx)), (p0x, .inr (4, [.ref c0x, .ref b0x, .ref p1x, .int ptx, .int clx, .int cfx, .int arx, .int cox, .int ctx])), (p1x, .inl (g 0, 80, .inl numx)), (c0x, .inr (1, [.ref c1x])), (c1x, .inl (g 0, 480, .inl bndx)), (b0x, .inr (0, [.ref b1x, .int kpx])), (b1x, .inl (g 0, 60, .inl blmx))] := hD
  refine lv_aload_n hx hb dX4_copyFrom_80 rfl (lv_at hl 0 rfl) ?_
  refine lv_aload_n hx hb dX4_copyFrom_81 rfl (lv_at hl 1 rfl) ?_
  refine va_get (D := D) (ci := 4) (v := .int ctx) (C := RX4) (T := TX4) (N := 9) hx hb hts (fun w h => (List.mem_cons_of_mem _ (List.mem_append_left _ (List.mem_append_left _ (List.mem_append_right _ h))))) hown hK hP 6 rfl rfl 8 (by decide) (hts _ qX4_copyFrom_12) (fun _ h9 => h9) rfl dX4_copyFrom_82 ?_
  refine va_put (D := D) (ci := 4) (v := .int ctx) (ty := .int) (C := RX4) (T := TX4) (N := 9) hx hb hts (fun w h => (List.mem_cons_of_mem _ (List.mem_append_left _ (List.mem_append_left _ (List.mem_append_right _ h))))) tyX4 tyX4_ok nmX4 hown hK hP hD hS 0 rfl rfl 8 (by decide) (hts _ qX4_copyFrom_12) (fun _ h9 => h9) rfl (by decide +kernel) rfl rfl (Nat.le_of_ble_eq_true rfl) dX4_copyFrom_85 (fun H locs hP hD hS => ?_)
  have hP : va_P D vwCl [(p0, .inr (4, [.ref c0, .ref b0, .ref p1, .int ptx, .int clx, .int cfx, .int arx, .int cox, .int ctx])), (p1, .inl (g 0, 80, .inl numx)), (c0, .inr (1, [.ref c1])), (c1, .inl (g 0, 480, .inl bndx)), (b0, .inr (0, [.ref b1, .int kpx])), (b1, .inl (g 0, 60, .inl blmx)), (p0x, .inr (4, [.ref c0x, .ref b0x, .ref p1x, .int ptx, .int clx, .int cfx, .int arx, .int cox, .int ctx])), (p1x, .inl (g 0, 80, .inl numx)), (c0x, .inr (1, [.ref c1x])), (c1x, .inl (g 0, 480, .inl bndx)), (b0x, .inr (0, [.ref b1x, .int kpx])), (b1x, .inl (g 0, 60, .inl blmx))] H := hP
  have hD : va_D A [(p0, .inr (4, [.ref c0, .ref b0, .ref p1, .int ptx, .int clx, .int cfx, .int arx, .int cox, .int ctx])), (p1, .inl (g 0, 80, .inl numx)), (c0, .inr (1, [.ref c1])), (c1, .inl (g 0, 480, .inl bndx)), (b0, .inr (0, [.ref b1, .int kpx])), (b1, .inl (g 0, 60, .inl blmx)), (p0x, .inr (4, [.ref c0x, .ref b0x, .ref p1x, .int ptx, .int clx, .int cfx, .int arx, .int cox, .int ctx])), (p1x, .inl (g 0, 80, .inl numx)), (c0x, .inr (1, [.ref c1x])), (c1x, .inl (g 0, 480, .inl bndx)), (b0x, .inr (0, [.ref b1x, .int kpx])), (b1x, .inl (g 0, 60, .inl blmx))] := hD
  subst hQ
  exact k_rv hx hb hr hlocks hP hD hS dX4_copyFrom_88 (rfl)
def f_X4_hasPart (pt : Int32) (pa : Int32) : Int32 :=
  if pa < 0 then
    0
  else
    if pt ≤ pa then
      0
    else
      1
theorem qX4_hasPart_0 : Cond.fieldLink RX4 35 "BlameChains$Plan" "parts" "I" ∈ wsX4_hasPart := (List.mem_cons_of_mem _ (List.mem_append_left _ (List.mem_of_getElem? (i := 0) rfl)))
set_option maxHeartbeats 4000000 in
set_option maxRecDepth 100000 in
theorem c_X4_hasPart (l : Launch) (D : va_G) (g : Nat → Nat) (p0 c0 b0 p1 : Nat) (sz : Nat) (pt : Int32) (cl : Int32) (cf : Int32) (ar : Int32) (co : Int32) (ct : Int32) (pa : Int32) : kMi l D g yX4_hasPart wsX4_hasPart 1 0 0 [.ref p0, .int pa] [(p0, .inr (4, [.ref c0, .ref b0, .ref p1, .int pt, .int cl, .int cf, .int ar, .int co, .int ct]))] sz (f_X4_hasPart pt pa) [(p0, .inr (4, [.ref c0, .ref b0, .ref p1, .int pt, .int cl, .int cf, .int ar, .int co, .int ct]))] := by
  refine k_enter (nm := "hasPart") (own := RX4) (bytes := cX4_hasPart) (maxL := 2) (ret := (some .boolean)) (Qf := fun A => kQi D [(p0, .inr (4, [.ref c0, .ref b0, .ref p1, .int pt, .int cl, .int cf, .int ar, .int co, .int ct]))] A (f_X4_hasPart pt pa)) (by decide) rfl rfl rfl (Nat.le_of_ble_eq_true rfl) ?_
  rintro pp ee s mm below meth cc A ls args Q H locs hQ ⟨hx, hb, hr, hml, hown, hts, hlocks, hin⟩ hP hK hD hA hS hE hl
  have hl : lv_has ls 2 [(0, .ref p0), (1, .int pa)] := hl
  refine lv_iload_n hx hb dX4_hasPart_0 rfl (lv_at hl 1 rfl) ?_
  refine lv_if_lt (tgt := 16) hx hb dX4_hasPart_1 (by decide) (fun c_1 => ?_) (fun c_1 => ?_)
  · refine lv_iconst (v := 0) hx hb dX4_hasPart_16 (by decide) ?_
    have hE2 : (f_X4_hasPart pt pa) = 0 := by
      exact (if_pos c_1).trans (rfl)
    subst hQ
    exact k_rz hx hb hr hlocks hP hD hS dX4_hasPart_17 (by rfl) (hE2.symm) (rfl)
  · refine lv_iload_n hx hb dX4_hasPart_4 rfl (lv_at hl 1 rfl) ?_
    refine lv_aload_n hx hb dX4_hasPart_5 rfl (lv_at hl 0 rfl) ?_
    refine va_get (D := D) (ci := 4) (v := .int pt) (C := RX4) (T := TX4) (N := 9) hx hb hts (fun w h => (List.mem_cons_of_mem _ (List.mem_append_right _ h))) hown hK hP 0 rfl rfl 3 (by decide) (hts _ qX4_hasPart_0) (fun _ h9 => h9) rfl dX4_hasPart_6 ?_
    refine lv_icmp_ge (tgt := 16) hx hb dX4_hasPart_9 (by decide) (fun c_2 => ?_) (fun c_2 => ?_)
    · refine lv_iconst (v := 0) hx hb dX4_hasPart_16 (by decide) ?_
      have hE2 : (f_X4_hasPart pt pa) = 0 := by
        exact (if_neg c_1).trans ((if_pos c_2).trans (rfl))
      subst hQ
      exact k_rz hx hb hr hlocks hP hD hS dX4_hasPart_17 (by rfl) (hE2.symm) (rfl)
    · refine lv_iconst (v := 1) hx hb dX4_hasPart_12 (by decide) ?_
      refine lv_goto (tgt := 17) hx hb dX4_hasPart_13 (by decide) ?_
      have hE2 : (f_X4_hasPart pt pa) = 1 := by
        exact (if_neg c_1).trans ((if_neg c_2).trans (rfl))
      subst hQ
      exact k_rz hx hb hr hlocks hP hD hS dX4_hasPart_17 (by rfl) (hE2.symm) (rfl)
def f_X4_hasRoom (pt : Int32) : Int32 :=
  if 10 ≤ pt then
    0
  else
    1
theorem qX4_hasRoom_0 : Cond.fieldLink RX4 35 "BlameChains$Plan" "parts" "I" ∈ wsX4_hasRoom := (List.mem_cons_of_mem _ (List.mem_append_left _ (List.mem_of_getElem? (i := 0) rfl)))
set_option maxHeartbeats 4000000 in
set_option maxRecDepth 100000 in
theorem c_X4_hasRoom (l : Launch) (D : va_G) (g : Nat → Nat) (p0 c0 b0 p1 : Nat) (sz : Nat) (pt : Int32) (cl : Int32) (cf : Int32) (ar : Int32) (co : Int32) (ct : Int32) : kMi l D g yX4_hasRoom wsX4_hasRoom 1 0 0 [.ref p0] [(p0, .inr (4, [.ref c0, .ref b0, .ref p1, .int pt, .int cl, .int cf, .int ar, .int co, .int ct]))] sz (f_X4_hasRoom pt) [(p0, .inr (4, [.ref c0, .ref b0, .ref p1, .int pt, .int cl, .int cf, .int ar, .int co, .int ct]))] := by
  refine k_enter (nm := "hasRoom") (own := RX4) (bytes := cX4_hasRoom) (maxL := 1) (ret := (some .boolean)) (Qf := fun A => kQi D [(p0, .inr (4, [.ref c0, .ref b0, .ref p1, .int pt, .int cl, .int cf, .int ar, .int co, .int ct]))] A (f_X4_hasRoom pt)) (by decide) rfl rfl rfl (Nat.le_of_ble_eq_true rfl) ?_
  rintro pp ee s mm below meth cc A ls args Q H locs hQ ⟨hx, hb, hr, hml, hown, hts, hlocks, hin⟩ hP hK hD hA hS hE hl
  have hl : lv_has ls 1 [(0, .ref p0)] := hl
  refine lv_aload_n hx hb dX4_hasRoom_0 rfl (lv_at hl 0 rfl) ?_
  refine va_get (D := D) (ci := 4) (v := .int pt) (C := RX4) (T := TX4) (N := 9) hx hb hts (fun w h => (List.mem_cons_of_mem _ (List.mem_append_right _ h))) hown hK hP 0 rfl rfl 3 (by decide) (hts _ qX4_hasRoom_0) (fun _ h9 => h9) rfl dX4_hasRoom_1 ?_
  refine lv_bipush (v := 10) hx hb dX4_hasRoom_4 (by decide) ?_
  refine lv_icmp_ge (tgt := 13) hx hb dX4_hasRoom_6 (by decide) (fun c_1 => ?_) (fun c_1 => ?_)
  · refine lv_iconst (v := 0) hx hb dX4_hasRoom_13 (by decide) ?_
    have hE2 : (f_X4_hasRoom pt) = 0 := by
      exact (if_pos c_1).trans (rfl)
    subst hQ
    exact k_rz hx hb hr hlocks hP hD hS dX4_hasRoom_14 (by rfl) (hE2.symm) (rfl)
  · refine lv_iconst (v := 1) hx hb dX4_hasRoom_9 (by decide) ?_
    refine lv_goto (tgt := 14) hx hb dX4_hasRoom_10 (by decide) ?_
    have hE2 : (f_X4_hasRoom pt) = 1 := by
      exact (if_neg c_1).trans (rfl)
    subst hQ
    exact k_rz hx hb hr hlocks hP hD hS dX4_hasRoom_14 (by rfl) (hE2.symm) (rfl)
def f_X4_mayChainTo (pa : Int32) (next : Int32) : Int32 :=
  if next < 0 then
    0
  else
    if pa ≤ next then
      0
    else
      1
set_option maxHeartbeats 4000000 in
set_option maxRecDepth 100000 in
theorem c_X4_mayChainTo (l : Launch) (D : va_G) (g : Nat → Nat) (p0 c0 b0 p1 : Nat) (sz : Nat) (pt : Int32) (cl : Int32) (cf : Int32) (ar : Int32) (co : Int32) (ct : Int32) (pa : Int32) (next : Int32) : kMi l D g yX4_mayChainTo wsX4_mayChainTo 1 0 0 [.ref p0, .int pa, .int next] [(p0, .inr (4, [.ref c0, .ref b0, .ref p1, .int pt, .int cl, .int cf, .int ar, .int co, .int ct]))] sz (f_X4_mayChainTo pa next) [(p0, .inr (4, [.ref c0, .ref b0, .ref p1, .int pt, .int cl, .int cf, .int ar, .int co, .int ct]))] := by
  refine k_enter (nm := "mayChainTo") (own := RX4) (bytes := cX4_mayChainTo) (maxL := 3) (ret := (some .boolean)) (Qf := fun A => kQi D [(p0, .inr (4, [.ref c0, .ref b0, .ref p1, .int pt, .int cl, .int cf, .int ar, .int co, .int ct]))] A (f_X4_mayChainTo pa next)) (by decide) rfl rfl rfl (Nat.le_of_ble_eq_true rfl) ?_
  rintro pp ee s mm below meth cc A ls args Q H locs hQ ⟨hx, hb, hr, hml, hown, hts, hlocks, hin⟩ hP hK hD hA hS hE hl
  have hl : lv_has ls 3 [(0, .ref p0), (1, .int pa), (2, .int next)] := hl
  refine lv_iload_n hx hb dX4_mayChainTo_0 rfl (lv_at hl 2 rfl) ?_
  refine lv_if_lt (tgt := 13) hx hb dX4_mayChainTo_1 (by decide) (fun c_1 => ?_) (fun c_1 => ?_)
  · refine lv_iconst (v := 0) hx hb dX4_mayChainTo_13 (by decide) ?_
    have hE2 : (f_X4_mayChainTo pa next) = 0 := by
      exact (if_pos c_1).trans (rfl)
    subst hQ
    exact k_rz hx hb hr hlocks hP hD hS dX4_mayChainTo_14 (by rfl) (hE2.symm) (rfl)
  · refine lv_iload_n hx hb dX4_mayChainTo_4 rfl (lv_at hl 2 rfl) ?_
    refine lv_iload_n hx hb dX4_mayChainTo_5 rfl (lv_at hl 1 rfl) ?_
    refine lv_icmp_ge (tgt := 13) hx hb dX4_mayChainTo_6 (by decide) (fun c_2 => ?_) (fun c_2 => ?_)
    · refine lv_iconst (v := 0) hx hb dX4_mayChainTo_13 (by decide) ?_
      have hE2 : (f_X4_mayChainTo pa next) = 0 := by
        exact (if_neg c_1).trans ((if_pos c_2).trans (rfl))
      subst hQ
      exact k_rz hx hb hr hlocks hP hD hS dX4_mayChainTo_14 (by rfl) (hE2.symm) (rfl)
    · refine lv_iconst (v := 1) hx hb dX4_mayChainTo_9 (by decide) ?_
      refine lv_goto (tgt := 14) hx hb dX4_mayChainTo_10 (by decide) ?_
      have hE2 : (f_X4_mayChainTo pa next) = 1 := by
        exact (if_neg c_1).trans ((if_neg c_2).trans (rfl))
      subst hQ
      exact k_rz hx hb hr hlocks hP hD hS dX4_mayChainTo_14 (by rfl) (hE2.symm) (rfl)
def f_X4_ofPart (num : Nat → Int32) (pa : Int32) (what : Nat) : Int32 :=
  if pa < 0 then
    (-10000)
  else
    if 10 ≤ pa then
      (-10000)
    else
      (num ((pa.toNatClampNeg * 8) + what))
theorem qX4_ofPart_0 : Cond.fieldLink RX4 25 "BlameChains$Plan" "numbers" "[I" ∈ wsX4_ofPart := (List.mem_cons_of_mem _ (List.mem_append_left _ (List.mem_of_getElem? (i := 0) rfl)))
set_option maxHeartbeats 4000000 in
set_option maxRecDepth 100000 in
theorem c_X4_ofPart (l : Launch) (D : va_G) (g : Nat → Nat) (p0 c0 b0 p1 : Nat) (sz : Nat) (pt : Int32) (cl : Int32) (cf : Int32) (ar : Int32) (co : Int32) (ct : Int32) (num : Nat → Int32) (pa : Int32) (what : Nat) (hw : what < 8) : kMi l D g yX4_ofPart wsX4_ofPart 1 0 0 [.ref p0, .int pa, .int (nI what)] [(p0, .inr (4, [.ref c0, .ref b0, .ref p1, .int pt, .int cl, .int cf, .int ar, .int co, .int ct])), (p1, .inl (g 0, 80, .inl num))] sz (f_X4_ofPart num pa what) [(p0, .inr (4, [.ref c0, .ref b0, .ref p1, .int pt, .int cl, .int cf, .int ar, .int co, .int ct])), (p1, .inl (g 0, 80, .inl num))] := by
  refine k_enter (nm := "ofPart") (own := RX4) (bytes := cX4_ofPart) (maxL := 3) (ret := (some .int)) (Qf := fun A => kQi D [(p0, .inr (4, [.ref c0, .ref b0, .ref p1, .int pt, .int cl, .int cf, .int ar, .int co, .int ct])), (p1, .inl (g 0, 80, .inl num))] A (f_X4_ofPart num pa what)) (by decide) rfl rfl rfl (Nat.le_of_ble_eq_true rfl) ?_
  rintro pp ee s mm below meth cc A ls args Q H locs hQ ⟨hx, hb, hr, hml, hown, hts, hlocks, hin⟩ hP hK hD hA hS hE hl
  have hl : lv_has ls 3 [(0, .ref p0), (1, .int pa), (2, .int (nI what))] := hl
  refine lv_iload_n hx hb dX4_ofPart_0 rfl (lv_at hl 1 rfl) ?_
  refine lv_if_lt (tgt := 24) hx hb dX4_ofPart_1 (by decide) (fun c_1 => ?_) (fun c_1 => ?_)
  · refine lv_sipush (v := (-10000)) hx hb dX4_ofPart_24 (by decide) ?_
    have hE2 : (f_X4_ofPart num pa what) = (-10000) := by
      exact (if_pos c_1).trans (rfl)
    subst hQ
    exact k_ri hx hb hr hlocks hP hD hS dX4_ofPart_27 (hE2.symm) (rfl)
  · refine lv_iload_n hx hb dX4_ofPart_4 rfl (lv_at hl 1 rfl) ?_
    refine lv_bipush (v := 10) hx hb dX4_ofPart_5 (by decide) ?_
    refine lv_icmp_ge (tgt := 24) hx hb dX4_ofPart_7 (by decide) (fun c_2 => ?_) (fun c_2 => ?_)
    · refine lv_sipush (v := (-10000)) hx hb dX4_ofPart_24 (by decide) ?_
      have hE2 : (f_X4_ofPart num pa what) = (-10000) := by
        exact (if_neg c_1).trans ((if_pos c_2).trans (rfl))
      subst hQ
      exact k_ri hx hb hr hlocks hP hD hS dX4_ofPart_27 (hE2.symm) (rfl)
    · have hj : pa.toNatClampNeg < 10 := k_clt (by decide) c_1 c_2
      refine lv_aload_n hx hb dX4_ofPart_10 rfl (lv_at hl 0 rfl) ?_
      refine va_get (D := D) (ci := 4) (v := .ref p1) (C := RX4) (T := TX4) (N := 9) hx hb hts (fun w h => (List.mem_cons_of_mem _ (List.mem_append_right _ h))) hown hK hP 0 rfl rfl 2 (by decide) (hts _ qX4_ofPart_0) (fun _ h9 => h9) rfl dX4_ofPart_11 ?_
      refine lv_iload_n hx hb dX4_ofPart_14 rfl (lv_at hl 1 rfl) ?_
      refine lv_bipush (v := 8) hx hb dX4_ofPart_15 (by decide) ?_
      refine lv_imul hx hb dX4_ofPart_17 ?_
      refine k_top (y := (nI (pa.toNatClampNeg * 8))) (k_mulc c_1 8) ?_
      refine lv_iload_n hx hb dX4_ofPart_18 rfl (lv_at hl 2 rfl) ?_
      refine lv_iadd hx hb dX4_ofPart_19 ?_
      refine k_top (y := (nI ((pa.toNatClampNeg * 8) + what))) (nI_add (pa.toNatClampNeg * 8) what) ?_
      refine va_iald (i := (nI ((pa.toNatClampNeg * 8) + what))) hx hb hK hP 1 0 rfl rfl (vp_in_nI (n := ((pa.toNatClampNeg * 8) + what)) (by omega) (by omega)) dX4_ofPart_20 ?_
      refine k_top (y := (num ((pa.toNatClampNeg * 8) + what))) (by rw [nI_clamp (by omega)]) ?_
      refine lv_goto (tgt := 27) hx hb dX4_ofPart_21 (by decide) ?_
      have hE2 : (f_X4_ofPart num pa what) = (num ((pa.toNatClampNeg * 8) + what)) := by
        exact (if_neg c_1).trans ((if_neg c_2).trans (rfl))
      subst hQ
      exact k_ri hx hb hr hlocks hP hD hS dX4_ofPart_27 (hE2.symm) (rfl)
def f_X4_countOne (num : Nat → Int32) (pa : Int32) (what : Nat) : (Nat → Int32) :=
  if pa < 0 then
    num
  else
    if 10 ≤ pa then
      num
    else
      (upd num ((pa.toNatClampNeg * 8) + what) ((num ((pa.toNatClampNeg * 8) + what)) + 1))
theorem qX4_countOne_0 : Cond.fieldLink RX4 25 "BlameChains$Plan" "numbers" "[I" ∈ wsX4_countOne := (List.mem_cons_of_mem _ (List.mem_append_left _ (List.mem_of_getElem? (i := 0) rfl)))
set_option maxHeartbeats 4000000 in
set_option maxRecDepth 100000 in
theorem c_X4_countOne (l : Launch) (D : va_G) (g : Nat → Nat) (p0 c0 b0 p1 : Nat) (sz : Nat) (pt : Int32) (cl : Int32) (cf : Int32) (ar : Int32) (co : Int32) (ct : Int32) (num : Nat → Int32) (pa : Int32) (what : Nat) (hw : what < 8) : kMv l D g yX4_countOne wsX4_countOne 1 0 0 [.ref p0, .int pa, .int (nI what)] [(p0, .inr (4, [.ref c0, .ref b0, .ref p1, .int pt, .int cl, .int cf, .int ar, .int co, .int ct])), (p1, .inl (g 0, 80, .inl num))] sz [(p0, .inr (4, [.ref c0, .ref b0, .ref p1, .int pt, .int cl, .int cf, .int ar, .int co, .int ct])), (p1, .inl (g 0, 80, .inl (f_X4_countOne num pa what)))] := by
  refine k_enter (nm := "countOne") (own := RX4) (bytes := cX4_countOne) (maxL := 3) (ret := none) (Qf := fun A => kQv D [(p0, .inr (4, [.ref c0, .ref b0, .ref p1, .int pt, .int cl, .int cf, .int ar, .int co, .int ct])), (p1, .inl (g 0, 80, .inl (f_X4_countOne num pa what)))] A) (by decide) rfl rfl rfl (Nat.le_of_ble_eq_true rfl) ?_
  rintro pp ee s mm below meth cc A ls args Q H locs hQ ⟨hx, hb, hr, hml, hown, hts, hlocks, hin⟩ hP hK hD hA hS hE hl
  have hl : lv_has ls 3 [(0, .ref p0), (1, .int pa), (2, .int (nI what))] := hl
  refine lv_iload_n hx hb dX4_countOne_0 rfl (lv_at hl 1 rfl) ?_
  refine lv_if_lt (tgt := 25) hx hb dX4_countOne_1 (by decide) (fun c_1 => ?_) (fun c_1 => ?_)
  · have hE2 : (f_X4_countOne num pa what) = num := by
      exact (if_pos c_1).trans (rfl)
    subst hQ
    exact k_rv hx hb hr hlocks hP hD hS dX4_countOne_25 (by rw [hE2])
  · refine lv_iload_n hx hb dX4_countOne_4 rfl (lv_at hl 1 rfl) ?_
    refine lv_bipush (v := 10) hx hb dX4_countOne_5 (by decide) ?_
    refine lv_icmp_ge (tgt := 25) hx hb dX4_countOne_7 (by decide) (fun c_2 => ?_) (fun c_2 => ?_)
    · have hE2 : (f_X4_countOne num pa what) = num := by
        exact (if_neg c_1).trans ((if_pos c_2).trans (rfl))
      subst hQ
      exact k_rv hx hb hr hlocks hP hD hS dX4_countOne_25 (by rw [hE2])
    · have hj : pa.toNatClampNeg < 10 := k_clt (by decide) c_1 c_2
      refine lv_aload_n hx hb dX4_countOne_10 rfl (lv_at hl 0 rfl) ?_
      refine va_get (D := D) (ci := 4) (v := .ref p1) (C := RX4) (T := TX4) (N := 9) hx hb hts (fun w h => (List.mem_cons_of_mem _ (List.mem_append_right _ h))) hown hK hP 0 rfl rfl 2 (by decide) (hts _ qX4_countOne_0) (fun _ h9 => h9) rfl dX4_countOne_11 ?_
      refine lv_iload_n hx hb dX4_countOne_14 rfl (lv_at hl 1 rfl) ?_
      refine lv_bipush (v := 8) hx hb dX4_countOne_15 (by decide) ?_
      refine lv_imul hx hb dX4_countOne_17 ?_
      refine k_top (y := (nI (pa.toNatClampNeg * 8))) (k_mulc c_1 8) ?_
      refine lv_iload_n hx hb dX4_countOne_18 rfl (lv_at hl 2 rfl) ?_
      refine lv_iadd hx hb dX4_countOne_19 ?_
      refine k_top (y := (nI ((pa.toNatClampNeg * 8) + what))) (nI_add (pa.toNatClampNeg * 8) what) ?_
      refine lv_dup2_11 hx hb dX4_countOne_20 rfl rfl ?_
      refine va_iald (i := (nI ((pa.toNatClampNeg * 8) + what))) hx hb hK hP 1 0 rfl rfl (vp_in_nI (n := ((pa.toNatClampNeg * 8) + what)) (by omega) (by omega)) dX4_countOne_21 ?_
      refine k_top (y := (num ((pa.toNatClampNeg * 8) + what))) (by rw [nI_clamp (by omega)]) ?_
      refine lv_iconst (v := 1) hx hb dX4_countOne_22 (by decide) ?_
      refine lv_iadd hx hb dX4_countOne_23 ?_
      refine va_iast (i := (nI ((pa.toNatClampNeg * 8) + what))) (x := ((num ((pa.toNatClampNeg * 8) + what)) + 1)) hx hb hK hP hD hS 1 0 rfl rfl (vp_in_nI (n := ((pa.toNatClampNeg * 8) + what)) (by omega) (by omega)) dX4_countOne_24 (fun H locs hP hD hS => ?_)
      rw [nI_clamp (n := ((pa.toNatClampNeg * 8) + what)) (by omega)] at hP hD
      have hP : va_P D vwCl [(p0, .inr (4, [.ref c0, .ref b0, .ref p1, .int pt, .int cl, .int cf, .int ar, .int co, .int ct])), (p1, .inl (g 0, 80, .inl (upd num ((pa.toNatClampNeg * 8) + what) ((num ((pa.toNatClampNeg * 8) + what)) + 1))))] H := hP
      have hD : va_D A [(p0, .inr (4, [.ref c0, .ref b0, .ref p1, .int pt, .int cl, .int cf, .int ar, .int co, .int ct])), (p1, .inl (g 0, 80, .inl (upd num ((pa.toNatClampNeg * 8) + what) ((num ((pa.toNatClampNeg * 8) + what)) + 1))))] := hD
      have hE2 : (f_X4_countOne num pa what) = (upd num ((pa.toNatClampNeg * 8) + what) ((num ((pa.toNatClampNeg * 8) + what)) + 1)) := by
        exact (if_neg c_1).trans ((if_neg c_2).trans (rfl))
      subst hQ
      exact k_rv hx hb hr hlocks hP hD hS dX4_countOne_25 (by rw [hE2])
def f_X4_setNumber (num : Nat → Int32) (pa : Int32) (what : Nat) (nb : Int32) : (Nat → Int32) :=
  if pa < 0 then
    num
  else
    if 10 ≤ pa then
      num
    else
      (upd num ((pa.toNatClampNeg * 8) + what) nb)
theorem qX4_setNumber_0 : Cond.fieldLink RX4 25 "BlameChains$Plan" "numbers" "[I" ∈ wsX4_setNumber := (List.mem_cons_of_mem _ (List.mem_append_left _ (List.mem_of_getElem? (i := 0) rfl)))
set_option maxHeartbeats 4000000 in
set_option maxRecDepth 100000 in
theorem c_X4_setNumber (l : Launch) (D : va_G) (g : Nat → Nat) (p0 c0 b0 p1 : Nat) (sz : Nat) (pt : Int32) (cl : Int32) (cf : Int32) (ar : Int32) (co : Int32) (ct : Int32) (num : Nat → Int32) (pa : Int32) (what : Nat) (nb : Int32) (hw : what < 8) : kMv l D g yX4_setNumber wsX4_setNumber 1 0 0 [.ref p0, .int pa, .int (nI what), .int nb] [(p0, .inr (4, [.ref c0, .ref b0, .ref p1, .int pt, .int cl, .int cf, .int ar, .int co, .int ct])), (p1, .inl (g 0, 80, .inl num))] sz [(p0, .inr (4, [.ref c0, .ref b0, .ref p1, .int pt, .int cl, .int cf, .int ar, .int co, .int ct])), (p1, .inl (g 0, 80, .inl (f_X4_setNumber num pa what nb)))] := by
  refine k_enter (nm := "setNumber") (own := RX4) (bytes := cX4_setNumber) (maxL := 4) (ret := none) (Qf := fun A => kQv D [(p0, .inr (4, [.ref c0, .ref b0, .ref p1, .int pt, .int cl, .int cf, .int ar, .int co, .int ct])), (p1, .inl (g 0, 80, .inl (f_X4_setNumber num pa what nb)))] A) (by decide) rfl rfl rfl (Nat.le_of_ble_eq_true rfl) ?_
  rintro pp ee s mm below meth cc A ls args Q H locs hQ ⟨hx, hb, hr, hml, hown, hts, hlocks, hin⟩ hP hK hD hA hS hE hl
  have hl : lv_has ls 4 [(0, .ref p0), (1, .int pa), (2, .int (nI what)), (3, .int nb)] := hl
  refine lv_iload_n hx hb dX4_setNumber_0 rfl (lv_at hl 1 rfl) ?_
  refine lv_if_lt (tgt := 22) hx hb dX4_setNumber_1 (by decide) (fun c_1 => ?_) (fun c_1 => ?_)
  · have hE2 : (f_X4_setNumber num pa what nb) = num := by
      exact (if_pos c_1).trans (rfl)
    subst hQ
    exact k_rv hx hb hr hlocks hP hD hS dX4_setNumber_22 (by rw [hE2])
  · refine lv_iload_n hx hb dX4_setNumber_4 rfl (lv_at hl 1 rfl) ?_
    refine lv_bipush (v := 10) hx hb dX4_setNumber_5 (by decide) ?_
    refine lv_icmp_ge (tgt := 22) hx hb dX4_setNumber_7 (by decide) (fun c_2 => ?_) (fun c_2 => ?_)
    · have hE2 : (f_X4_setNumber num pa what nb) = num := by
        exact (if_neg c_1).trans ((if_pos c_2).trans (rfl))
      subst hQ
      exact k_rv hx hb hr hlocks hP hD hS dX4_setNumber_22 (by rw [hE2])
    · have hj : pa.toNatClampNeg < 10 := k_clt (by decide) c_1 c_2
      refine lv_aload_n hx hb dX4_setNumber_10 rfl (lv_at hl 0 rfl) ?_
      refine va_get (D := D) (ci := 4) (v := .ref p1) (C := RX4) (T := TX4) (N := 9) hx hb hts (fun w h => (List.mem_cons_of_mem _ (List.mem_append_right _ h))) hown hK hP 0 rfl rfl 2 (by decide) (hts _ qX4_setNumber_0) (fun _ h9 => h9) rfl dX4_setNumber_11 ?_
      refine lv_iload_n hx hb dX4_setNumber_14 rfl (lv_at hl 1 rfl) ?_
      refine lv_bipush (v := 8) hx hb dX4_setNumber_15 (by decide) ?_
      refine lv_imul hx hb dX4_setNumber_17 ?_
      refine k_top (y := (nI (pa.toNatClampNeg * 8))) (k_mulc c_1 8) ?_
      refine lv_iload_n hx hb dX4_setNumber_18 rfl (lv_at hl 2 rfl) ?_
      refine lv_iadd hx hb dX4_setNumber_19 ?_
      refine k_top (y := (nI ((pa.toNatClampNeg * 8) + what))) (nI_add (pa.toNatClampNeg * 8) what) ?_
      refine lv_iload_n hx hb dX4_setNumber_20 rfl (lv_at hl 3 rfl) ?_
      refine va_iast (i := (nI ((pa.toNatClampNeg * 8) + what))) (x := nb) hx hb hK hP hD hS 1 0 rfl rfl (vp_in_nI (n := ((pa.toNatClampNeg * 8) + what)) (by omega) (by omega)) dX4_setNumber_21 (fun H locs hP hD hS => ?_)
      rw [nI_clamp (n := ((pa.toNatClampNeg * 8) + what)) (by omega)] at hP hD
      have hP : va_P D vwCl [(p0, .inr (4, [.ref c0, .ref b0, .ref p1, .int pt, .int cl, .int cf, .int ar, .int co, .int ct])), (p1, .inl (g 0, 80, .inl (upd num ((pa.toNatClampNeg * 8) + what) nb)))] H := hP
      have hD : va_D A [(p0, .inr (4, [.ref c0, .ref b0, .ref p1, .int pt, .int cl, .int cf, .int ar, .int co, .int ct])), (p1, .inl (g 0, 80, .inl (upd num ((pa.toNatClampNeg * 8) + what) nb)))] := hD
      have hE2 : (f_X4_setNumber num pa what nb) = (upd num ((pa.toNatClampNeg * 8) + what) nb) := by
        exact (if_neg c_1).trans ((if_neg c_2).trans (rfl))
      subst hQ
      exact k_rv hx hb hr hlocks hP hD hS dX4_setNumber_22 (by rw [hE2])
def f_X4_setNet (num : Nat → Int32) (pa : Int32) (net : Int32) : (Nat → Int32) :=
  (f_X4_setNumber num pa 4 net)
set_option maxHeartbeats 4000000 in
set_option maxRecDepth 100000 in
theorem c_X4_setNet (l : Launch) (D : va_G) (g : Nat → Nat) (p0 c0 b0 p1 : Nat) (sz : Nat) (pt : Int32) (cl : Int32) (cf : Int32) (ar : Int32) (co : Int32) (ct : Int32) (num : Nat → Int32) (pa : Int32) (net : Int32) : kMv l D g yX4_setNet wsX4_setNet 2 0 0 [.ref p0, .int pa, .int net] [(p0, .inr (4, [.ref c0, .ref b0, .ref p1, .int pt, .int cl, .int cf, .int ar, .int co, .int ct])), (p1, .inl (g 0, 80, .inl num))] sz [(p0, .inr (4, [.ref c0, .ref b0, .ref p1, .int pt, .int cl, .int cf, .int ar, .int co, .int ct])), (p1, .inl (g 0, 80, .inl (f_X4_setNet num pa net)))] := by
  refine k_enter (nm := "setNet") (own := RX4) (bytes := cX4_setNet) (maxL := 3) (ret := none) (Qf := fun A => kQv D [(p0, .inr (4, [.ref c0, .ref b0, .ref p1, .int pt, .int cl, .int cf, .int ar, .int co, .int ct])), (p1, .inl (g 0, 80, .inl (f_X4_setNet num pa net)))] A) (by decide) rfl rfl rfl (Nat.le_of_ble_eq_true rfl) ?_
  rintro pp ee s mm below meth cc A ls args Q H locs hQ ⟨hx, hb, hr, hml, hown, hts, hlocks, hin⟩ hP hK hD hA hS hE hl
  have hl : lv_has ls 3 [(0, .ref p0), (1, .int pa), (2, .int net)] := hl
  refine lv_aload_n hx hb dX4_setNet_0 rfl (lv_at hl 0 rfl) ?_
  refine lv_iload_n hx hb dX4_setNet_1 rfl (lv_at hl 1 rfl) ?_
  refine lv_iconst (v := 4) hx hb dX4_setNet_2 (by decide) ?_
  refine lv_iload_n hx hb dX4_setNet_3 rfl (lv_at hl 2 rfl) ?_
  refine k_av (wr := []) (w2 := [(p0, .inr (4, [.ref c0, .ref b0, .ref p1, .int pt, .int cl, .int cf, .int ar, .int co, .int ct])), (p1, .inl (g 0, 80, .inl (f_X4_setNumber num pa 4 net)))]) (va_runV (As := [.int pa, .int 4, .int net]) (rest := []) ⟨hx, hb, hml, hown, hts⟩ (c_X4_setNumber l D g p0 c0 b0 p1 H.size pt cl cf ar co ct num pa 4 net (by omega)) (cwV 3 hts gX4_setNet_X4_setNumber rfl rfl rfl (by decide +kernel) (k_lvl (by omega) (by decide))) (kPV hP hD hK hS hA hE [0, 1] rfl (by decide) 0 4 rfl rfl rfl) rfl rfl hl.1 rfl (lv_room (Nat.le_of_ble_eq_true rfl)) dX4_setNet_4 ⟨Nat.le_of_ble_eq_true rfl, Nat.le_of_ble_eq_true rfl⟩) hP hD hS hA [0, 1] [] [0, 1] rfl rfl (by decide) (by decide) rfl (by decide) (fun H locs hP hD hS => ?_)
  have hE2 : (f_X4_setNet num pa net) = (f_X4_setNumber num pa 4 net) := by
    exact rfl
  subst hQ
  exact k_rv hx hb hr hlocks hP hD hS dX4_setNet_7 (by rw [hE2])
def f_X4_chainTo (num : Nat → Int32) (pa : Int32) (next : Int32) (step : Int32) : (Nat → Int32) :=
  if next = (-10000) then
    (f_X4_setNumber (f_X4_setNumber num pa 2 next) pa 3 (-10000))
  else
    (f_X4_setNumber (f_X4_setNumber num pa 2 next) pa 3 step)
set_option maxHeartbeats 4000000 in
set_option maxRecDepth 100000 in
theorem c_X4_chainTo (l : Launch) (D : va_G) (g : Nat → Nat) (p0 c0 b0 p1 : Nat) (sz : Nat) (pt : Int32) (cl : Int32) (cf : Int32) (ar : Int32) (co : Int32) (ct : Int32) (num : Nat → Int32) (pa : Int32) (next : Int32) (step : Int32) : kMv l D g yX4_chainTo wsX4_chainTo 2 0 0 [.ref p0, .int pa, .int next, .int step] [(p0, .inr (4, [.ref c0, .ref b0, .ref p1, .int pt, .int cl, .int cf, .int ar, .int co, .int ct])), (p1, .inl (g 0, 80, .inl num))] sz [(p0, .inr (4, [.ref c0, .ref b0, .ref p1, .int pt, .int cl, .int cf, .int ar, .int co, .int ct])), (p1, .inl (g 0, 80, .inl (f_X4_chainTo num pa next step)))] := by
  refine k_enter (nm := "chainTo") (own := RX4) (bytes := cX4_chainTo) (maxL := 4) (ret := none) (Qf := fun A => kQv D [(p0, .inr (4, [.ref c0, .ref b0, .ref p1, .int pt, .int cl, .int cf, .int ar, .int co, .int ct])), (p1, .inl (g 0, 80, .inl (f_X4_chainTo num pa next step)))] A) (by decide) rfl rfl rfl (Nat.le_of_ble_eq_true rfl) ?_
  rintro pp ee s mm below meth cc A ls args Q H locs hQ ⟨hx, hb, hr, hml, hown, hts, hlocks, hin⟩ hP hK hD hA hS hE hl
  have hl : lv_has ls 4 [(0, .ref p0), (1, .int pa), (2, .int next), (3, .int step)] := hl
  refine lv_aload_n hx hb dX4_chainTo_0 rfl (lv_at hl 0 rfl) ?_
  refine lv_iload_n hx hb dX4_chainTo_1 rfl (lv_at hl 1 rfl) ?_
  refine lv_iconst (v := 2) hx hb dX4_chainTo_2 (by decide) ?_
  refine lv_iload_n hx hb dX4_chainTo_3 rfl (lv_at hl 2 rfl) ?_
  refine k_av (wr := []) (w2 := [(p0, .inr (4, [.ref c0, .ref b0, .ref p1, .int pt, .int cl, .int cf, .int ar, .int co, .int ct])), (p1, .inl (g 0, 80, .inl (f_X4_setNumber num pa 2 next)))]) (va_runV (As := [.int pa, .int 2, .int next]) (rest := []) ⟨hx, hb, hml, hown, hts⟩ (c_X4_setNumber l D g p0 c0 b0 p1 H.size pt cl cf ar co ct num pa 2 next (by omega)) (cwV 3 hts gX4_chainTo_X4_setNumber rfl rfl rfl (by decide +kernel) (k_lvl (by omega) (by decide))) (kPV hP hD hK hS hA hE [0, 1] rfl (by decide) 0 4 rfl rfl rfl) rfl rfl hl.1 rfl (lv_room (Nat.le_of_ble_eq_true rfl)) dX4_chainTo_4 ⟨Nat.le_of_ble_eq_true rfl, Nat.le_of_ble_eq_true rfl⟩) hP hD hS hA [0, 1] [] [0, 1] rfl rfl (by decide) (by decide) rfl (by decide) (fun H locs hP hD hS => ?_)
  refine lv_aload_n hx hb dX4_chainTo_7 rfl (lv_at hl 0 rfl) ?_
  refine lv_iload_n hx hb dX4_chainTo_8 rfl (lv_at hl 1 rfl) ?_
  refine lv_iconst (v := 3) hx hb dX4_chainTo_9 (by decide) ?_
  refine lv_iload_n hx hb dX4_chainTo_10 rfl (lv_at hl 2 rfl) ?_
  refine lv_sipush (v := (-10000)) hx hb dX4_chainTo_11 (by decide) ?_
  refine lv_icmp_ne (tgt := 23) hx hb dX4_chainTo_14 (by decide) (fun c_1 => ?_) (fun c_1 => ?_)
  · refine lv_iload_n hx hb dX4_chainTo_23 rfl (lv_at hl 3 rfl) ?_
    refine k_av (wr := []) (w2 := [(p0, .inr (4, [.ref c0, .ref b0, .ref p1, .int pt, .int cl, .int cf, .int ar, .int co, .int ct])), (p1, .inl (g 0, 80, .inl (f_X4_setNumber (f_X4_setNumber num pa 2 next) pa 3 step)))]) (va_runV (As := [.int pa, .int 3, .int step]) (rest := []) ⟨hx, hb, hml, hown, hts⟩ (c_X4_setNumber l D g p0 c0 b0 p1 H.size pt cl cf ar co ct (f_X4_setNumber num pa 2 next) pa 3 step (by omega)) (cwV 3 hts gX4_chainTo_X4_setNumber rfl rfl rfl (by decide +kernel) (k_lvl (by omega) (by decide))) (kPV hP hD hK hS hA hE [0, 1] rfl (by decide) 0 4 rfl rfl rfl) rfl rfl hl.1 rfl (lv_room (Nat.le_of_ble_eq_true rfl)) dX4_chainTo_24 ⟨Nat.le_of_ble_eq_true rfl, Nat.le_of_ble_eq_true rfl⟩) hP hD hS hA [0, 1] [] [0, 1] rfl rfl (by decide) (by decide) rfl (by decide) (fun H locs hP hD hS => ?_)
    have hE2 : (f_X4_chainTo num pa next step) = (f_X4_setNumber (f_X4_setNumber num pa 2 next) pa 3 step) := by
      exact (if_neg c_1).trans (rfl)
    subst hQ
    exact k_rv hx hb hr hlocks hP hD hS dX4_chainTo_27 (by rw [hE2])
  · refine lv_sipush (v := (-10000)) hx hb dX4_chainTo_17 (by decide) ?_
    refine lv_goto (tgt := 24) hx hb dX4_chainTo_20 (by decide) ?_
    refine k_av (wr := []) (w2 := [(p0, .inr (4, [.ref c0, .ref b0, .ref p1, .int pt, .int cl, .int cf, .int ar, .int co, .int ct])), (p1, .inl (g 0, 80, .inl (f_X4_setNumber (f_X4_setNumber num pa 2 next) pa 3 (-10000))))]) (va_runV (As := [.int pa, .int 3, .int (-10000)]) (rest := []) ⟨hx, hb, hml, hown, hts⟩ (c_X4_setNumber l D g p0 c0 b0 p1 H.size pt cl cf ar co ct (f_X4_setNumber num pa 2 next) pa 3 (-10000) (by omega)) (cwV 3 hts gX4_chainTo_X4_setNumber rfl rfl rfl (by decide +kernel) (k_lvl (by omega) (by decide))) (kPV hP hD hK hS hA hE [0, 1] rfl (by decide) 0 4 rfl rfl rfl) rfl rfl hl.1 rfl (lv_room (Nat.le_of_ble_eq_true rfl)) dX4_chainTo_24 ⟨Nat.le_of_ble_eq_true rfl, Nat.le_of_ble_eq_true rfl⟩) hP hD hS hA [0, 1] [] [0, 1] rfl rfl (by decide) (by decide) rfl (by decide) (fun H locs hP hD hS => ?_)
    have hE2 : (f_X4_chainTo num pa next step) = (f_X4_setNumber (f_X4_setNumber num pa 2 next) pa 3 (-10000)) := by
      exact (if_pos c_1).trans (rfl)
    subst hQ
    exact k_rv hx hb hr hlocks hP hD hS dX4_chainTo_27 (by rw [hE2])
def f_X4_addPart (pt : Int32) (num : Nat → Int32) (factor : Int32) (more : Int32) : Int32 × (Nat → Int32) :=
  ((pt + 1), (f_X4_setNumber (f_X4_setNumber (f_X4_setNumber (f_X4_setNet (f_X4_chainTo (f_X4_setNumber (f_X4_setNumber num pt 0 factor) pt 1 more) pt (-10000) 0) pt (-10000)) pt 5 0) pt 6 0) pt 7 0))
theorem qX4_addPart_0 : Cond.fieldLink RX4 35 "BlameChains$Plan" "parts" "I" ∈ wsX4_addPart := (List.mem_cons_of_mem _ (List.mem_append_left _ (List.mem_of_getElem? (i := 0) rfl)))
set_option maxHeartbeats 4000000 in
set_option maxRecDepth 100000 in
theorem c_X4_addPart (l : Launch) (D : va_G) (g : Nat → Nat) (p0 c0 b0 p1 : Nat) (sz : Nat) (pt : Int32) (cl : Int32) (cf : Int32) (ar : Int32) (co : Int32) (ct : Int32) (num : Nat → Int32) (factor : Int32) (more : Int32) : kMv l D g yX4_addPart wsX4_addPart 3 0 0 [.ref p0, .int factor, .int more] [(p0, .inr (4, [.ref c0, .ref b0, .ref p1, .int pt, .int cl, .int cf, .int ar, .int co, .int ct])), (p1, .inl (g 0, 80, .inl num))] sz [(p0, .inr (4, [.ref c0, .ref b0, .ref p1, .int ((f_X4_addPart pt num factor more).1), .int cl, .int cf, .int ar, .int co, .int ct])), (p1, .inl (g 0, 80, .inl ((f_X4_addPart pt num factor more).2)))] := by
  refine k_enter (nm := "addPart") (own := RX4) (bytes := cX4_addPart) (maxL := 4) (ret := none) (Qf := fun A => kQv D [(p0, .inr (4, [.ref c0, .ref b0, .ref p1, .int ((f_X4_addPart pt num factor more).1), .int cl, .int cf, .int ar, .int co, .int ct])), (p1, .inl (g 0, 80, .inl ((f_X4_addPart pt num factor more).2)))] A) (by decide) rfl rfl rfl (Nat.le_of_ble_eq_true rfl) ?_
  rintro pp ee s mm below meth cc A ls args Q H locs hQ ⟨hx, hb, hr, hml, hown, hts, hlocks, hin⟩ hP hK hD hA hS hE hl
  have hl : lv_has ls 4 [(0, .ref p0), (1, .int factor), (2, .int more)] := hl
  refine lv_aload_n hx hb dX4_addPart_0 rfl (lv_at hl 0 rfl) ?_
  refine va_get (D := D) (ci := 4) (v := .int pt) (C := RX4) (T := TX4) (N := 9) hx hb hts (fun w h => (List.mem_cons_of_mem _ (List.mem_append_right _ h))) hown hK hP 0 rfl rfl 3 (by decide) (hts _ qX4_addPart_0) (fun _ h9 => h9) rfl dX4_addPart_1 ?_
  refine lv_istore_n (lv' := [(3, .int pt), (0, .ref p0), (1, .int factor), (2, .int more)]) hx hb dX4_addPart_4 rfl hl (by decide) rfl (fun ls hl => ?_)
  refine lv_aload_n hx hb dX4_addPart_5 rfl (lv_at hl 1 rfl) ?_
  refine lv_dup hx hb dX4_addPart_6 rfl ?_
  refine va_get (D := D) (ci := 4) (v := .int pt) (C := RX4) (T := TX4) (N := 9) hx hb hts (fun w h => (List.mem_cons_of_mem _ (List.mem_append_right _ h))) hown hK hP 0 rfl rfl 3 (by decide) (hts _ qX4_addPart_0) (fun _ h9 => h9) rfl dX4_addPart_7 ?_
  refine lv_iconst (v := 1) hx hb dX4_addPart_10 (by decide) ?_
  refine lv_iadd hx hb dX4_addPart_11 ?_
  refine va_put (D := D) (ci := 4) (v := .int (pt + 1)) (ty := .int) (C := RX4) (T := TX4) (N := 9) hx hb hts (fun w h => (List.mem_cons_of_mem _ (List.mem_append_right _ h))) tyX4 tyX4_ok nmX4 hown hK hP hD hS 0 rfl rfl 3 (by decide) (hts _ qX4_addPart_0) (fun _ h9 => h9) rfl (by decide +kernel) rfl rfl (Nat.le_of_ble_eq_true rfl) dX4_addPart_12 (fun H locs hP hD hS => ?_)
  have hP : va_P D vwCl [(p0, .inr (4, [.ref c0, .ref b0, .ref p1, .int (pt + 1), .int cl, .int cf, .int ar, .int co, .int ct])), (p1, .inl (g 0, 80, .inl num))] H := hP
  have hD : va_D A [(p0, .inr (4, [.ref c0, .ref b0, .ref p1, .int (pt + 1), .int cl, .int cf, .int ar, .int co, .int ct])), (p1, .inl (g 0, 80, .inl num))] := hD
  refine lv_aload_n hx hb dX4_addPart_15 rfl (lv_at hl 1 rfl) ?_
  refine lv_iload_n hx hb dX4_addPart_16 rfl (lv_at hl 0 rfl) ?_
  refine lv_iconst (v := 0) hx hb dX4_addPart_17 (by decide) ?_
  refine lv_iload_n hx hb dX4_addPart_18 rfl (lv_at hl 2 rfl) ?_
  refine k_av (wr := []) (w2 := [(p0, .inr (4, [.ref c0, .ref b0, .ref p1, .int (pt + 1), .int cl, .int cf, .int ar, .int co, .int ct])), (p1, .inl (g 0, 80, .inl (f_X4_setNumber num pt 0 factor)))]) (va_runV (As := [.int pt, .int 0, .int factor]) (rest := []) ⟨hx, hb, hml, hown, hts⟩ (c_X4_setNumber l D g p0 c0 b0 p1 H.size (pt + 1) cl cf ar co ct num pt 0 factor (by omega)) (cwV 3 hts gX4_addPart_X4_setNumber rfl rfl rfl (by decide +kernel) (k_lvl (by omega) (by decide))) (kPV hP hD hK hS hA hE [0, 1] rfl (by decide) 0 4 rfl rfl rfl) rfl rfl hl.1 rfl (lv_room (Nat.le_of_ble_eq_true rfl)) dX4_addPart_19 ⟨Nat.le_of_ble_eq_true rfl, Nat.le_of_ble_eq_true rfl⟩) hP hD hS hA [0, 1] [] [0, 1] rfl rfl (by decide) (by decide) rfl (by decide) (fun H locs hP hD hS => ?_)
  refine lv_aload_n hx hb dX4_addPart_22 rfl (lv_at hl 1 rfl) ?_
  refine lv_iload_n hx hb dX4_addPart_23 rfl (lv_at hl 0 rfl) ?_
  refine lv_iconst (v := 1) hx hb dX4_addPart_24 (by decide) ?_
  refine lv_iload_n hx hb dX4_addPart_25 rfl (lv_at hl 3 rfl) ?_
  refine k_av (wr := []) (w2 := [(p0, .inr (4, [.ref c0, .ref b0, .ref p1, .int (pt + 1), .int cl, .int cf, .int ar, .int co, .int ct])), (p1, .inl (g 0, 80, .inl (f_X4_setNumber (f_X4_setNumber num pt 0 factor) pt 1 more)))]) (va_runV (As := [.int pt, .int 1, .int more]) (rest := []) ⟨hx, hb, hml, hown, hts⟩ (c_X4_setNumber l D g p0 c0 b0 p1 H.size (pt + 1) cl cf ar co ct (f_X4_setNumber num pt 0 factor) pt 1 more (by omega)) (cwV 3 hts gX4_addPart_X4_setNumber rfl rfl rfl (by decide +kernel) (k_lvl (by omega) (by decide))) (kPV hP hD hK hS hA hE [0, 1] rfl (by decide) 0 4 rfl rfl rfl) rfl rfl hl.1 rfl (lv_room (Nat.le_of_ble_eq_true rfl)) dX4_addPart_26 ⟨Nat.le_of_ble_eq_true rfl, Nat.le_of_ble_eq_true rfl⟩) hP hD hS hA [0, 1] [] [0, 1] rfl rfl (by decide) (by decide) rfl (by decide) (fun H locs hP hD hS => ?_)
  refine lv_aload_n hx hb dX4_addPart_29 rfl (lv_at hl 1 rfl) ?_
  refine lv_iload_n hx hb dX4_addPart_30 rfl (lv_at hl 0 rfl) ?_
  refine lv_sipush (v := (-10000)) hx hb dX4_addPart_31 (by decide) ?_
  refine lv_iconst (v := 0) hx hb dX4_addPart_34 (by decide) ?_
  refine k_av (wr := []) (w2 := [(p0, .inr (4, [.ref c0, .ref b0, .ref p1, .int (pt + 1), .int cl, .int cf, .int ar, .int co, .int ct])), (p1, .inl (g 0, 80, .inl (f_X4_chainTo (f_X4_setNumber (f_X4_setNumber num pt 0 factor) pt 1 more) pt (-10000) 0)))]) (va_runV (As := [.int pt, .int (-10000), .int 0]) (rest := []) ⟨hx, hb, hml, hown, hts⟩ (c_X4_chainTo l D g p0 c0 b0 p1 H.size (pt + 1) cl cf ar co ct (f_X4_setNumber (f_X4_setNumber num pt 0 factor) pt 1 more) pt (-10000) 0) (cwV 3 hts gX4_addPart_X4_chainTo rfl rfl rfl (by decide +kernel) (k_lvl (by omega) (by decide))) (kPV hP hD hK hS hA hE [0, 1] rfl (by decide) 0 4 rfl rfl rfl) rfl rfl hl.1 rfl (lv_room (Nat.le_of_ble_eq_true rfl)) dX4_addPart_35 ⟨Nat.le_of_ble_eq_true rfl, Nat.le_of_ble_eq_true rfl⟩) hP hD hS hA [0, 1] [] [0, 1] rfl rfl (by decide) (by decide) rfl (by decide) (fun H locs hP hD hS => ?_)
  refine lv_aload_n hx hb dX4_addPart_38 rfl (lv_at hl 1 rfl) ?_
  refine lv_iload_n hx hb dX4_addPart_39 rfl (lv_at hl 0 rfl) ?_
  refine lv_sipush (v := (-10000)) hx hb dX4_addPart_40 (by decide) ?_
  refine k_av (wr := []) (w2 := [(p0, .inr (4, [.ref c0, .ref b0, .ref p1, .int (pt + 1), .int cl, .int cf, .int ar, .int co, .int ct])), (p1, .inl (g 0, 80, .inl (f_X4_setNet (f_X4_chainTo (f_X4_setNumber (f_X4_setNumber num pt 0 factor) pt 1 more) pt (-10000) 0) pt (-10000))))]) (va_runV (As := [.int pt, .int (-10000)]) (rest := []) ⟨hx, hb, hml, hown, hts⟩ (c_X4_setNet l D g p0 c0 b0 p1 H.size (pt + 1) cl cf ar co ct (f_X4_chainTo (f_X4_setNumber (f_X4_setNumber num pt 0 factor) pt 1 more) pt (-10000) 0) pt (-10000)) (cwV 2 hts gX4_addPart_X4_setNet rfl rfl rfl (by decide +kernel) (k_lvl (by omega) (by decide))) (kPV hP hD hK hS hA hE [0, 1] rfl (by decide) 0 4 rfl rfl rfl) rfl rfl hl.1 rfl (lv_room (Nat.le_of_ble_eq_true rfl)) dX4_addPart_43 ⟨Nat.le_of_ble_eq_true rfl, Nat.le_of_ble_eq_true rfl⟩) hP hD hS hA [0, 1] [] [0, 1] rfl rfl (by decide) (by decide) rfl (by decide) (fun H locs hP hD hS => ?_)
  refine lv_aload_n hx hb dX4_addPart_46 rfl (lv_at hl 1 rfl) ?_
  refine lv_iload_n hx hb dX4_addPart_47 rfl (lv_at hl 0 rfl) ?_
  refine lv_iconst (v := 5) hx hb dX4_addPart_48 (by decide) ?_
  refine lv_iconst (v := 0) hx hb dX4_addPart_49 (by decide) ?_
  refine k_av (wr := []) (w2 := [(p0, .inr (4, [.ref c0, .ref b0, .ref p1, .int (pt + 1), .int cl, .int cf, .int ar, .int co, .int ct])), (p1, .inl (g 0, 80, .inl (f_X4_setNumber (f_X4_setNet (f_X4_chainTo (f_X4_setNumber (f_X4_setNumber num pt 0 factor) pt 1 more) pt (-10000) 0) pt (-10000)) pt 5 0)))]) (va_runV (As := [.int pt, .int 5, .int 0]) (rest := []) ⟨hx, hb, hml, hown, hts⟩ (c_X4_setNumber l D g p0 c0 b0 p1 H.size (pt + 1) cl cf ar co ct (f_X4_setNet (f_X4_chainTo (f_X4_setNumber (f_X4_setNumber num pt 0 factor) pt 1 more) pt (-10000) 0) pt (-10000)) pt 5 0 (by omega)) (cwV 3 hts gX4_addPart_X4_setNumber rfl rfl rfl (by decide +kernel) (k_lvl (by omega) (by decide))) (kPV hP hD hK hS hA hE [0, 1] rfl (by decide) 0 4 rfl rfl rfl) rfl rfl hl.1 rfl (lv_room (Nat.le_of_ble_eq_true rfl)) dX4_addPart_50 ⟨Nat.le_of_ble_eq_true rfl, Nat.le_of_ble_eq_true rfl⟩) hP hD hS hA [0, 1] [] [0, 1] rfl rfl (by decide) (by decide) rfl (by decide) (fun H locs hP hD hS => ?_)
  refine lv_aload_n hx hb dX4_addPart_53 rfl (lv_at hl 1 rfl) ?_
  refine lv_iload_n hx hb dX4_addPart_54 rfl (lv_at hl 0 rfl) ?_
  refine lv_bipush (v := 6) hx hb dX4_addPart_55 (by decide) ?_
  refine lv_iconst (v := 0) hx hb dX4_addPart_57 (by decide) ?_
  refine k_av (wr := []) (w2 := [(p0, .inr (4, [.ref c0, .ref b0, .ref p1, .int (pt + 1), .int cl, .int cf, .int ar, .int co, .int ct])), (p1, .inl (g 0, 80, .inl (f_X4_setNumber (f_X4_setNumber (f_X4_setNet (f_X4_chainTo (f_X4_setNumber (f_X4_setNumber num pt 0 factor) pt 1 more) pt (-10000) 0) pt (-10000)) pt 5 0) pt 6 0)))]) (va_runV (As := [.int pt, .int 6, .int 0]) (rest := []) ⟨hx, hb, hml, hown, hts⟩ (c_X4_setNumber l D g p0 c0 b0 p1 H.size (pt + 1) cl cf ar co ct (f_X4_setNumber (f_X4_setNet (f_X4_chainTo (f_X4_setNumber (f_X4_setNumber num pt 0 factor) pt 1 more) pt (-10000) 0) pt (-10000)) pt 5 0) pt 6 0 (by omega)) (cwV 3 hts gX4_addPart_X4_setNumber rfl rfl rfl (by decide +kernel) (k_lvl (by omega) (by decide))) (kPV hP hD hK hS hA hE [0, 1] rfl (by decide) 0 4 rfl rfl rfl) rfl rfl hl.1 rfl (lv_room (Nat.le_of_ble_eq_true rfl)) dX4_addPart_58 ⟨Nat.le_of_ble_eq_true rfl, Nat.le_of_ble_eq_true rfl⟩) hP hD hS hA [0, 1] [] [0, 1] rfl rfl (by decide) (by decide) rfl (by decide) (fun H locs hP hD hS => ?_)
  refine lv_aload_n hx hb dX4_addPart_61 rfl (lv_at hl 1 rfl) ?_
  refine lv_iload_n hx hb dX4_addPart_62 rfl (lv_at hl 0 rfl) ?_
  refine lv_bipush (v := 7) hx hb dX4_addPart_63 (by decide) ?_
  refine lv_iconst (v := 0) hx hb dX4_addPart_65 (by decide) ?_
  refine k_av (wr := []) (w2 := [(p0, .inr (4, [.ref c0, .ref b0, .ref p1, .int (pt + 1), .int cl, .int cf, .int ar, .int co, .int ct])), (p1, .inl (g 0, 80, .inl (f_X4_setNumber (f_X4_setNumber (f_X4_setNumber (f_X4_setNet (f_X4_chainTo (f_X4_setNumber (f_X4_setNumber num pt 0 factor) pt 1 more) pt (-10000) 0) pt (-10000)) pt 5 0) pt 6 0) pt 7 0)))]) (va_runV (As := [.int pt, .int 7, .int 0]) (rest := []) ⟨hx, hb, hml, hown, hts⟩ (c_X4_setNumber l D g p0 c0 b0 p1 H.size (pt + 1) cl cf ar co ct (f_X4_setNumber (f_X4_setNumber (f_X4_setNet (f_X4_chainTo (f_X4_setNumber (f_X4_setNumber num pt 0 factor) pt 1 more) pt (-10000) 0) pt (-10000)) pt 5 0) pt 6 0) pt 7 0 (by omega)) (cwV 3 hts gX4_addPart_X4_setNumber rfl rfl rfl (by decide +kernel) (k_lvl (by omega) (by decide))) (kPV hP hD hK hS hA hE [0, 1] rfl (by decide) 0 4 rfl rfl rfl) rfl rfl hl.1 rfl (lv_room (Nat.le_of_ble_eq_true rfl)) dX4_addPart_66 ⟨Nat.le_of_ble_eq_true rfl, Nat.le_of_ble_eq_true rfl⟩) hP hD hS hA [0, 1] [] [0, 1] rfl rfl (by decide) (by decide) rfl (by decide) (fun H locs hP hD hS => ?_)
  have hE2 : (f_X4_addPart pt num factor more) = ((pt + 1), (f_X4_setNumber (f_X4_setNumber (f_X4_setNumber (f_X4_setNet (f_X4_chainTo (f_X4_setNumber (f_X4_setNumber num pt 0 factor) pt 1 more) pt (-10000) 0) pt (-10000)) pt 5 0) pt 6 0) pt 7 0)) := by
    exact rfl
  subst hQ
  exact k_rv hx hb hr hlocks hP hD hS dX4_addPart_69 (by rw [hE2])
/-- how long a chain is, from what it goes on with -/
def cLen (num : Nat → Int32) : Nat → Int32 → Int32
  | 0, _ => 10
  | f + 1, nx => if nx = -10000 then nI (9 - f) else cLen num f (f_X4_ofPart num nx 2)
theorem cLen_none (num : Nat → Int32) {k : Nat} (h : k ≤ 10) : cLen num (10 - k) (-10000) = nI k := by
  by_cases h1 : k = 10
  · subst h1; rfl
  · obtain ⟨f, e⟩ : ∃ f, 10 - k = f + 1 := ⟨9 - k, by omega⟩
    rw [e, cLen, if_pos rfl]
    congr 1
    omega
theorem cLen_step (num : Nat → Int32) {k : Nat} {nx : Int32} (h : k < 10) (h2 : ¬ nx = -10000) : cLen num (10 - (k + 1)) (f_X4_ofPart num nx 2) = cLen num (10 - k) nx := by
  obtain ⟨f, e⟩ : ∃ f, 10 - k = f + 1 := ⟨9 - k, by omega⟩
  rw [e, show 10 - (k + 1) = f by omega, cLen, if_neg h2]
set_option maxHeartbeats 4000000 in
set_option maxRecDepth 100000 in
theorem c_X4_chainLength (l : Launch) (D : va_G) (g : Nat → Nat) (p0 c0 b0 p1 : Nat) (sz : Nat) (pt : Int32) (cl : Int32) (cf : Int32) (ar : Int32) (co : Int32) (ct : Int32) (num : Nat → Int32) (pa : Int32) : kMi l D g yX4_chainLength wsX4_chainLength 2 0 0 [.ref p0, .int pa] [(p0, .inr (4, [.ref c0, .ref b0, .ref p1, .int pt, .int cl, .int cf, .int ar, .int co, .int ct])), (p1, .inl (g 0, 80, .inl num))] sz (cLen num 9 (f_X4_ofPart num pa 2)) [(p0, .inr (4, [.ref c0, .ref b0, .ref p1, .int pt, .int cl, .int cf, .int ar, .int co, .int ct])), (p1, .inl (g 0, 80, .inl num))] := by
  refine k_enter (nm := "chainLength") (own := RX4) (bytes := cX4_chainLength) (maxL := 4) (ret := (some .int)) (Qf := fun A => kQi D [(p0, .inr (4, [.ref c0, .ref b0, .ref p1, .int pt, .int cl, .int cf, .int ar, .int co, .int ct])), (p1, .inl (g 0, 80, .inl num))] A (cLen num 9 (f_X4_ofPart num pa 2))) (by decide) rfl rfl rfl (Nat.le_of_ble_eq_true rfl) ?_
  rintro pp ee s mm below meth cc A ls args Q H locs hQ ⟨hx, hb, hr, hml, hown, hts, hlocks, hin⟩ hP hK hD hA hS hE hl
  have hl : lv_has ls 4 [(0, .ref p0), (1, .int pa)] := hl
  refine lv_iconst (v := 1) hx hb dX4_chainLength_0 (by decide) ?_
  refine lv_istore_n (lv' := [(2, .int 1), (0, .ref p0), (1, .int pa)]) hx hb dX4_chainLength_1 rfl hl (by decide) rfl (fun ls hl => ?_)
  refine lv_aload_n hx hb dX4_chainLength_2 rfl (lv_at hl 1 rfl) ?_
  refine lv_iload_n hx hb dX4_chainLength_3 rfl (lv_at hl 2 rfl) ?_
  refine lv_iconst (v := 2) hx hb dX4_chainLength_4 (by decide) ?_
  refine k_ai (wr := []) (w2 := [(p0, .inr (4, [.ref c0, .ref b0, .ref p1, .int pt, .int cl, .int cf, .int ar, .int co, .int ct])), (p1, .inl (g 0, 80, .inl num))]) (va_runV (As := [.int pa, .int 2]) (rest := []) ⟨hx, hb, hml, hown, hts⟩ (c_X4_ofPart l D g p0 c0 b0 p1 H.size pt cl cf ar co ct num pa 2 (by omega)) (cwV 2 hts gX4_chainLength_X4_ofPart rfl rfl rfl (by decide +kernel) (k_lvl (by omega) (by decide))) (kPV hP hD hK hS hA hE [0, 1] rfl (by decide) 0 4 rfl rfl rfl) rfl rfl hl.1 rfl (lv_room (Nat.le_of_ble_eq_true rfl)) dX4_chainLength_5 ⟨Nat.le_of_ble_eq_true rfl, Nat.le_of_ble_eq_true rfl⟩) hP hD hS hA [0, 1] [] [0, 1] rfl rfl (by decide) (by decide) rfl (by decide) (fun H locs hP hD hS => ?_)
  refine lv_istore_n (lv' := [(3, .int (f_X4_ofPart num pa 2)), (2, .int 1), (0, .ref p0), (1, .int pa)]) hx hb dX4_chainLength_8 rfl hl (by decide) rfl (fun ls hl => ?_)
  have hloop_9 : ∀ (nn_9 : Nat) (k : Nat) (nx : Int32), 10 - k < nn_9 → ∀ (hk : k ≤ 10) (hr9 : cLen num (10 - k) nx = cLen num 9 (f_X4_ofPart num pa 2)) (H : Heap) (locs : List Loc) (ls : Array Slot), va_P D vwCl [(p0, .inr (4, [.ref c0, .ref b0, .ref p1, .int pt, .int cl, .int cf, .int ar, .int co, .int ct])), (p1, .inl (g 0, 80, .inl num))] H → va_D A [(p0, .inr (4, [.ref c0, .ref b0, .ref p1, .int pt, .int cl, .int cf, .int ar, .int co, .int ct])), (p1, .inl (g 0, 80, .inl num))] → va_S A s.heap H locs → lv_has ls 4 [(3, .int nx), (2, .int (nI k)), (0, .ref p0), (1, .int pa)] → W pp l ee (kR 2 0 0) s mm args below meth cc H locs 0 0 Q (F0 mm 9 ls []) := by
    intro nn_9
    induction nn_9 with
    | zero => intro k nx hm9; exact absurd hm9 (Nat.not_lt_zero _)
    | succ nn_9 ih_9 =>
      intro k nx hm_9 hk hr9 H locs ls hP hD hS hl
      refine lv_iload_n hx hb dX4_chainLength_9 rfl (lv_at hl 0 rfl) ?_
      refine lv_sipush (v := (-10000)) hx hb dX4_chainLength_10 (by decide) ?_
      refine lv_icmp_eq (tgt := 35) hx hb dX4_chainLength_13 (by decide) (fun c_1 => ?_) (fun c_1 => ?_)
      · refine lv_iload_n hx hb dX4_chainLength_35 rfl (lv_at hl 1 rfl) ?_
        subst hQ
        exact k_ri hx hb hr hlocks hP hD hS dX4_chainLength_36 (by rw [← hr9, c_1, cLen_none _ (by omega)]) (rfl)
      · refine lv_iload_n hx hb dX4_chainLength_16 rfl (lv_at hl 1 rfl) ?_
        refine lv_bipush (v := 10) hx hb dX4_chainLength_17 (by decide) ?_
        refine lv_icmp_ge (tgt := 35) hx hb dX4_chainLength_19 (by decide) (fun c_2 => ?_) (fun c_2 => ?_)
        · have c_2 : 10 ≤ k := (nI_leI (a := 10) (b := k) (by omega) (by omega)).mp c_2
          refine lv_iload_n hx hb dX4_chainLength_35 rfl (lv_at hl 1 rfl) ?_
          subst hQ
          exact k_ri hx hb hr hlocks hP hD hS dX4_chainLength_36 (by rw [← hr9, show k = 10 by omega]; rfl) (rfl)
        · have c_2 : ¬ (10 ≤ k) := fun h9 => c_2 ((nI_leI (a := 10) (b := k) (by omega) (by omega)).mpr h9)
          refine lv_iinc (v := (nI (k + 1))) (lv' := [(2, .int (nI (k + 1))), (3, .int nx), (0, .ref p0), (1, .int pa)]) hx hb dX4_chainLength_22 hl (k := 1) rfl (nI_1 _) (by decide) rfl (fun ls hl => ?_)
          refine lv_aload_n hx hb dX4_chainLength_25 rfl (lv_at hl 2 rfl) ?_
          refine lv_iload_n hx hb dX4_chainLength_26 rfl (lv_at hl 1 rfl) ?_
          refine lv_iconst (v := 2) hx hb dX4_chainLength_27 (by decide) ?_
          refine k_ai (wr := []) (w2 := [(p0, .inr (4, [.ref c0, .ref b0, .ref p1, .int pt, .int cl, .int cf, .int ar, .int co, .int ct])), (p1, .inl (g 0, 80, .inl num))]) (va_runV (As := [.int nx, .int 2]) (rest := []) ⟨hx, hb, hml, hown, hts⟩ (c_X4_ofPart l D g p0 c0 b0 p1 H.size pt cl cf ar co ct num nx 2 (by omega)) (cwV 2 hts gX4_chainLength_X4_ofPart rfl rfl rfl (by decide +kernel) (k_lvl (by omega) (by decide))) (kPV hP hD hK hS hA hE [0, 1] rfl (by decide) 0 4 rfl rfl rfl) rfl rfl hl.1 rfl (lv_room (Nat.le_of_ble_eq_true rfl)) dX4_chainLength_28 ⟨Nat.le_of_ble_eq_true rfl, Nat.le_of_ble_eq_true rfl⟩) hP hD hS hA [0, 1] [] [0, 1] rfl rfl (by decide) (by decide) rfl (by decide) (fun H locs hP hD hS => ?_)
          refine lv_istore_n (lv' := [(3, .int (f_X4_ofPart num nx 2)), (2, .int (nI (k + 1))), (0, .ref p0), (1, .int pa)]) hx hb dX4_chainLength_31 rfl hl (by decide) rfl (fun ls hl => ?_)
          refine lv_goto (tgt := 9) hx hb dX4_chainLength_32 (by decide) ?_
          exact ih_9 (k + 1) (f_X4_ofPart num nx 2) (by omega) (by omega) (by rw [cLen_step _ (by omega) c_1, hr9]) H locs ls hP hD hS (lv_sub hl [0, 1, 2, 3] rfl)
  exact hloop_9 ((10 - 1) + 1) 1 (f_X4_ofPart num pa 2) (Nat.lt_succ_self _) (by omega) rfl H locs ls hP hD hS (lv_sub hl [0, 1, 2, 3] rfl)
def f_X4_afterBlame (ct : Int32) (num : Nat → Int32) (blm : Nat → Int32) (pa : Int32) : Int32 × Int32 × (Nat → Int32) × (Nat → Int32) :=
  if (f_X4_ofPart num pa 4) = (-10000) then
    ((f_X4_ofPart num pa 4), ct, num, (f_X0_goHigher blm))
  else
    ((f_X4_ofPart num pa 4), (ct + 1), (f_X4_countOne num pa 7), (f_X0_markCaught blm))
theorem qX4_afterBlame_0 : Cond.fieldLink RX4 21 "BlameChains$Plan" "blames" "LBlameChains$Blames;" ∈ wsX4_afterBlame := (List.mem_cons_of_mem _ (List.mem_append_left _ (List.mem_append_left _ (List.mem_of_getElem? (i := 0) rfl))))
theorem qX4_afterBlame_1 : Cond.fieldLink RX4 51 "BlameChains$Plan" "caught" "I" ∈ wsX4_afterBlame := (List.mem_cons_of_mem _ (List.mem_append_left _ (List.mem_append_left _ (List.mem_of_getElem? (i := 1) rfl))))
set_option maxHeartbeats 4000000 in
set_option maxRecDepth 100000 in
theorem c_X4_afterBlame (l : Launch) (D : va_G) (g : Nat → Nat) (p0 c0 b0 p1 c1 b1 : Nat) (sz : Nat) (pt : Int32) (cl : Int32) (cf : Int32) (ar : Int32) (co : Int32) (ct : Int32) (num : Nat → Int32) (bnd : Nat → Int32) (kp : Int32) (blm : Nat → Int32) (pa : Int32) : kMi l D g yX4_afterBlame wsX4_afterBlame 2 0 0 [.ref p0, .int pa] [(p0, .inr (4, [.ref c0, .ref b0, .ref p1, .int pt, .int cl, .int cf, .int ar, .int co, .int ct])), (p1, .inl (g 0, 80, .inl num)), (c0, .inr (1, [.ref c1])), (c1, .inl (g 0, 480, .inl bnd)), (b0, .inr (0, [.ref b1, .int kp])), (b1, .inl (g 0, 60, .inl blm))] sz ((f_X4_afterBlame ct num blm pa).1) [(p0, .inr (4, [.ref c0, .ref b0, .ref p1, .int pt, .int cl, .int cf, .int ar, .int co, .int ((f_X4_afterBlame ct num blm pa).2.1)])), (p1, .inl (g 0, 80, .inl ((f_X4_afterBlame ct num blm pa).2.2.1))), (c0, .inr (1, [.ref c1])), (c1, .inl (g 0, 480, .inl bnd)), (b0, .inr (0, [.ref b1, .int kp])), (b1, .inl (g 0, 60, .inl ((f_X4_afterBlame ct num blm pa).2.2.2)))] := by
  refine k_enter (nm := "afterBlame") (own := RX4) (bytes := cX4_afterBlame) (maxL := 3) (ret := (some .int)) (Qf := fun A => kQi D [(p0, .inr (4, [.ref c0, .ref b0, .ref p1, .int pt, .int cl, .int cf, .int ar, .int co, .int ((f_X4_afterBlame ct num blm pa).2.1)])), (p1, .inl (g 0, 80, .inl ((f_X4_afterBlame ct num blm pa).2.2.1))), (c0, .inr (1, [.ref c1])), (c1, .inl (g 0, 480, .inl bnd)), (b0, .inr (0, [.ref b1, .int kp])), (b1, .inl (g 0, 60, .inl ((f_X4_afterBlame ct num blm pa).2.2.2)))] A ((f_X4_afterBlame ct num blm pa).1)) (by decide) rfl rfl rfl (Nat.le_of_ble_eq_true rfl) ?_
  rintro pp ee s mm below meth cc A ls args Q H locs hQ ⟨hx, hb, hr, hml, hown, hts, hlocks, hin⟩ hP hK hD hA hS hE hl
  have hl : lv_has ls 3 [(0, .ref p0), (1, .int pa)] := hl
  refine lv_aload_n hx hb dX4_afterBlame_0 rfl (lv_at hl 0 rfl) ?_
  refine lv_iload_n hx hb dX4_afterBlame_1 rfl (lv_at hl 1 rfl) ?_
  refine lv_iconst (v := 4) hx hb dX4_afterBlame_2 (by decide) ?_
  refine k_ai (wr := [(c0, .inr (1, [.ref c1])), (c1, .inl (g 0, 480, .inl bnd)), (b0, .inr (0, [.ref b1, .int kp])), (b1, .inl (g 0, 60, .inl blm))]) (w2 := [(p0, .inr (4, [.ref c0, .ref b0, .ref p1, .int pt, .int cl, .int cf, .int ar, .int co, .int ct])), (p1, .inl (g 0, 80, .inl num)), (c0, .inr (1, [.ref c1])), (c1, .inl (g 0, 480, .inl bnd)), (b0, .inr (0, [.ref b1, .int kp])), (b1, .inl (g 0, 60, .inl blm))]) (va_runV (As := [.int pa, .int 4]) (rest := []) ⟨hx, hb, hml, hown, hts⟩ (c_X4_ofPart l D g p0 c0 b0 p1 H.size pt cl cf ar co ct num pa 4 (by omega)) (cwV 2 hts gX4_afterBlame_X4_ofPart rfl rfl rfl (by decide +kernel) (k_lvl (by omega) (by decide))) (kPV hP hD hK hS hA hE [0, 1] rfl (by decide) 0 4 rfl rfl rfl) rfl rfl hl.1 rfl (lv_room (Nat.le_of_ble_eq_true rfl)) dX4_afterBlame_3 ⟨Nat.le_of_ble_eq_true rfl, Nat.le_of_ble_eq_true rfl⟩) hP hD hS hA [0, 1] [2, 3, 4, 5] [4, 5, 0, 1, 2, 3] rfl rfl (by decide) (by decide) rfl (by decide) (fun H locs hP hD hS => ?_)
  refine lv_istore_n (lv' := [(2, .int (f_X4_ofPart num pa 4)), (0, .ref p0), (1, .int pa)]) hx hb dX4_afterBlame_6 rfl hl (by decide) rfl (fun ls hl => ?_)
  refine lv_iload_n hx hb dX4_afterBlame_7 rfl (lv_at hl 0 rfl) ?_
  refine lv_sipush (v := (-10000)) hx hb dX4_afterBlame_8 (by decide) ?_
  refine lv_icmp_ne (tgt := 24) hx hb dX4_afterBlame_11 (by decide) (fun c_1 => ?_) (fun c_1 => ?_)
  · refine lv_aload_n hx hb dX4_afterBlame_24 rfl (lv_at hl 1 rfl) ?_
    refine va_get (D := D) (ci := 4) (v := .ref b0) (C := RX4) (T := TX4) (N := 9) hx hb hts (fun w h => (List.mem_cons_of_mem _ (List.mem_append_left _ (List.mem_append_right _ h)))) hown hK hP 0 rfl rfl 1 (by decide) (hts _ qX4_afterBlame_0) (fun _ h9 => h9) rfl dX4_afterBlame_25 ?_
    refine k_av (wr := [(p0, .inr (4, [.ref c0, .ref b0, .ref p1, .int pt, .int cl, .int cf, .int ar, .int co, .int ct])), (p1, .inl (g 0, 80, .inl num)), (c0, .inr (1, [.ref c1])), (c1, .inl (g 0, 480, .inl bnd))]) (w2 := [(p0, .inr (4, [.ref c0, .ref b0, .ref p1, .int pt, .int cl, .int cf, .int ar, .int co, .int ct])), (p1, .inl (g 0, 80, .inl num)), (c0, .inr (1, [.ref c1])), (c1, .inl (g 0, 480, .inl bnd)), (b0, .inr (0, [.ref b1, .int kp])), (b1, .inl (g 0, 60, .inl (f_X0_markCaught blm)))]) (va_runV (As := []) (rest := []) ⟨hx, hb, hml, hown, hts⟩ (c_X0_markCaught l D g b0 b1 H.size kp blm) (cwV 0 hts gX4_afterBlame_X0_markCaught rfl rfl rfl (by decide +kernel) (k_lvl (by omega) (by decide))) (kPV hP hD hK hS hA hE [4, 5] rfl (by decide) 4 0 rfl rfl rfl) rfl rfl hl.1 rfl (lv_room (Nat.le_of_ble_eq_true rfl)) dX4_afterBlame_28 ⟨Nat.le_of_ble_eq_true rfl, Nat.le_of_ble_eq_true rfl⟩) hP hD hS hA [4, 5] [0, 1, 2, 3] [0, 1, 2, 3, 4, 5] rfl rfl (by decide) (by decide) rfl (by decide) (fun H locs hP hD hS => ?_)
    refine lv_aload_n hx hb dX4_afterBlame_31 rfl (lv_at hl 1 rfl) ?_
    refine lv_iload_n hx hb dX4_afterBlame_32 rfl (lv_at hl 2 rfl) ?_
    refine lv_bipush (v := 7) hx hb dX4_afterBlame_33 (by decide) ?_
    refine k_av (wr := [(c0, .inr (1, [.ref c1])), (c1, .inl (g 0, 480, .inl bnd)), (b0, .inr (0, [.ref b1, .int kp])), (b1, .inl (g 0, 60, .inl (f_X0_markCaught blm)))]) (w2 := [(p0, .inr (4, [.ref c0, .ref b0, .ref p1, .int pt, .int cl, .int cf, .int ar, .int co, .int ct])), (p1, .inl (g 0, 80, .inl (f_X4_countOne num pa 7))), (c0, .inr (1, [.ref c1])), (c1, .inl (g 0, 480, .inl bnd)), (b0, .inr (0, [.ref b1, .int kp])), (b1, .inl (g 0, 60, .inl (f_X0_markCaught blm)))]) (va_runV (As := [.int pa, .int 7]) (rest := []) ⟨hx, hb, hml, hown, hts⟩ (c_X4_countOne l D g p0 c0 b0 p1 H.size pt cl cf ar co ct num pa 7 (by omega)) (cwV 2 hts gX4_afterBlame_X4_countOne rfl rfl rfl (by decide +kernel) (k_lvl (by omega) (by decide))) (kPV hP hD hK hS hA hE [0, 1] rfl (by decide) 0 4 rfl rfl rfl) rfl rfl hl.1 rfl (lv_room (Nat.le_of_ble_eq_true rfl)) dX4_afterBlame_35 ⟨Nat.le_of_ble_eq_true rfl, Nat.le_of_ble_eq_true rfl⟩) hP hD hS hA [0, 1] [2, 3, 4, 5] [4, 5, 0, 1, 2, 3] rfl rfl (by decide) (by decide) rfl (by decide) (fun H locs hP hD hS => ?_)
    refine lv_aload_n hx hb dX4_afterBlame_38 rfl (lv_at hl 1 rfl) ?_
    refine lv_dup hx hb dX4_afterBlame_39 rfl ?_
    refine va_get (D := D) (ci := 4) (v := .int ct) (C := RX4) (T := TX4) (N := 9) hx hb hts (fun w h => (List.mem_cons_of_mem _ (List.mem_append_left _ (List.mem_append_right _ h)))) hown hK hP 0 rfl rfl 8 (by decide) (hts _ qX4_afterBlame_1) (fun _ h9 => h9) rfl dX4_afterBlame_40 ?_
    refine lv_iconst (v := 1) hx hb dX4_afterBlame_43 (by decide) ?_
    refine lv_iadd hx hb dX4_afterBlame_44 ?_
    refine va_put (D := D) (ci := 4) (v := .int (ct + 1)) (ty := .int) (C := RX4) (T := TX4) (N := 9) hx hb hts (fun w h => (List.mem_cons_of_mem _ (List.mem_append_left _ (List.mem_append_right _ h)))) tyX4 tyX4_ok nmX4 hown hK hP hD hS 0 rfl rfl 8 (by decide) (hts _ qX4_afterBlame_1) (fun _ h9 => h9) rfl (by decide +kernel) rfl rfl (Nat.le_of_ble_eq_true rfl) dX4_afterBlame_45 (fun H locs hP hD hS => ?_)
    have hP : va_P D vwCl [(p0, .inr (4, [.ref c0, .ref b0, .ref p1, .int pt, .int cl, .int cf, .int ar, .int co, .int (ct + 1)])), (p1, .inl (g 0, 80, .inl (f_X4_countOne num pa 7))), (c0, .inr (1, [.ref c1])), (c1, .inl (g 0, 480, .inl bnd)), (b0, .inr (0, [.ref b1, .int kp])), (b1, .inl (g 0, 60, .inl (f_X0_markCaught blm)))] H := hP
    have hD : va_D A [(p0, .inr (4, [.ref c0, .ref b0, .ref p1, .int pt, .int cl, .int cf, .int ar, .int co, .int (ct + 1)])), (p1, .inl (g 0, 80, .inl (f_X4_countOne num pa 7))), (c0, .inr (1, [.ref c1])), (c1, .inl (g 0, 480, .inl bnd)), (b0, .inr (0, [.ref b1, .int kp])), (b1, .inl (g 0, 60, .inl (f_X0_markCaught blm)))] := hD
    refine lv_iload_n hx hb dX4_afterBlame_48 rfl (lv_at hl 0 rfl) ?_
    have hE2 : (f_X4_afterBlame ct num blm pa) = ((f_X4_ofPart num pa 4), (ct + 1), (f_X4_countOne num pa 7), (f_X0_markCaught blm)) := by
      exact (if_neg c_1).trans (rfl)
    subst hQ
    exact k_ri hx hb hr hlocks hP hD hS dX4_afterBlame_49 (by rw [hE2]) (by rw [hE2])
  · refine lv_aload_n hx hb dX4_afterBlame_14 rfl (lv_at hl 1 rfl) ?_
    refine va_get (D := D) (ci := 4) (v := .ref b0) (C := RX4) (T := TX4) (N := 9) hx hb hts (fun w h => (List.mem_cons_of_mem _ (List.mem_append_left _ (List.mem_append_right _ h)))) hown hK hP 0 rfl rfl 1 (by decide) (hts _ qX4_afterBlame_0) (fun _ h9 => h9) rfl dX4_afterBlame_15 ?_
    refine k_av (wr := [(p0, .inr (4, [.ref c0, .ref b0, .ref p1, .int pt, .int cl, .int cf, .int ar, .int co, .int ct])), (p1, .inl (g 0, 80, .inl num)), (c0, .inr (1, [.ref c1])), (c1, .inl (g 0, 480, .inl bnd))]) (w2 := [(p0, .inr (4, [.ref c0, .ref b0, .ref p1, .int pt, .int cl, .int cf, .int ar, .int co, .int ct])), (p1, .inl (g 0, 80, .inl num)), (c0, .inr (1, [.ref c1])), (c1, .inl (g 0, 480, .inl bnd)), (b0, .inr (0, [.ref b1, .int kp])), (b1, .inl (g 0, 60, .inl (f_X0_goHigher blm)))]) (va_runV (As := []) (rest := []) ⟨hx, hb, hml, hown, hts⟩ (c_X0_goHigher l D g b0 b1 H.size kp blm) (cwV 0 hts gX4_afterBlame_X0_goHigher rfl rfl rfl (by decide +kernel) (k_lvl (by omega) (by decide))) (kPV hP hD hK hS hA hE [4, 5] rfl (by decide) 4 0 rfl rfl rfl) rfl rfl hl.1 rfl (lv_room (Nat.le_of_ble_eq_true rfl)) dX4_afterBlame_18 ⟨Nat.le_of_ble_eq_true rfl, Nat.le_of_ble_eq_true rfl⟩) hP hD hS hA [4, 5] [0, 1, 2, 3] [0, 1, 2, 3, 4, 5] rfl rfl (by decide) (by decide) rfl (by decide) (fun H locs hP hD hS => ?_)
    refine lv_goto (tgt := 48) hx hb dX4_afterBlame_21 (by decide) ?_
    refine lv_iload_n hx hb dX4_afterBlame_48 rfl (lv_at hl 0 rfl) ?_
    have hE2 : (f_X4_afterBlame ct num blm pa) = ((f_X4_ofPart num pa 4), ct, num, (f_X0_goHigher blm)) := by
      exact (if_pos c_1).trans (rfl)
    subst hQ
    exact k_ri hx hb hr hlocks hP hD hS dX4_afterBlame_49 (by rw [hE2]) (by rw [hE2])
def f_X4_accuse (ar : Int32) (num : Nat → Int32) (kp : Int32) (blm : Nat → Int32) (kind : Int32) (caller : Int32) (pa : Int32) (nb : Int32) : Int32 × Int32 × (Nat → Int32) × Int32 × (Nat → Int32) :=
  if (f_X0_blamedPart kind caller pa) = (-10000) then
    ((-10000), (ar + 1), num, (f_X0_arise kp blm kind caller pa nb).1, (f_X0_arise kp blm kind caller pa nb).2)
  else
    ((-10000), (ar + 1), (f_X4_countOne num (f_X0_blamedPart kind caller pa) 6), (f_X0_arise kp blm kind caller pa nb).1, (f_X0_arise kp blm kind caller pa nb).2)
theorem qX4_accuse_0 : Cond.fieldLink RX4 45 "BlameChains$Plan" "arisen" "I" ∈ wsX4_accuse := (List.mem_cons_of_mem _ (List.mem_append_left _ (List.mem_append_left _ (List.mem_append_left _ (List.mem_of_getElem? (i := 0) rfl)))))
theorem qX4_accuse_1 : Cond.fieldLink RX4 21 "BlameChains$Plan" "blames" "LBlameChains$Blames;" ∈ wsX4_accuse := (List.mem_cons_of_mem _ (List.mem_append_left _ (List.mem_append_left _ (List.mem_append_left _ (List.mem_of_getElem? (i := 1) rfl)))))
set_option maxHeartbeats 4000000 in
set_option maxRecDepth 100000 in
theorem c_X4_accuse (l : Launch) (D : va_G) (g : Nat → Nat) (p0 c0 b0 p1 c1 b1 : Nat) (sz : Nat) (pt : Int32) (cl : Int32) (cf : Int32) (ar : Int32) (co : Int32) (ct : Int32) (num : Nat → Int32) (bnd : Nat → Int32) (kp : Int32) (blm : Nat → Int32) (kind : Int32) (caller : Int32) (pa : Int32) (nb : Int32) : kMi l D g yX4_accuse wsX4_accuse 2 0 0 [.ref p0, .int kind, .int caller, .int pa, .int nb] [(p0, .inr (4, [.ref c0, .ref b0, .ref p1, .int pt, .int cl, .int cf, .int ar, .int co, .int ct])), (p1, .inl (g 0, 80, .inl num)), (c0, .inr (1, [.ref c1])), (c1, .inl (g 0, 480, .inl bnd)), (b0, .inr (0, [.ref b1, .int kp])), (b1, .inl (g 0, 60, .inl blm))] sz ((f_X4_accuse ar num kp blm kind caller pa nb).1) [(p0, .inr (4, [.ref c0, .ref b0, .ref p1, .int pt, .int cl, .int cf, .int ((f_X4_accuse ar num kp blm kind caller pa nb).2.1), .int co, .int ct])), (p1, .inl (g 0, 80, .inl ((f_X4_accuse ar num kp blm kind caller pa nb).2.2.1))), (c0, .inr (1, [.ref c1])), (c1, .inl (g 0, 480, .inl bnd)), (b0, .inr (0, [.ref b1, .int ((f_X4_accuse ar num kp blm kind caller pa nb).2.2.2.1)])), (b1, .inl (g 0, 60, .inl ((f_X4_accuse ar num kp blm kind caller pa nb).2.2.2.2)))] := by
  refine k_enter (nm := "accuse") (own := RX4) (bytes := cX4_accuse) (maxL := 6) (ret := (some .int)) (Qf := fun A => kQi D [(p0, .inr (4, [.ref c0, .ref b0, .ref p1, .int pt, .int cl, .int cf, .int ((f_X4_accuse ar num kp blm kind caller pa nb).2.1), .int co, .int ct])), (p1, .inl (g 0, 80, .inl ((f_X4_accuse ar num kp blm kind caller pa nb).2.2.1))), (c0, .inr (1, [.ref c1])), (c1, .inl (g 0, 480, .inl bnd)), (b0, .inr (0, [.ref b1, .int ((f_X4_accuse ar num kp blm kind caller pa nb).2.2.2.1)])), (b1, .inl (g 0, 60, .inl ((f_X4_accuse ar num kp blm kind caller pa nb).2.2.2.2)))] A ((f_X4_accuse ar num kp blm kind caller pa nb).1)) (by decide) rfl rfl rfl (Nat.le_of_ble_eq_true rfl) ?_
  rintro pp ee s mm below meth cc A ls args Q H locs hQ ⟨hx, hb, hr, hml, hown, hts, hlocks, hin⟩ hP hK hD hA hS hE hl
  have hl : lv_has ls 6 [(0, .ref p0), (1, .int kind), (2, .int caller), (3, .int pa), (4, .int nb)] := hl
  refine lv_aload_n hx hb dX4_accuse_0 rfl (lv_at hl 0 rfl) ?_
  refine lv_dup hx hb dX4_accuse_1 rfl ?_
  refine va_get (D := D) (ci := 4) (v := .int ar) (C := RX4) (T := TX4) (N := 9) hx hb hts (fun w h => (List.mem_cons_of_mem _ (List.mem_append_left _ (List.mem_append_right _ h)))) hown hK hP 0 rfl rfl 6 (by decide) (hts _ qX4_accuse_0) (fun _ h9 => h9) rfl dX4_accuse_2 ?_
  refine lv_iconst (v := 1) hx hb dX4_accuse_5 (by decide) ?_
  refine lv_iadd hx hb dX4_accuse_6 ?_
  refine va_put (D := D) (ci := 4) (v := .int (ar + 1)) (ty := .int) (C := RX4) (T := TX4) (N := 9) hx hb hts (fun w h => (List.mem_cons_of_mem _ (List.mem_append_left _ (List.mem_append_right _ h)))) tyX4 tyX4_ok nmX4 hown hK hP hD hS 0 rfl rfl 6 (by decide) (hts _ qX4_accuse_0) (fun _ h9 => h9) rfl (by decide +kernel) rfl rfl (Nat.le_of_ble_eq_true rfl) dX4_accuse_7 (fun H locs hP hD hS => ?_)
  have hP : va_P D vwCl [(p0, .inr (4, [.ref c0, .ref b0, .ref p1, .int pt, .int cl, .int cf, .int (ar + 1), .int co, .int ct])), (p1, .inl (g 0, 80, .inl num)), (c0, .inr (1, [.ref c1])), (c1, .inl (g 0, 480, .inl bnd)), (b0, .inr (0, [.ref b1, .int kp])), (b1, .inl (g 0, 60, .inl blm))] H := hP
  have hD : va_D A [(p0, .inr (4, [.ref c0, .ref b0, .ref p1, .int pt, .int cl, .int cf, .int (ar + 1), .int co, .int ct])), (p1, .inl (g 0, 80, .inl num)), (c0, .inr (1, [.ref c1])), (c1, .inl (g 0, 480, .inl bnd)), (b0, .inr (0, [.ref b1, .int kp])), (b1, .inl (g 0, 60, .inl blm))] := hD
  refine lv_aload_n hx hb dX4_accuse_10 rfl (lv_at hl 0 rfl) ?_
  refine va_get (D := D) (ci := 4) (v := .ref b0) (C := RX4) (T := TX4) (N := 9) hx hb hts (fun w h => (List.mem_cons_of_mem _ (List.mem_append_left _ (List.mem_append_right _ h)))) hown hK hP 0 rfl rfl 1 (by decide) (hts _ qX4_accuse_1) (fun _ h9 => h9) rfl dX4_accuse_11 ?_
  refine lv_iload_n hx hb dX4_accuse_14 rfl (lv_at hl 1 rfl) ?_
  refine lv_iload_n hx hb dX4_accuse_15 rfl (lv_at hl 2 rfl) ?_
  refine lv_iload_n hx hb dX4_accuse_16 rfl (lv_at hl 3 rfl) ?_
  refine lv_iload hx hb dX4_accuse_17 (lv_at hl 4 rfl) ?_
  have hC := c_X0_arise l D g b0 b1 H.size kp blm kind caller pa nb
  obtain ⟨v_1, ev_1⟩ : ∃ z, z = (f_X0_arise kp blm kind caller pa nb) := ⟨_, rfl⟩
  rw [← ev_1] at hC
  refine k_av (wr := [(p0, .inr (4, [.ref c0, .ref b0, .ref p1, .int pt, .int cl, .int cf, .int (ar + 1), .int co, .int ct])), (p1, .inl (g 0, 80, .inl num)), (c0, .inr (1, [.ref c1])), (c1, .inl (g 0, 480, .inl bnd))]) (w2 := [(p0, .inr (4, [.ref c0, .ref b0, .ref p1, .int pt, .int cl, .int cf, .int (ar + 1), .int co, .int ct])), (p1, .inl (g 0, 80, .inl num)), (c0, .inr (1, [.ref c1])), (c1, .inl (g 0, 480, .inl bnd)), (b0, .inr (0, [.ref b1, .int v_1.1])), (b1, .inl (g 0, 60, .inl v_1.2))]) (va_runV (As := [.int kind, .int caller, .int pa, .int nb]) (rest := []) ⟨hx, hb, hml, hown, hts⟩ hC (cwV 4 hts gX4_accuse_X0_arise rfl rfl rfl (by decide +kernel) (k_lvl (by omega) (by decide))) (kPV hP hD hK hS hA hE [4, 5] rfl (by decide) 4 0 rfl rfl rfl) rfl rfl hl.1 rfl (lv_room (Nat.le_of_ble_eq_true rfl)) dX4_accuse_19 ⟨Nat.le_of_ble_eq_true rfl, Nat.le_of_ble_eq_true rfl⟩) hP hD hS hA [4, 5] [0, 1, 2, 3] [0, 1, 2, 3, 4, 5] rfl rfl (by decide) (by decide) rfl (by decide) (fun H locs hP hD hS => ?_)
  refine lv_iload_n hx hb dX4_accuse_22 rfl (lv_at hl 1 rfl) ?_
  refine lv_iload_n hx hb dX4_accuse_23 rfl (lv_at hl 2 rfl) ?_
  refine lv_iload_n hx hb dX4_accuse_24 rfl (lv_at hl 3 rfl) ?_
  refine k_ai (wr := [(p0, .inr (4, [.ref c0, .ref b0, .ref p1, .int pt, .int cl, .int cf, .int (ar + 1), .int co, .int ct])), (p1, .inl (g 0, 80, .inl num)), (c0, .inr (1, [.ref c1])), (c1, .inl (g 0, 480, .inl bnd)), (b0, .inr (0, [.ref b1, .int v_1.1])), (b1, .inl (g 0, 60, .inl v_1.2))]) (w2 := [(p0, .inr (4, [.ref c0, .ref b0, .ref p1, .int pt, .int cl, .int cf, .int (ar + 1), .int co, .int ct])), (p1, .inl (g 0, 80, .inl num)), (c0, .inr (1, [.ref c1])), (c1, .inl (g 0, 480, .inl bnd)), (b0, .inr (0, [.ref b1, .int v_1.1])), (b1, .inl (g 0, 60, .inl v_1.2))]) (va_runS (As := [.int kind, .int caller, .int pa]) (rest := []) ⟨hx, hb, hml, hown, hts⟩ (c_X0_blamedPart l D g H.size kind caller pa) (va_cwS 3 hts gX4_accuse_X0_blamedPart rfl rfl rfl (by decide +kernel) (k_lvl (by omega) (by decide))) (kPS hP hD hK hS hA hE [] rfl (by decide)) rfl rfl hl.1 rfl (lv_room (Nat.le_of_ble_eq_true rfl)) dX4_accuse_25 ⟨Nat.le_of_ble_eq_true rfl, Nat.le_of_ble_eq_true rfl⟩) hP hD hS hA [] [0, 1, 2, 3, 4, 5] [0, 1, 2, 3, 4, 5] rfl rfl (by decide) (by decide) rfl (by decide) (fun H locs hP hD hS => ?_)
  refine lv_istore (lv' := [(5, .int (f_X0_blamedPart kind caller pa)), (0, .ref p0), (1, .int kind), (2, .int caller), (3, .int pa), (4, .int nb)]) hx hb dX4_accuse_28 hl (by decide) rfl (fun ls hl => ?_)
  refine lv_iload hx hb dX4_accuse_30 (lv_at hl 0 rfl) ?_
  refine lv_sipush (v := (-10000)) hx hb dX4_accuse_32 (by decide) ?_
  refine lv_icmp_eq (tgt := 46) hx hb dX4_accuse_35 (by decide) (fun c_2 => ?_) (fun c_2 => ?_)
  · refine lv_sipush (v := (-10000)) hx hb dX4_accuse_46 (by decide) ?_
    have hE2 : (f_X4_accuse ar num kp blm kind caller pa nb) = ((-10000), (ar + 1), num, v_1.1, v_1.2) := by
      subst ev_1
      exact (if_pos c_2).trans (rfl)
    subst hQ
    exact k_ri hx hb hr hlocks hP hD hS dX4_accuse_49 (by rw [hE2]) (by rw [hE2])
  · refine lv_aload_n hx hb dX4_accuse_38 rfl (lv_at hl 1 rfl) ?_
    refine lv_iload hx hb dX4_accuse_39 (lv_at hl 0 rfl) ?_
    refine lv_bipush (v := 6) hx hb dX4_accuse_41 (by decide) ?_
    refine k_av (wr := [(c0, .inr (1, [.ref c1])), (c1, .inl (g 0, 480, .inl bnd)), (b0, .inr (0, [.ref b1, .int v_1.1])), (b1, .inl (g 0, 60, .inl v_1.2))]) (w2 := [(p0, .inr (4, [.ref c0, .ref b0, .ref p1, .int pt, .int cl, .int cf, .int (ar + 1), .int co, .int ct])), (p1, .inl (g 0, 80, .inl (f_X4_countOne num (f_X0_blamedPart kind caller pa) 6))), (c0, .inr (1, [.ref c1])), (c1, .inl (g 0, 480, .inl bnd)), (b0, .inr (0, [.ref b1, .int v_1.1])), (b1, .inl (g 0, 60, .inl v_1.2))]) (va_runV (As := [.int (f_X0_blamedPart kind caller pa), .int 6]) (rest := []) ⟨hx, hb, hml, hown, hts⟩ (c_X4_countOne l D g p0 c0 b0 p1 H.size pt cl cf (ar + 1) co ct num (f_X0_blamedPart kind caller pa) 6 (by omega)) (cwV 2 hts gX4_accuse_X4_countOne rfl rfl rfl (by decide +kernel) (k_lvl (by omega) (by decide))) (kPV hP hD hK hS hA hE [0, 1] rfl (by decide) 0 4 rfl rfl rfl) rfl rfl hl.1 rfl (lv_room (Nat.le_of_ble_eq_true rfl)) dX4_accuse_43 ⟨Nat.le_of_ble_eq_true rfl, Nat.le_of_ble_eq_true rfl⟩) hP hD hS hA [0, 1] [2, 3, 4, 5] [4, 5, 0, 1, 2, 3] rfl rfl (by decide) (by decide) rfl (by decide) (fun H locs hP hD hS => ?_)
    refine lv_sipush (v := (-10000)) hx hb dX4_accuse_46 (by decide) ?_
    have hE2 : (f_X4_accuse ar num kp blm kind caller pa nb) = ((-10000), (ar + 1), (f_X4_countOne num (f_X0_blamedPart kind caller pa) 6), v_1.1, v_1.2) := by
      subst ev_1
      exact (if_neg c_2).trans (rfl)
    subst hQ
    exact k_ri hx hb hr hlocks hP hD hS dX4_accuse_49 (by rw [hE2]) (by rw [hE2])
abbrev KRes : Type := Int32 × Int32 × Int32 × Int32 × (Nat → Int32) × Int32 × (Nat → Int32)
/-- what a call is, over the contents of a plan: cl ar ct num bnd kp blm, then the caller, the part, the number -/
abbrev KCall : Type := Int32 → Int32 → Int32 → (Nat → Int32) → (Nat → Int32) → Int32 → (Nat → Int32) → Int32 → Int32 → Int32 → KRes
abbrev KReck : Type := Int32 → Int32 → Int32 → (Nat → Int32) → (Nat → Int32) → Int32 → (Nat → Int32) → Int32 → Int32 → KRes
def f_X4_reckon (cl : Int32) (ar : Int32) (ct : Int32) (num : Nat → Int32) (bnd : Nat → Int32) (kp : Int32) (blm : Nat → Int32) (pa : Int32) (x : Int32) (depth : Nat) (kco : KCall) : Int32 × Int32 × Int32 × Int32 × (Nat → Int32) × Int32 × (Nat → Int32) :=
  if (f_X4_ofPart num pa 2) = (-10000) then
    ((k_max (-9999) (k_min 9999 (((f_X4_ofPart num pa 0) * x) + (f_X4_ofPart num pa 1)))), cl, ar, ct, num, kp, blm)
  else
    if 10 ≤ depth then
      ((k_max (-9999) (k_min 9999 (((f_X4_ofPart num pa 0) * x) + (f_X4_ofPart num pa 1)))), cl, ar, ct, num, kp, blm)
    else
      if (kco cl ar ct num bnd kp blm pa (f_X4_ofPart num pa 2) (x + (f_X4_ofPart num pa 3))).1 = (-10000) then
        ((f_X4_afterBlame (kco cl ar ct num bnd kp blm pa (f_X4_ofPart num pa 2) (x + (f_X4_ofPart num pa 3))).2.2.2.1 (kco cl ar ct num bnd kp blm pa (f_X4_ofPart num pa 2) (x + (f_X4_ofPart num pa 3))).2.2.2.2.1 (kco cl ar ct num bnd kp blm pa (f_X4_ofPart num pa 2) (x + (f_X4_ofPart num pa 3))).2.2.2.2.2.2 pa).1, (kco cl ar ct num bnd kp blm pa (f_X4_ofPart num pa 2) (x + (f_X4_ofPart num pa 3))).2.1, (kco cl ar ct num bnd kp blm pa (f_X4_ofPart num pa 2) (x + (f_X4_ofPart num pa 3))).2.2.1, (f_X4_afterBlame (kco cl ar ct num bnd kp blm pa (f_X4_ofPart num pa 2) (x + (f_X4_ofPart num pa 3))).2.2.2.1 (kco cl ar ct num bnd kp blm pa (f_X4_ofPart num pa 2) (x + (f_X4_ofPart num pa 3))).2.2.2.2.1 (kco cl ar ct num bnd kp blm pa (f_X4_ofPart num pa 2) (x + (f_X4_ofPart num pa 3))).2.2.2.2.2.2 pa).2.1, (f_X4_afterBlame (kco cl ar ct num bnd kp blm pa (f_X4_ofPart num pa 2) (x + (f_X4_ofPart num pa 3))).2.2.2.1 (kco cl ar ct num bnd kp blm pa (f_X4_ofPart num pa 2) (x + (f_X4_ofPart num pa 3))).2.2.2.2.1 (kco cl ar ct num bnd kp blm pa (f_X4_ofPart num pa 2) (x + (f_X4_ofPart num pa 3))).2.2.2.2.2.2 pa).2.2.1, (kco cl ar ct num bnd kp blm pa (f_X4_ofPart num pa 2) (x + (f_X4_ofPart num pa 3))).2.2.2.2.2.1, (f_X4_afterBlame (kco cl ar ct num bnd kp blm pa (f_X4_ofPart num pa 2) (x + (f_X4_ofPart num pa 3))).2.2.2.1 (kco cl ar ct num bnd kp blm pa (f_X4_ofPart num pa 2) (x + (f_X4_ofPart num pa 3))).2.2.2.2.1 (kco cl ar ct num bnd kp blm pa (f_X4_ofPart num pa 2) (x + (f_X4_ofPart num pa 3))).2.2.2.2.2.2 pa).2.2.2)
      else
        ((k_max (-9999) (k_min 9999 (((f_X4_ofPart (kco cl ar ct num bnd kp blm pa (f_X4_ofPart num pa 2) (x + (f_X4_ofPart num pa 3))).2.2.2.2.1 pa 0) * (kco cl ar ct num bnd kp blm pa (f_X4_ofPart num pa 2) (x + (f_X4_ofPart num pa 3))).1) + (f_X4_ofPart (kco cl ar ct num bnd kp blm pa (f_X4_ofPart num pa 2) (x + (f_X4_ofPart num pa 3))).2.2.2.2.1 pa 1)))), (kco cl ar ct num bnd kp blm pa (f_X4_ofPart num pa 2) (x + (f_X4_ofPart num pa 3))).2.1, (kco cl ar ct num bnd kp blm pa (f_X4_ofPart num pa 2) (x + (f_X4_ofPart num pa 3))).2.2.1, (kco cl ar ct num bnd kp blm pa (f_X4_ofPart num pa 2) (x + (f_X4_ofPart num pa 3))).2.2.2.1, (kco cl ar ct num bnd kp blm pa (f_X4_ofPart num pa 2) (x + (f_X4_ofPart num pa 3))).2.2.2.2.1, (kco cl ar ct num bnd kp blm pa (f_X4_ofPart num pa 2) (x + (f_X4_ofPart num pa 3))).2.2.2.2.2.1, (kco cl ar ct num bnd kp blm pa (f_X4_ofPart num pa 2) (x + (f_X4_ofPart num pa 3))).2.2.2.2.2.2)
theorem qX4_reckon_0 : Cond.methodLink RX4 110 Lib.Math.min.name ∈ wsX4_reckon := (List.mem_cons_of_mem _ (List.mem_append_left _ (List.mem_append_left _ (List.mem_append_left _ (List.mem_append_left _ (List.mem_of_getElem? (i := 0) rfl))))))
theorem qX4_reckon_1 : Cond.static Lib.Math.min.name ∈ wsX4_reckon := (List.mem_cons_of_mem _ (List.mem_append_left _ (List.mem_append_left _ (List.mem_append_left _ (List.mem_append_left _ (List.mem_of_getElem? (i := 1) rfl))))))
theorem qX4_reckon_2 : Cond.initialized "java/lang/Math" ∈ wsX4_reckon := (List.mem_cons_of_mem _ (List.mem_append_left _ (List.mem_append_left _ (List.mem_append_left _ (List.mem_append_left _ (List.mem_of_getElem? (i := 2) rfl))))))
theorem qX4_reckon_3 : Cond.code Lib.Math.min.name Lib.Math.min.code 2 (some .int) ∈ wsX4_reckon := (List.mem_cons_of_mem _ (List.mem_append_left _ (List.mem_append_left _ (List.mem_append_left _ (List.mem_append_left _ (List.mem_of_getElem? (i := 3) rfl))))))
theorem qX4_reckon_4 : Cond.methodLink RX4 115 Lib.Math.max.name ∈ wsX4_reckon := (List.mem_cons_of_mem _ (List.mem_append_left _ (List.mem_append_left _ (List.mem_append_left _ (List.mem_append_left _ (List.mem_of_getElem? (i := 4) rfl))))))
theorem qX4_reckon_5 : Cond.static Lib.Math.max.name ∈ wsX4_reckon := (List.mem_cons_of_mem _ (List.mem_append_left _ (List.mem_append_left _ (List.mem_append_left _ (List.mem_append_left _ (List.mem_of_getElem? (i := 5) rfl))))))
theorem qX4_reckon_6 : Cond.code Lib.Math.max.name Lib.Math.max.code 2 (some .int) ∈ wsX4_reckon := (List.mem_cons_of_mem _ (List.mem_append_left _ (List.mem_append_left _ (List.mem_append_left _ (List.mem_append_left _ (List.mem_of_getElem? (i := 6) rfl))))))
set_option maxHeartbeats 4000000 in
set_option maxRecDepth 100000 in
theorem c_X4_reckon (l : Launch) (D : va_G) (g : Nat → Nat) (p0 c0 b0 p1 c1 b1 : Nat) (sz : Nat) (pt : Int32) (cl : Int32) (cf : Int32) (ar : Int32) (co : Int32) (ct : Int32) (num : Nat → Int32) (bnd : Nat → Int32) (kp : Int32) (blm : Nat → Int32) (pa : Int32) (x : Int32) (depth : Nat) (kco : KCall) (n : Nat) (n9 : Nat) (hn : n9 < n) (h8 : 8 ≤ n) (hd : depth ≤ 10) (hco : depth < 10 → ∀ (sz : Nat) (pt : Int32) (cl : Int32) (cf : Int32) (ar : Int32) (co : Int32) (ct : Int32) (num : Nat → Int32) (bnd : Nat → Int32) (kp : Int32) (blm : Nat → Int32) (caller pa x : Int32), kMi l D g yX4_callOver wsX4_callOver n9 0 0 [.ref p0, .int caller, .int pa, .int x, .int (nI (depth + 1))] [(p0, .inr (4, [.ref c0, .ref b0, .ref p1, .int pt, .int cl, .int cf, .int ar, .int co, .int ct])), (p1, .inl (g 0, 80, .inl num)), (c0, .inr (1, [.ref c1])), (c1, .inl (g 0, 480, .inl bnd)), (b0, .inr (0, [.ref b1, .int kp])), (b1, .inl (g 0, 60, .inl blm))] sz ((kco cl ar ct num bnd kp blm caller pa x)).1 [(p0, .inr (4, [.ref c0, .ref b0, .ref p1, .int pt, .int ((kco cl ar ct num bnd kp blm caller pa x).2.1), .int cf, .int ((kco cl ar ct num bnd kp blm caller pa x).2.2.1), .int co, .int ((kco cl ar ct num bnd kp blm caller pa x).2.2.2.1)])), (p1, .inl (g 0, 80, .inl ((kco cl ar ct num bnd kp blm caller pa x).2.2.2.2.1))), (c0, .inr (1, [.ref c1])), (c1, .inl (g 0, 480, .inl bnd)), (b0, .inr (0, [.ref b1, .int ((kco cl ar ct num bnd kp blm caller pa x).2.2.2.2.2.1)])), (b1, .inl (g 0, 60, .inl ((kco cl ar ct num bnd kp blm caller pa x).2.2.2.2.2.2)))]) : kMi l D g yX4_reckon wsX4_reckon n 0 0 [.ref p0, .int pa, .int x, .int (nI depth)] [(p0, .inr (4, [.ref c0, .ref b0, .ref p1, .int pt, .int cl, .int cf, .int ar, .int co, .int ct])), (p1, .inl (g 0, 80, .inl num)), (c0, .inr (1, [.ref c1])), (c1, .inl (g 0, 480, .inl bnd)), (b0, .inr (0, [.ref b1, .int kp])), (b1, .inl (g 0, 60, .inl blm))] sz ((f_X4_reckon cl ar ct num bnd kp blm pa x depth kco).1) [(p0, .inr (4, [.ref c0, .ref b0, .ref p1, .int pt, .int ((f_X4_reckon cl ar ct num bnd kp blm pa x depth kco).2.1), .int cf, .int ((f_X4_reckon cl ar ct num bnd kp blm pa x depth kco).2.2.1), .int co, .int ((f_X4_reckon cl ar ct num bnd kp blm pa x depth kco).2.2.2.1)])), (p1, .inl (g 0, 80, .inl ((f_X4_reckon cl ar ct num bnd kp blm pa x depth kco).2.2.2.2.1))), (c0, .inr (1, [.ref c1])), (c1, .inl (g 0, 480, .inl bnd)), (b0, .inr (0, [.ref b1, .int ((f_X4_reckon cl ar ct num bnd kp blm pa x depth kco).2.2.2.2.2.1)])), (b1, .inl (g 0, 60, .inl ((f_X4_reckon cl ar ct num bnd kp blm pa x depth kco).2.2.2.2.2.2)))] := by
  refine k_enter (nm := "reckon") (own := RX4) (bytes := cX4_reckon) (maxL := 7) (ret := (some .int)) (Qf := fun A => kQi D [(p0, .inr (4, [.ref c0, .ref b0, .ref p1, .int pt, .int ((f_X4_reckon cl ar ct num bnd kp blm pa x depth kco).2.1), .int cf, .int ((f_X4_reckon cl ar ct num bnd kp blm pa x depth kco).2.2.1), .int co, .int ((f_X4_reckon cl ar ct num bnd kp blm pa x depth kco).2.2.2.1)])), (p1, .inl (g 0, 80, .inl ((f_X4_reckon cl ar ct num bnd kp blm pa x depth kco).2.2.2.2.1))), (c0, .inr (1, [.ref c1])), (c1, .inl (g 0, 480, .inl bnd)), (b0, .inr (0, [.ref b1, .int ((f_X4_reckon cl ar ct num bnd kp blm pa x depth kco).2.2.2.2.2.1)])), (b1, .inl (g 0, 60, .inl ((f_X4_reckon cl ar ct num bnd kp blm pa x depth kco).2.2.2.2.2.2)))] A ((f_X4_reckon cl ar ct num bnd kp blm pa x depth kco).1)) (by decide) rfl rfl rfl (Nat.le_of_ble_eq_true rfl) ?_
  rintro pp ee s mm below meth cc A ls args Q H locs hQ ⟨hx, hb, hr, hml, hown, hts, hlocks, hin⟩ hP hK hD hA hS hE hl
  have hl : lv_has ls 7 [(0, .ref p0), (1, .int pa), (2, .int x), (3, .int (nI depth))] := hl
  refine lv_aload_n hx hb dX4_reckon_0 rfl (lv_at hl 0 rfl) ?_
  refine lv_iload_n hx hb dX4_reckon_1 rfl (lv_at hl 1 rfl) ?_
  refine lv_iconst (v := 2) hx hb dX4_reckon_2 (by decide) ?_
  refine k_ai (wr := [(c0, .inr (1, [.ref c1])), (c1, .inl (g 0, 480, .inl bnd)), (b0, .inr (0, [.ref b1, .int kp])), (b1, .inl (g 0, 60, .inl blm))]) (w2 := [(p0, .inr (4, [.ref c0, .ref b0, .ref p1, .int pt, .int cl, .int cf, .int ar, .int co, .int ct])), (p1, .inl (g 0, 80, .inl num)), (c0, .inr (1, [.ref c1])), (c1, .inl (g 0, 480, .inl bnd)), (b0, .inr (0, [.ref b1, .int kp])), (b1, .inl (g 0, 60, .inl blm))]) (va_runV (As := [.int pa, .int 2]) (rest := []) ⟨hx, hb, hml, hown, hts⟩ (c_X4_ofPart l D g p0 c0 b0 p1 H.size pt cl cf ar co ct num pa 2 (by omega)) (cwV 2 hts gX4_reckon_X4_ofPart rfl rfl rfl (by decide +kernel) (k_lvl (by omega) (by decide))) (kPV hP hD hK hS hA hE [0, 1] rfl (by decide) 0 4 rfl rfl rfl) rfl rfl hl.1 rfl (lv_room (Nat.le_of_ble_eq_true rfl)) dX4_reckon_3 ⟨Nat.le_of_ble_eq_true rfl, Nat.le_of_ble_eq_true rfl⟩) hP hD hS hA [0, 1] [2, 3, 4, 5] [4, 5, 0, 1, 2, 3] rfl rfl (by decide) (by decide) rfl (by decide) (fun H locs hP hD hS => ?_)
  refine lv_istore (lv' := [(4, .int (f_X4_ofPart num pa 2)), (0, .ref p0), (1, .int pa), (2, .int x), (3, .int (nI depth))]) hx hb dX4_reckon_6 hl (by decide) rfl (fun ls hl => ?_)
  refine lv_iload_n hx hb dX4_reckon_8 rfl (lv_at hl 3 rfl) ?_
  refine lv_istore (lv' := [(5, .int x), (4, .int (f_X4_ofPart num pa 2)), (0, .ref p0), (1, .int pa), (2, .int x), (3, .int (nI depth))]) hx hb dX4_reckon_9 hl (by decide) rfl (fun ls hl => ?_)
  refine lv_iload hx hb dX4_reckon_11 (lv_at hl 1 rfl) ?_
  refine lv_sipush (v := (-10000)) hx hb dX4_reckon_13 (by decide) ?_
  refine lv_icmp_eq (tgt := 59) hx hb dX4_reckon_16 (by decide) (fun c_1 => ?_) (fun c_1 => ?_)
  · refine lv_aload_n hx hb dX4_reckon_59 rfl (lv_at hl 2 rfl) ?_
    refine lv_iload_n hx hb dX4_reckon_60 rfl (lv_at hl 3 rfl) ?_
    refine lv_iconst (v := 0) hx hb dX4_reckon_61 (by decide) ?_
    refine k_ai (wr := [(c0, .inr (1, [.ref c1])), (c1, .inl (g 0, 480, .inl bnd)), (b0, .inr (0, [.ref b1, .int kp])), (b1, .inl (g 0, 60, .inl blm))]) (w2 := [(p0, .inr (4, [.ref c0, .ref b0, .ref p1, .int pt, .int cl, .int cf, .int ar, .int co, .int ct])), (p1, .inl (g 0, 80, .inl num)), (c0, .inr (1, [.ref c1])), (c1, .inl (g 0, 480, .inl bnd)), (b0, .inr (0, [.ref b1, .int kp])), (b1, .inl (g 0, 60, .inl blm))]) (va_runV (As := [.int pa, .int 0]) (rest := []) ⟨hx, hb, hml, hown, hts⟩ (c_X4_ofPart l D g p0 c0 b0 p1 H.size pt cl cf ar co ct num pa 0 (by omega)) (cwV 2 hts gX4_reckon_X4_ofPart rfl rfl rfl (by decide +kernel) (k_lvl (by omega) (by decide))) (kPV hP hD hK hS hA hE [0, 1] rfl (by decide) 0 4 rfl rfl rfl) rfl rfl hl.1 rfl (lv_room (Nat.le_of_ble_eq_true rfl)) dX4_reckon_62 ⟨Nat.le_of_ble_eq_true rfl, Nat.le_of_ble_eq_true rfl⟩) hP hD hS hA [0, 1] [2, 3, 4, 5] [4, 5, 0, 1, 2, 3] rfl rfl (by decide) (by decide) rfl (by decide) (fun H locs hP hD hS => ?_)
    refine lv_iload hx hb dX4_reckon_65 (lv_at hl 0 rfl) ?_
    refine lv_imul hx hb dX4_reckon_67 ?_
    refine lv_aload_n hx hb dX4_reckon_68 rfl (lv_at hl 2 rfl) ?_
    refine lv_iload_n hx hb dX4_reckon_69 rfl (lv_at hl 3 rfl) ?_
    refine lv_iconst (v := 1) hx hb dX4_reckon_70 (by decide) ?_
    refine k_ai (wr := [(c0, .inr (1, [.ref c1])), (c1, .inl (g 0, 480, .inl bnd)), (b0, .inr (0, [.ref b1, .int kp])), (b1, .inl (g 0, 60, .inl blm))]) (w2 := [(p0, .inr (4, [.ref c0, .ref b0, .ref p1, .int pt, .int cl, .int cf, .int ar, .int co, .int ct])), (p1, .inl (g 0, 80, .inl num)), (c0, .inr (1, [.ref c1])), (c1, .inl (g 0, 480, .inl bnd)), (b0, .inr (0, [.ref b1, .int kp])), (b1, .inl (g 0, 60, .inl blm))]) (va_runV (As := [.int pa, .int 1]) (rest := [.int ((f_X4_ofPart num pa 0) * x)]) ⟨hx, hb, hml, hown, hts⟩ (c_X4_ofPart l D g p0 c0 b0 p1 H.size pt cl cf ar co ct num pa 1 (by omega)) (cwV 2 hts gX4_reckon_X4_ofPart rfl rfl rfl (by decide +kernel) (k_lvl (by omega) (by decide))) (kPV hP hD hK hS hA hE [0, 1] rfl (by decide) 0 4 rfl rfl rfl) rfl rfl hl.1 rfl (lv_room (Nat.le_of_ble_eq_true rfl)) dX4_reckon_71 ⟨Nat.le_of_ble_eq_true rfl, Nat.le_of_ble_eq_true rfl⟩) hP hD hS hA [0, 1] [2, 3, 4, 5] [4, 5, 0, 1, 2, 3] rfl rfl (by decide) (by decide) rfl (by decide) (fun H locs hP hD hS => ?_)
    refine lv_iadd hx hb dX4_reckon_74 ?_
    refine lv_istore (lv' := [(6, .int (((f_X4_ofPart num pa 0) * x) + (f_X4_ofPart num pa 1))), (5, .int x), (4, .int (f_X4_ofPart num pa 2)), (0, .ref p0), (1, .int pa), (2, .int x), (3, .int (nI depth))]) hx hb dX4_reckon_75 hl (by decide) rfl (fun ls hl => ?_)
    refine lv_sipush (v := (-9999)) hx hb dX4_reckon_77 (by decide) ?_
    refine lv_sipush (v := 9999) hx hb dX4_reckon_80 (by decide) ?_
    refine lv_iload hx hb dX4_reckon_83 (lv_at hl 0 rfl) ?_
    refine va_mmin hx hb (hml.trans hl.1.symm) hown (hts _ qX4_reckon_0) (hts _ qX4_reckon_1) (hts _ qX4_reckon_2) (hts _ qX4_reckon_3) (by first | exact Nat.le_of_ble_eq_true rfl | (simp; omega)) (by first | exact Nat.le_of_ble_eq_true rfl | (simp; omega)) (Nat.zero_le _) (Nat.zero_le _) dX4_reckon_85 ?_
    refine k_top (y := (k_min 9999 (((f_X4_ofPart num pa 0) * x) + (f_X4_ofPart num pa 1)))) (rfl) ?_
    refine va_mmax hx hb (hml.trans hl.1.symm) hown (hts _ qX4_reckon_4) (hts _ qX4_reckon_5) (hts _ qX4_reckon_2) (hts _ qX4_reckon_6) (by first | exact Nat.le_of_ble_eq_true rfl | (simp; omega)) (by first | exact Nat.le_of_ble_eq_true rfl | (simp; omega)) (Nat.zero_le _) (Nat.zero_le _) dX4_reckon_88 ?_
    refine k_top (y := (k_max (-9999) (k_min 9999 (((f_X4_ofPart num pa 0) * x) + (f_X4_ofPart num pa 1))))) (rfl) ?_
    have hE2 : (f_X4_reckon cl ar ct num bnd kp blm pa x depth kco) = ((k_max (-9999) (k_min 9999 (((f_X4_ofPart num pa 0) * x) + (f_X4_ofPart num pa 1)))), cl, ar, ct, num, kp, blm) := by
      exact (if_pos c_1).trans (rfl)
    subst hQ
    exact k_ri hx hb hr hlocks hP hD hS dX4_reckon_91 (by rw [hE2]) (by rw [hE2])
  · refine lv_iload_n hx hb dX4_reckon_19 rfl (lv_at hl 5 rfl) ?_
    refine lv_bipush (v := 10) hx hb dX4_reckon_20 (by decide) ?_
    refine lv_icmp_ge (tgt := 59) hx hb dX4_reckon_22 (by decide) (fun c_2 => ?_) (fun c_2 => ?_)
    · have c_2 : 10 ≤ depth := (nI_leI (a := 10) (b := depth) (by omega) (by omega)).mp c_2
      refine lv_aload_n hx hb dX4_reckon_59 rfl (lv_at hl 2 rfl) ?_
      refine lv_iload_n hx hb dX4_reckon_60 rfl (lv_at hl 3 rfl) ?_
      refine lv_iconst (v := 0) hx hb dX4_reckon_61 (by decide) ?_
      refine k_ai (wr := [(c0, .inr (1, [.ref c1])), (c1, .inl (g 0, 480, .inl bnd)), (b0, .inr (0, [.ref b1, .int kp])), (b1, .inl (g 0, 60, .inl blm))]) (w2 := [(p0, .inr (4, [.ref c0, .ref b0, .ref p1, .int pt, .int cl, .int cf, .int ar, .int co, .int ct])), (p1, .inl (g 0, 80, .inl num)), (c0, .inr (1, [.ref c1])), (c1, .inl (g 0, 480, .inl bnd)), (b0, .inr (0, [.ref b1, .int kp])), (b1, .inl (g 0, 60, .inl blm))]) (va_runV (As := [.int pa, .int 0]) (rest := []) ⟨hx, hb, hml, hown, hts⟩ (c_X4_ofPart l D g p0 c0 b0 p1 H.size pt cl cf ar co ct num pa 0 (by omega)) (cwV 2 hts gX4_reckon_X4_ofPart rfl rfl rfl (by decide +kernel) (k_lvl (by omega) (by decide))) (kPV hP hD hK hS hA hE [0, 1] rfl (by decide) 0 4 rfl rfl rfl) rfl rfl hl.1 rfl (lv_room (Nat.le_of_ble_eq_true rfl)) dX4_reckon_62 ⟨Nat.le_of_ble_eq_true rfl, Nat.le_of_ble_eq_true rfl⟩) hP hD hS hA [0, 1] [2, 3, 4, 5] [4, 5, 0, 1, 2, 3] rfl rfl (by decide) (by decide) rfl (by decide) (fun H locs hP hD hS => ?_)
      refine lv_iload hx hb dX4_reckon_65 (lv_at hl 0 rfl) ?_
      refine lv_imul hx hb dX4_reckon_67 ?_
      refine lv_aload_n hx hb dX4_reckon_68 rfl (lv_at hl 2 rfl) ?_
      refine lv_iload_n hx hb dX4_reckon_69 rfl (lv_at hl 3 rfl) ?_
      refine lv_iconst (v := 1) hx hb dX4_reckon_70 (by decide) ?_
      refine k_ai (wr := [(c0, .inr (1, [.ref c1])), (c1, .inl (g 0, 480, .inl bnd)), (b0, .inr (0, [.ref b1, .int kp])), (b1, .inl (g 0, 60, .inl blm))]) (w2 := [(p0, .inr (4, [.ref c0, .ref b0, .ref p1, .int pt, .int cl, .int cf, .int ar, .int co, .int ct])), (p1, .inl (g 0, 80, .inl num)), (c0, .inr (1, [.ref c1])), (c1, .inl (g 0, 480, .inl bnd)), (b0, .inr (0, [.ref b1, .int kp])), (b1, .inl (g 0, 60, .inl blm))]) (va_runV (As := [.int pa, .int 1]) (rest := [.int ((f_X4_ofPart num pa 0) * x)]) ⟨hx, hb, hml, hown, hts⟩ (c_X4_ofPart l D g p0 c0 b0 p1 H.size pt cl cf ar co ct num pa 1 (by omega)) (cwV 2 hts gX4_reckon_X4_ofPart rfl rfl rfl (by decide +kernel) (k_lvl (by omega) (by decide))) (kPV hP hD hK hS hA hE [0, 1] rfl (by decide) 0 4 rfl rfl rfl) rfl rfl hl.1 rfl (lv_room (Nat.le_of_ble_eq_true rfl)) dX4_reckon_71 ⟨Nat.le_of_ble_eq_true rfl, Nat.le_of_ble_eq_true rfl⟩) hP hD hS hA [0, 1] [2, 3, 4, 5] [4, 5, 0, 1, 2, 3] rfl rfl (by decide) (by decide) rfl (by decide) (fun H locs hP hD hS => ?_)
      refine lv_iadd hx hb dX4_reckon_74 ?_
      refine lv_istore (lv' := [(6, .int (((f_X4_ofPart num pa 0) * x) + (f_X4_ofPart num pa 1))), (5, .int x), (4, .int (f_X4_ofPart num pa 2)), (0, .ref p0), (1, .int pa), (2, .int x), (3, .int (nI depth))]) hx hb dX4_reckon_75 hl (by decide) rfl (fun ls hl => ?_)
      refine lv_sipush (v := (-9999)) hx hb dX4_reckon_77 (by decide) ?_
      refine lv_sipush (v := 9999) hx hb dX4_reckon_80 (by decide) ?_
      refine lv_iload hx hb dX4_reckon_83 (lv_at hl 0 rfl) ?_
      refine va_mmin hx hb (hml.trans hl.1.symm) hown (hts _ qX4_reckon_0) (hts _ qX4_reckon_1) (hts _ qX4_reckon_2) (hts _ qX4_reckon_3) (by first | exact Nat.le_of_ble_eq_true rfl | (simp; omega)) (by first | exact Nat.le_of_ble_eq_true rfl | (simp; omega)) (Nat.zero_le _) (Nat.zero_le _) dX4_reckon_85 ?_
      refine k_top (y := (k_min 9999 (((f_X4_ofPart num pa 0) * x) + (f_X4_ofPart num pa 1)))) (rfl) ?_
      refine va_mmax hx hb (hml.trans hl.1.symm) hown (hts _ qX4_reckon_4) (hts _ qX4_reckon_5) (hts _ qX4_reckon_2) (hts _ qX4_reckon_6) (by first | exact Nat.le_of_ble_eq_true rfl | (simp; omega)) (by first | exact Nat.le_of_ble_eq_true rfl | (simp; omega)) (Nat.zero_le _) (Nat.zero_le _) dX4_reckon_88 ?_
      refine k_top (y := (k_max (-9999) (k_min 9999 (((f_X4_ofPart num pa 0) * x) + (f_X4_ofPart num pa 1))))) (rfl) ?_
      have hE2 : (f_X4_reckon cl ar ct num bnd kp blm pa x depth kco) = ((k_max (-9999) (k_min 9999 (((f_X4_ofPart num pa 0) * x) + (f_X4_ofPart num pa 1)))), cl, ar, ct, num, kp, blm) := by
        exact (if_neg c_1).trans ((if_pos c_2).trans (rfl))
      subst hQ
      exact k_ri hx hb hr hlocks hP hD hS dX4_reckon_91 (by rw [hE2]) (by rw [hE2])
    · have c_2 : ¬ (10 ≤ depth) := fun h9 => c_2 ((nI_leI (a := 10) (b := depth) (by omega) (by omega)).mpr h9)
      refine lv_aload_n hx hb dX4_reckon_25 rfl (lv_at hl 2 rfl) ?_
      refine lv_iload_n hx hb dX4_reckon_26 rfl (lv_at hl 3 rfl) ?_
      refine lv_iload hx hb dX4_reckon_27 (lv_at hl 1 rfl) ?_
      refine lv_iload_n hx hb dX4_reckon_29 rfl (lv_at hl 4 rfl) ?_
      refine lv_aload_n hx hb dX4_reckon_30 rfl (lv_at hl 2 rfl) ?_
      refine lv_iload_n hx hb dX4_reckon_31 rfl (lv_at hl 3 rfl) ?_
      refine lv_iconst (v := 3) hx hb dX4_reckon_32 (by decide) ?_
      refine k_ai (wr := [(c0, .inr (1, [.ref c1])), (c1, .inl (g 0, 480, .inl bnd)), (b0, .inr (0, [.ref b1, .int kp])), (b1, .inl (g 0, 60, .inl blm))]) (w2 := [(p0, .inr (4, [.ref c0, .ref b0, .ref p1, .int pt, .int cl, .int cf, .int ar, .int co, .int ct])), (p1, .inl (g 0, 80, .inl num)), (c0, .inr (1, [.ref c1])), (c1, .inl (g 0, 480, .inl bnd)), (b0, .inr (0, [.ref b1, .int kp])), (b1, .inl (g 0, 60, .inl blm))]) (va_runV (As := [.int pa, .int 3]) (rest := [.int x, .int (f_X4_ofPart num pa 2), .int pa, .ref p0]) ⟨hx, hb, hml, hown, hts⟩ (c_X4_ofPart l D g p0 c0 b0 p1 H.size pt cl cf ar co ct num pa 3 (by omega)) (cwV 2 hts gX4_reckon_X4_ofPart rfl rfl rfl (by decide +kernel) (k_lvl (by omega) (by decide))) (kPV hP hD hK hS hA hE [0, 1] rfl (by decide) 0 4 rfl rfl rfl) rfl rfl hl.1 rfl (lv_room (Nat.le_of_ble_eq_true rfl)) dX4_reckon_33 ⟨Nat.le_of_ble_eq_true rfl, Nat.le_of_ble_eq_true rfl⟩) hP hD hS hA [0, 1] [2, 3, 4, 5] [4, 5, 0, 1, 2, 3] rfl rfl (by decide) (by decide) rfl (by decide) (fun H locs hP hD hS => ?_)
      refine lv_iadd hx hb dX4_reckon_36 ?_
      refine lv_iload_n hx hb dX4_reckon_37 rfl (lv_at hl 5 rfl) ?_
      refine lv_iconst (v := 1) hx hb dX4_reckon_38 (by decide) ?_
      refine lv_iadd hx hb dX4_reckon_39 ?_
      refine k_top (y := (nI (depth + 1))) (nI_add depth 1) ?_
      have hC := (hco (by omega)) H.size pt cl cf ar co ct num bnd kp blm pa (f_X4_ofPart num pa 2) (x + (f_X4_ofPart num pa 3))
      obtain ⟨v_3, ev_3⟩ : ∃ z, z = (kco cl ar ct num bnd kp blm pa (f_X4_ofPart num pa 2) (x + (f_X4_ofPart num pa 3))) := ⟨_, rfl⟩
      rw [← ev_3] at hC
      refine k_ai (wr := []) (w2 := [(p0, .inr (4, [.ref c0, .ref b0, .ref p1, .int pt, .int v_3.2.1, .int cf, .int v_3.2.2.1, .int co, .int v_3.2.2.2.1])), (p1, .inl (g 0, 80, .inl v_3.2.2.2.2.1)), (c0, .inr (1, [.ref c1])), (c1, .inl (g 0, 480, .inl bnd)), (b0, .inr (0, [.ref b1, .int v_3.2.2.2.2.2.1])), (b1, .inl (g 0, 60, .inl v_3.2.2.2.2.2.2))]) (va_runV (As := [.int pa, .int (f_X4_ofPart num pa 2), .int (x + (f_X4_ofPart num pa 3)), .int (nI (depth + 1))]) (rest := []) ⟨hx, hb, hml, hown, hts⟩ hC (cwV 4 hts gX4_reckon_X4_callOver rfl rfl rfl (by decide +kernel) (k_lvl (by omega) (by decide))) (kPV hP hD hK hS hA hE [0, 1, 2, 3, 4, 5] rfl (by decide) 0 4 rfl rfl rfl) rfl rfl hl.1 rfl (lv_room (Nat.le_of_ble_eq_true rfl)) dX4_reckon_40 ⟨Nat.le_of_ble_eq_true rfl, Nat.le_of_ble_eq_true rfl⟩) hP hD hS hA [0, 1, 2, 3, 4, 5] [] [0, 1, 2, 3, 4, 5] rfl rfl (by decide) (by decide) rfl (by decide) (fun H locs hP hD hS => ?_)
      refine lv_istore (lv' := [(5, .int v_3.1), (4, .int (f_X4_ofPart num pa 2)), (0, .ref p0), (1, .int pa), (2, .int x), (3, .int (nI depth))]) hx hb dX4_reckon_43 hl (by decide) rfl (fun ls hl => ?_)
      refine lv_iload hx hb dX4_reckon_45 (lv_at hl 0 rfl) ?_
      refine lv_sipush (v := (-10000)) hx hb dX4_reckon_47 (by decide) ?_
      refine lv_icmp_ne (tgt := 59) hx hb dX4_reckon_50 (by decide) (fun c_4 => ?_) (fun c_4 => ?_)
      · refine lv_aload_n hx hb dX4_reckon_59 rfl (lv_at hl 2 rfl) ?_
        refine lv_iload_n hx hb dX4_reckon_60 rfl (lv_at hl 3 rfl) ?_
        refine lv_iconst (v := 0) hx hb dX4_reckon_61 (by decide) ?_
        refine k_ai (wr := [(c0, .inr (1, [.ref c1])), (c1, .inl (g 0, 480, .inl bnd)), (b0, .inr (0, [.ref b1, .int v_3.2.2.2.2.2.1])), (b1, .inl (g 0, 60, .inl v_3.2.2.2.2.2.2))]) (w2 := [(p0, .inr (4, [.ref c0, .ref b0, .ref p1, .int pt, .int v_3.2.1, .int cf, .int v_3.2.2.1, .int co, .int v_3.2.2.2.1])), (p1, .inl (g 0, 80, .inl v_3.2.2.2.2.1)), (c0, .inr (1, [.ref c1])), (c1, .inl (g 0, 480, .inl bnd)), (b0, .inr (0, [.ref b1, .int v_3.2.2.2.2.2.1])), (b1, .inl (g 0, 60, .inl v_3.2.2.2.2.2.2))]) (va_runV (As := [.int pa, .int 0]) (rest := []) ⟨hx, hb, hml, hown, hts⟩ (c_X4_ofPart l D g p0 c0 b0 p1 H.size pt v_3.2.1 cf v_3.2.2.1 co v_3.2.2.2.1 v_3.2.2.2.2.1 pa 0 (by omega)) (cwV 2 hts gX4_reckon_X4_ofPart rfl rfl rfl (by decide +kernel) (k_lvl (by omega) (by decide))) (kPV hP hD hK hS hA hE [0, 1] rfl (by decide) 0 4 rfl rfl rfl) rfl rfl hl.1 rfl (lv_room (Nat.le_of_ble_eq_true rfl)) dX4_reckon_62 ⟨Nat.le_of_ble_eq_true rfl, Nat.le_of_ble_eq_true rfl⟩) hP hD hS hA [0, 1] [2, 3, 4, 5] [4, 5, 0, 1, 2, 3] rfl rfl (by decide) (by decide) rfl (by decide) (fun H locs hP hD hS => ?_)
        refine lv_iload hx hb dX4_reckon_65 (lv_at hl 0 rfl) ?_
        refine lv_imul hx hb dX4_reckon_67 ?_
        refine lv_aload_n hx hb dX4_reckon_68 rfl (lv_at hl 2 rfl) ?_
        refine lv_iload_n hx hb dX4_reckon_69 rfl (lv_at hl 3 rfl) ?_
        refine lv_iconst (v := 1) hx hb dX4_reckon_70 (by decide) ?_
        refine k_ai (wr := [(c0, .inr (1, [.ref c1])), (c1, .inl (g 0, 480, .inl bnd)), (b0, .inr (0, [.ref b1, .int v_3.2.2.2.2.2.1])), (b1, .inl (g 0, 60, .inl v_3.2.2.2.2.2.2))]) (w2 := [(p0, .inr (4, [.ref c0, .ref b0, .ref p1, .int pt, .int v_3.2.1, .int cf, .int v_3.2.2.1, .int co, .int v_3.2.2.2.1])), (p1, .inl (g 0, 80, .inl v_3.2.2.2.2.1)), (c0, .inr (1, [.ref c1])), (c1, .inl (g 0, 480, .inl bnd)), (b0, .inr (0, [.ref b1, .int v_3.2.2.2.2.2.1])), (b1, .inl (g 0, 60, .inl v_3.2.2.2.2.2.2))]) (va_runV (As := [.int pa, .int 1]) (rest := [.int ((f_X4_ofPart v_3.2.2.2.2.1 pa 0) * v_3.1)]) ⟨hx, hb, hml, hown, hts⟩ (c_X4_ofPart l D g p0 c0 b0 p1 H.size pt v_3.2.1 cf v_3.2.2.1 co v_3.2.2.2.1 v_3.2.2.2.2.1 pa 1 (by omega)) (cwV 2 hts gX4_reckon_X4_ofPart rfl rfl rfl (by decide +kernel) (k_lvl (by omega) (by decide))) (kPV hP hD hK hS hA hE [0, 1] rfl (by decide) 0 4 rfl rfl rfl) rfl rfl hl.1 rfl (lv_room (Nat.le_of_ble_eq_true rfl)) dX4_reckon_71 ⟨Nat.le_of_ble_eq_true rfl, Nat.le_of_ble_eq_true rfl⟩) hP hD hS hA [0, 1] [2, 3, 4, 5] [4, 5, 0, 1, 2, 3] rfl rfl (by decide) (by decide) rfl (by decide) (fun H locs hP hD hS => ?_)
        refine lv_iadd hx hb dX4_reckon_74 ?_
        refine lv_istore (lv' := [(6, .int (((f_X4_ofPart v_3.2.2.2.2.1 pa 0) * v_3.1) + (f_X4_ofPart v_3.2.2.2.2.1 pa 1))), (5, .int v_3.1), (4, .int (f_X4_ofPart num pa 2)), (0, .ref p0), (1, .int pa), (2, .int x), (3, .int (nI depth))]) hx hb dX4_reckon_75 hl (by decide) rfl (fun ls hl => ?_)
        refine lv_sipush (v := (-9999)) hx hb dX4_reckon_77 (by decide) ?_
        refine lv_sipush (v := 9999) hx hb dX4_reckon_80 (by decide) ?_
        refine lv_iload hx hb dX4_reckon_83 (lv_at hl 0 rfl) ?_
        refine va_mmin hx hb (hml.trans hl.1.symm) hown (hts _ qX4_reckon_0) (hts _ qX4_reckon_1) (hts _ qX4_reckon_2) (hts _ qX4_reckon_3) (by first | exact Nat.le_of_ble_eq_true rfl | (simp; omega)) (by first | exact Nat.le_of_ble_eq_true rfl | (simp; omega)) (Nat.zero_le _) (Nat.zero_le _) dX4_reckon_85 ?_
        refine k_top (y := (k_min 9999 (((f_X4_ofPart v_3.2.2.2.2.1 pa 0) * v_3.1) + (f_X4_ofPart v_3.2.2.2.2.1 pa 1)))) (rfl) ?_
        refine va_mmax hx hb (hml.trans hl.1.symm) hown (hts _ qX4_reckon_4) (hts _ qX4_reckon_5) (hts _ qX4_reckon_2) (hts _ qX4_reckon_6) (by first | exact Nat.le_of_ble_eq_true rfl | (simp; omega)) (by first | exact Nat.le_of_ble_eq_true rfl | (simp; omega)) (Nat.zero_le _) (Nat.zero_le _) dX4_reckon_88 ?_
        refine k_top (y := (k_max (-9999) (k_min 9999 (((f_X4_ofPart v_3.2.2.2.2.1 pa 0) * v_3.1) + (f_X4_ofPart v_3.2.2.2.2.1 pa 1))))) (rfl) ?_
        have hE2 : (f_X4_reckon cl ar ct num bnd kp blm pa x depth kco) = ((k_max (-9999) (k_min 9999 (((f_X4_ofPart v_3.2.2.2.2.1 pa 0) * v_3.1) + (f_X4_ofPart v_3.2.2.2.2.1 pa 1)))), v_3.2.1, v_3.2.2.1, v_3.2.2.2.1, v_3.2.2.2.2.1, v_3.2.2.2.2.2.1, v_3.2.2.2.2.2.2) := by
          subst ev_3
          exact (if_neg c_1).trans ((if_neg c_2).trans ((if_neg c_4).trans (rfl)))
        subst hQ
        exact k_ri hx hb hr hlocks hP hD hS dX4_reckon_91 (by rw [hE2]) (by rw [hE2])
      · refine lv_aload_n hx hb dX4_reckon_53 rfl (lv_at hl 2 rfl) ?_
        refine lv_iload_n hx hb dX4_reckon_54 rfl (lv_at hl 3 rfl) ?_
        have hC := c_X4_afterBlame l D g p0 c0 b0 p1 c1 b1 H.size pt v_3.2.1 cf v_3.2.2.1 co v_3.2.2.2.1 v_3.2.2.2.2.1 bnd v_3.2.2.2.2.2.1 v_3.2.2.2.2.2.2 pa
        obtain ⟨v_5, ev_5⟩ : ∃ z, z = (f_X4_afterBlame v_3.2.2.2.1 v_3.2.2.2.2.1 v_3.2.2.2.2.2.2 pa) := ⟨_, rfl⟩
        rw [← ev_5] at hC
        refine k_ai (wr := []) (w2 := [(p0, .inr (4, [.ref c0, .ref b0, .ref p1, .int pt, .int v_3.2.1, .int cf, .int v_3.2.2.1, .int co, .int v_5.2.1])), (p1, .inl (g 0, 80, .inl v_5.2.2.1)), (c0, .inr (1, [.ref c1])), (c1, .inl (g 0, 480, .inl bnd)), (b0, .inr (0, [.ref b1, .int v_3.2.2.2.2.2.1])), (b1, .inl (g 0, 60, .inl v_5.2.2.2))]) (va_runV (As := [.int pa]) (rest := []) ⟨hx, hb, hml, hown, hts⟩ hC (cwV 1 hts gX4_reckon_X4_afterBlame rfl rfl rfl (by decide +kernel) (k_lvl (by omega) (by decide))) (kPV hP hD hK hS hA hE [0, 1, 2, 3, 4, 5] rfl (by decide) 0 4 rfl rfl rfl) rfl rfl hl.1 rfl (lv_room (Nat.le_of_ble_eq_true rfl)) dX4_reckon_55 ⟨Nat.le_of_ble_eq_true rfl, Nat.le_of_ble_eq_true rfl⟩) hP hD hS hA [0, 1, 2, 3, 4, 5] [] [0, 1, 2, 3, 4, 5] rfl rfl (by decide) (by decide) rfl (by decide) (fun H locs hP hD hS => ?_)
        have hE2 : (f_X4_reckon cl ar ct num bnd kp blm pa x depth kco) = (v_5.1, v_3.2.1, v_3.2.2.1, v_5.2.1, v_5.2.2.1, v_3.2.2.2.2.2.1, v_5.2.2.2) := by
          subst ev_5
          subst ev_3
          exact (if_neg c_1).trans ((if_neg c_2).trans ((if_pos c_4).trans (rfl)))
        subst hQ
        exact k_ri hx hb hr hlocks hP hD hS dX4_reckon_58 (by rw [hE2]) (by rw [hE2])
def f_X4_callOver (cl : Int32) (ar : Int32) (ct : Int32) (num : Nat → Int32) (bnd : Nat → Int32) (kp : Int32) (blm : Nat → Int32) (caller : Int32) (pa : Int32) (x : Int32) (krk : KReck) : Int32 × Int32 × Int32 × Int32 × (Nat → Int32) × Int32 × (Nat → Int32) :=
  if (f_X1_find bnd caller pa) = (-10000) then
    if (f_X1_find bnd (-10001) pa) = (-10000) then
      if (krk (cl + 1) ar ct (f_X4_countOne num pa 5) bnd kp blm pa x).1 = (-10000) then
        ((-10000), (krk (cl + 1) ar ct (f_X4_countOne num pa 5) bnd kp blm pa x).2.1, (krk (cl + 1) ar ct (f_X4_countOne num pa 5) bnd kp blm pa x).2.2.1, (krk (cl + 1) ar ct (f_X4_countOne num pa 5) bnd kp blm pa x).2.2.2.1, (krk (cl + 1) ar ct (f_X4_countOne num pa 5) bnd kp blm pa x).2.2.2.2.1, (krk (cl + 1) ar ct (f_X4_countOne num pa 5) bnd kp blm pa x).2.2.2.2.2.1, (krk (cl + 1) ar ct (f_X4_countOne num pa 5) bnd kp blm pa x).2.2.2.2.2.2)
      else
        ((krk (cl + 1) ar ct (f_X4_countOne num pa 5) bnd kp blm pa x).1, (krk (cl + 1) ar ct (f_X4_countOne num pa 5) bnd kp blm pa x).2.1, (krk (cl + 1) ar ct (f_X4_countOne num pa 5) bnd kp blm pa x).2.2.1, (krk (cl + 1) ar ct (f_X4_countOne num pa 5) bnd kp blm pa x).2.2.2.1, (krk (cl + 1) ar ct (f_X4_countOne num pa 5) bnd kp blm pa x).2.2.2.2.1, (krk (cl + 1) ar ct (f_X4_countOne num pa 5) bnd kp blm pa x).2.2.2.2.2.1, (krk (cl + 1) ar ct (f_X4_countOne num pa 5) bnd kp blm pa x).2.2.2.2.2.2)
    else
      if (f_X1_asks bnd (f_X1_find bnd (-10001) pa) x) = 0 then
        ((f_X4_accuse ar (f_X4_countOne num pa 5) kp blm 1 caller pa x).1, (cl + 1), (f_X4_accuse ar (f_X4_countOne num pa 5) kp blm 1 caller pa x).2.1, ct, (f_X4_accuse ar (f_X4_countOne num pa 5) kp blm 1 caller pa x).2.2.1, (f_X4_accuse ar (f_X4_countOne num pa 5) kp blm 1 caller pa x).2.2.2.1, (f_X4_accuse ar (f_X4_countOne num pa 5) kp blm 1 caller pa x).2.2.2.2)
      else
        if (krk (cl + 1) ar ct (f_X4_countOne num pa 5) bnd kp blm pa x).1 = (-10000) then
          ((-10000), (krk (cl + 1) ar ct (f_X4_countOne num pa 5) bnd kp blm pa x).2.1, (krk (cl + 1) ar ct (f_X4_countOne num pa 5) bnd kp blm pa x).2.2.1, (krk (cl + 1) ar ct (f_X4_countOne num pa 5) bnd kp blm pa x).2.2.2.1, (krk (cl + 1) ar ct (f_X4_countOne num pa 5) bnd kp blm pa x).2.2.2.2.1, (krk (cl + 1) ar ct (f_X4_countOne num pa 5) bnd kp blm pa x).2.2.2.2.2.1, (krk (cl + 1) ar ct (f_X4_countOne num pa 5) bnd kp blm pa x).2.2.2.2.2.2)
        else
          if (f_X1_gives bnd (f_X1_find bnd (-10001) pa) (krk (cl + 1) ar ct (f_X4_countOne num pa 5) bnd kp blm pa x).1) = 0 then
            ((f_X4_accuse (krk (cl + 1) ar ct (f_X4_countOne num pa 5) bnd kp blm pa x).2.2.1 (krk (cl + 1) ar ct (f_X4_countOne num pa 5) bnd kp blm pa x).2.2.2.2.1 (krk (cl + 1) ar ct (f_X4_countOne num pa 5) bnd kp blm pa x).2.2.2.2.2.1 (krk (cl + 1) ar ct (f_X4_countOne num pa 5) bnd kp blm pa x).2.2.2.2.2.2 2 caller pa (krk (cl + 1) ar ct (f_X4_countOne num pa 5) bnd kp blm pa x).1).1, (krk (cl + 1) ar ct (f_X4_countOne num pa 5) bnd kp blm pa x).2.1, (f_X4_accuse (krk (cl + 1) ar ct (f_X4_countOne num pa 5) bnd kp blm pa x).2.2.1 (krk (cl + 1) ar ct (f_X4_countOne num pa 5) bnd kp blm pa x).2.2.2.2.1 (krk (cl + 1) ar ct (f_X4_countOne num pa 5) bnd kp blm pa x).2.2.2.2.2.1 (krk (cl + 1) ar ct (f_X4_countOne num pa 5) bnd kp blm pa x).2.2.2.2.2.2 2 caller pa (krk (cl + 1) ar ct (f_X4_countOne num pa 5) bnd kp blm pa x).1).2.1, (krk (cl + 1) ar ct (f_X4_countOne num pa 5) bnd kp blm pa x).2.2.2.1, (f_X4_accuse (krk (cl + 1) ar ct (f_X4_countOne num pa 5) bnd kp blm pa x).2.2.1 (krk (cl + 1) ar ct (f_X4_countOne num pa 5) bnd kp blm pa x).2.2.2.2.1 (krk (cl + 1) ar ct (f_X4_countOne num pa 5) bnd kp blm pa x).2.2.2.2.2.1 (krk (cl + 1) ar ct (f_X4_countOne num pa 5) bnd kp blm pa x).2.2.2.2.2.2 2 caller pa (krk (cl + 1) ar ct (f_X4_countOne num pa 5) bnd kp blm pa x).1).2.2.1, (f_X4_accuse (krk (cl + 1) ar ct (f_X4_countOne num pa 5) bnd kp blm pa x).2.2.1 (krk (cl + 1) ar ct (f_X4_countOne num pa 5) bnd kp blm pa x).2.2.2.2.1 (krk (cl + 1) ar ct (f_X4_countOne num pa 5) bnd kp blm pa x).2.2.2.2.2.1 (krk (cl + 1) ar ct (f_X4_countOne num pa 5) bnd kp blm pa x).2.2.2.2.2.2 2 caller pa (krk (cl + 1) ar ct (f_X4_countOne num pa 5) bnd kp blm pa x).1).2.2.2.1, (f_X4_accuse (krk (cl + 1) ar ct (f_X4_countOne num pa 5) bnd kp blm pa x).2.2.1 (krk (cl + 1) ar ct (f_X4_countOne num pa 5) bnd kp blm pa x).2.2.2.2.1 (krk (cl + 1) ar ct (f_X4_countOne num pa 5) bnd kp blm pa x).2.2.2.2.2.1 (krk (cl + 1) ar ct (f_X4_countOne num pa 5) bnd kp blm pa x).2.2.2.2.2.2 2 caller pa (krk (cl + 1) ar ct (f_X4_countOne num pa 5) bnd kp blm pa x).1).2.2.2.2)
          else
            ((krk (cl + 1) ar ct (f_X4_countOne num pa 5) bnd kp blm pa x).1, (krk (cl + 1) ar ct (f_X4_countOne num pa 5) bnd kp blm pa x).2.1, (krk (cl + 1) ar ct (f_X4_countOne num pa 5) bnd kp blm pa x).2.2.1, (krk (cl + 1) ar ct (f_X4_countOne num pa 5) bnd kp blm pa x).2.2.2.1, (krk (cl + 1) ar ct (f_X4_countOne num pa 5) bnd kp blm pa x).2.2.2.2.1, (krk (cl + 1) ar ct (f_X4_countOne num pa 5) bnd kp blm pa x).2.2.2.2.2.1, (krk (cl + 1) ar ct (f_X4_countOne num pa 5) bnd kp blm pa x).2.2.2.2.2.2)
  else
    if (f_X1_asks bnd (f_X1_find bnd caller pa) x) = 0 then
      ((f_X4_accuse ar (f_X4_countOne num pa 5) kp blm 1 caller pa x).1, (cl + 1), (f_X4_accuse ar (f_X4_countOne num pa 5) kp blm 1 caller pa x).2.1, ct, (f_X4_accuse ar (f_X4_countOne num pa 5) kp blm 1 caller pa x).2.2.1, (f_X4_accuse ar (f_X4_countOne num pa 5) kp blm 1 caller pa x).2.2.2.1, (f_X4_accuse ar (f_X4_countOne num pa 5) kp blm 1 caller pa x).2.2.2.2)
    else
      if (f_X1_find bnd (-10001) pa) = (-10000) then
        if (krk (cl + 1) ar ct (f_X4_countOne num pa 5) bnd kp blm pa x).1 = (-10000) then
          ((-10000), (krk (cl + 1) ar ct (f_X4_countOne num pa 5) bnd kp blm pa x).2.1, (krk (cl + 1) ar ct (f_X4_countOne num pa 5) bnd kp blm pa x).2.2.1, (krk (cl + 1) ar ct (f_X4_countOne num pa 5) bnd kp blm pa x).2.2.2.1, (krk (cl + 1) ar ct (f_X4_countOne num pa 5) bnd kp blm pa x).2.2.2.2.1, (krk (cl + 1) ar ct (f_X4_countOne num pa 5) bnd kp blm pa x).2.2.2.2.2.1, (krk (cl + 1) ar ct (f_X4_countOne num pa 5) bnd kp blm pa x).2.2.2.2.2.2)
        else
          if (f_X1_gives bnd (f_X1_find bnd caller pa) (krk (cl + 1) ar ct (f_X4_countOne num pa 5) bnd kp blm pa x).1) = 0 then
            ((f_X4_accuse (krk (cl + 1) ar ct (f_X4_countOne num pa 5) bnd kp blm pa x).2.2.1 (krk (cl + 1) ar ct (f_X4_countOne num pa 5) bnd kp blm pa x).2.2.2.2.1 (krk (cl + 1) ar ct (f_X4_countOne num pa 5) bnd kp blm pa x).2.2.2.2.2.1 (krk (cl + 1) ar ct (f_X4_countOne num pa 5) bnd kp blm pa x).2.2.2.2.2.2 2 caller pa (krk (cl + 1) ar ct (f_X4_countOne num pa 5) bnd kp blm pa x).1).1, (krk (cl + 1) ar ct (f_X4_countOne num pa 5) bnd kp blm pa x).2.1, (f_X4_accuse (krk (cl + 1) ar ct (f_X4_countOne num pa 5) bnd kp blm pa x).2.2.1 (krk (cl + 1) ar ct (f_X4_countOne num pa 5) bnd kp blm pa x).2.2.2.2.1 (krk (cl + 1) ar ct (f_X4_countOne num pa 5) bnd kp blm pa x).2.2.2.2.2.1 (krk (cl + 1) ar ct (f_X4_countOne num pa 5) bnd kp blm pa x).2.2.2.2.2.2 2 caller pa (krk (cl + 1) ar ct (f_X4_countOne num pa 5) bnd kp blm pa x).1).2.1, (krk (cl + 1) ar ct (f_X4_countOne num pa 5) bnd kp blm pa x).2.2.2.1, (f_X4_accuse (krk (cl + 1) ar ct (f_X4_countOne num pa 5) bnd kp blm pa x).2.2.1 (krk (cl + 1) ar ct (f_X4_countOne num pa 5) bnd kp blm pa x).2.2.2.2.1 (krk (cl + 1) ar ct (f_X4_countOne num pa 5) bnd kp blm pa x).2.2.2.2.2.1 (krk (cl + 1) ar ct (f_X4_countOne num pa 5) bnd kp blm pa x).2.2.2.2.2.2 2 caller pa (krk (cl + 1) ar ct (f_X4_countOne num pa 5) bnd kp blm pa x).1).2.2.1, (f_X4_accuse (krk (cl + 1) ar ct (f_X4_countOne num pa 5) bnd kp blm pa x).2.2.1 (krk (cl + 1) ar ct (f_X4_countOne num pa 5) bnd kp blm pa x).2.2.2.2.1 (krk (cl + 1) ar ct (f_X4_countOne num pa 5) bnd kp blm pa x).2.2.2.2.2.1 (krk (cl + 1) ar ct (f_X4_countOne num pa 5) bnd kp blm pa x).2.2.2.2.2.2 2 caller pa (krk (cl + 1) ar ct (f_X4_countOne num pa 5) bnd kp blm pa x).1).2.2.2.1, (f_X4_accuse (krk (cl + 1) ar ct (f_X4_countOne num pa 5) bnd kp blm pa x).2.2.1 (krk (cl + 1) ar ct (f_X4_countOne num pa 5) bnd kp blm pa x).2.2.2.2.1 (krk (cl + 1) ar ct (f_X4_countOne num pa 5) bnd kp blm pa x).2.2.2.2.2.1 (krk (cl + 1) ar ct (f_X4_countOne num pa 5) bnd kp blm pa x).2.2.2.2.2.2 2 caller pa (krk (cl + 1) ar ct (f_X4_countOne num pa 5) bnd kp blm pa x).1).2.2.2.2)
          else
            ((krk (cl + 1) ar ct (f_X4_countOne num pa 5) bnd kp blm pa x).1, (krk (cl + 1) ar ct (f_X4_countOne num pa 5) bnd kp blm pa x).2.1, (krk (cl + 1) ar ct (f_X4_countOne num pa 5) bnd kp blm pa x).2.2.1, (krk (cl + 1) ar ct (f_X4_countOne num pa 5) bnd kp blm pa x).2.2.2.1, (krk (cl + 1) ar ct (f_X4_countOne num pa 5) bnd kp blm pa x).2.2.2.2.1, (krk (cl + 1) ar ct (f_X4_countOne num pa 5) bnd kp blm pa x).2.2.2.2.2.1, (krk (cl + 1) ar ct (f_X4_countOne num pa 5) bnd kp blm pa x).2.2.2.2.2.2)
      else
        if (f_X1_asks bnd (f_X1_find bnd (-10001) pa) x) = 0 then
          ((f_X4_accuse ar (f_X4_countOne num pa 5) kp blm 3 caller pa x).1, (cl + 1), (f_X4_accuse ar (f_X4_countOne num pa 5) kp blm 3 caller pa x).2.1, ct, (f_X4_accuse ar (f_X4_countOne num pa 5) kp blm 3 caller pa x).2.2.1, (f_X4_accuse ar (f_X4_countOne num pa 5) kp blm 3 caller pa x).2.2.2.1, (f_X4_accuse ar (f_X4_countOne num pa 5) kp blm 3 caller pa x).2.2.2.2)
        else
          if (krk (cl + 1) ar ct (f_X4_countOne num pa 5) bnd kp blm pa x).1 = (-10000) then
            ((-10000), (krk (cl + 1) ar ct (f_X4_countOne num pa 5) bnd kp blm pa x).2.1, (krk (cl + 1) ar ct (f_X4_countOne num pa 5) bnd kp blm pa x).2.2.1, (krk (cl + 1) ar ct (f_X4_countOne num pa 5) bnd kp blm pa x).2.2.2.1, (krk (cl + 1) ar ct (f_X4_countOne num pa 5) bnd kp blm pa x).2.2.2.2.1, (krk (cl + 1) ar ct (f_X4_countOne num pa 5) bnd kp blm pa x).2.2.2.2.2.1, (krk (cl + 1) ar ct (f_X4_countOne num pa 5) bnd kp blm pa x).2.2.2.2.2.2)
          else
            if (f_X1_gives bnd (f_X1_find bnd (-10001) pa) (krk (cl + 1) ar ct (f_X4_countOne num pa 5) bnd kp blm pa x).1) = 0 then
              ((f_X4_accuse (krk (cl + 1) ar ct (f_X4_countOne num pa 5) bnd kp blm pa x).2.2.1 (krk (cl + 1) ar ct (f_X4_countOne num pa 5) bnd kp blm pa x).2.2.2.2.1 (krk (cl + 1) ar ct (f_X4_countOne num pa 5) bnd kp blm pa x).2.2.2.2.2.1 (krk (cl + 1) ar ct (f_X4_countOne num pa 5) bnd kp blm pa x).2.2.2.2.2.2 2 caller pa (krk (cl + 1) ar ct (f_X4_countOne num pa 5) bnd kp blm pa x).1).1, (krk (cl + 1) ar ct (f_X4_countOne num pa 5) bnd kp blm pa x).2.1, (f_X4_accuse (krk (cl + 1) ar ct (f_X4_countOne num pa 5) bnd kp blm pa x).2.2.1 (krk (cl + 1) ar ct (f_X4_countOne num pa 5) bnd kp blm pa x).2.2.2.2.1 (krk (cl + 1) ar ct (f_X4_countOne num pa 5) bnd kp blm pa x).2.2.2.2.2.1 (krk (cl + 1) ar ct (f_X4_countOne num pa 5) bnd kp blm pa x).2.2.2.2.2.2 2 caller pa (krk (cl + 1) ar ct (f_X4_countOne num pa 5) bnd kp blm pa x).1).2.1, (krk (cl + 1) ar ct (f_X4_countOne num pa 5) bnd kp blm pa x).2.2.2.1, (f_X4_accuse (krk (cl + 1) ar ct (f_X4_countOne num pa 5) bnd kp blm pa x).2.2.1 (krk (cl + 1) ar ct (f_X4_countOne num pa 5) bnd kp blm pa x).2.2.2.2.1 (krk (cl + 1) ar ct (f_X4_countOne num pa 5) bnd kp blm pa x).2.2.2.2.2.1 (krk (cl + 1) ar ct (f_X4_countOne num pa 5) bnd kp blm pa x).2.2.2.2.2.2 2 caller pa (krk (cl + 1) ar ct (f_X4_countOne num pa 5) bnd kp blm pa x).1).2.2.1, (f_X4_accuse (krk (cl + 1) ar ct (f_X4_countOne num pa 5) bnd kp blm pa x).2.2.1 (krk (cl + 1) ar ct (f_X4_countOne num pa 5) bnd kp blm pa x).2.2.2.2.1 (krk (cl + 1) ar ct (f_X4_countOne num pa 5) bnd kp blm pa x).2.2.2.2.2.1 (krk (cl + 1) ar ct (f_X4_countOne num pa 5) bnd kp blm pa x).2.2.2.2.2.2 2 caller pa (krk (cl + 1) ar ct (f_X4_countOne num pa 5) bnd kp blm pa x).1).2.2.2.1, (f_X4_accuse (krk (cl + 1) ar ct (f_X4_countOne num pa 5) bnd kp blm pa x).2.2.1 (krk (cl + 1) ar ct (f_X4_countOne num pa 5) bnd kp blm pa x).2.2.2.2.1 (krk (cl + 1) ar ct (f_X4_countOne num pa 5) bnd kp blm pa x).2.2.2.2.2.1 (krk (cl + 1) ar ct (f_X4_countOne num pa 5) bnd kp blm pa x).2.2.2.2.2.2 2 caller pa (krk (cl + 1) ar ct (f_X4_countOne num pa 5) bnd kp blm pa x).1).2.2.2.2)
            else
              if (f_X1_gives bnd (f_X1_find bnd caller pa) (krk (cl + 1) ar ct (f_X4_countOne num pa 5) bnd kp blm pa x).1) = 0 then
                ((f_X4_accuse (krk (cl + 1) ar ct (f_X4_countOne num pa 5) bnd kp blm pa x).2.2.1 (krk (cl + 1) ar ct (f_X4_countOne num pa 5) bnd kp blm pa x).2.2.2.2.1 (krk (cl + 1) ar ct (f_X4_countOne num pa 5) bnd kp blm pa x).2.2.2.2.2.1 (krk (cl + 1) ar ct (f_X4_countOne num pa 5) bnd kp blm pa x).2.2.2.2.2.2 3 caller pa (krk (cl + 1) ar ct (f_X4_countOne num pa 5) bnd kp blm pa x).1).1, (krk (cl + 1) ar ct (f_X4_countOne num pa 5) bnd kp blm pa x).2.1, (f_X4_accuse (krk (cl + 1) ar ct (f_X4_countOne num pa 5) bnd kp blm pa x).2.2.1 (krk (cl + 1) ar ct (f_X4_countOne num pa 5) bnd kp blm pa x).2.2.2.2.1 (krk (cl + 1) ar ct (f_X4_countOne num pa 5) bnd kp blm pa x).2.2.2.2.2.1 (krk (cl + 1) ar ct (f_X4_countOne num pa 5) bnd kp blm pa x).2.2.2.2.2.2 3 caller pa (krk (cl + 1) ar ct (f_X4_countOne num pa 5) bnd kp blm pa x).1).2.1, (krk (cl + 1) ar ct (f_X4_countOne num pa 5) bnd kp blm pa x).2.2.2.1, (f_X4_accuse (krk (cl + 1) ar ct (f_X4_countOne num pa 5) bnd kp blm pa x).2.2.1 (krk (cl + 1) ar ct (f_X4_countOne num pa 5) bnd kp blm pa x).2.2.2.2.1 (krk (cl + 1) ar ct (f_X4_countOne num pa 5) bnd kp blm pa x).2.2.2.2.2.1 (krk (cl + 1) ar ct (f_X4_countOne num pa 5) bnd kp blm pa x).2.2.2.2.2.2 3 caller pa (krk (cl + 1) ar ct (f_X4_countOne num pa 5) bnd kp blm pa x).1).2.2.1, (f_X4_accuse (krk (cl + 1) ar ct (f_X4_countOne num pa 5) bnd kp blm pa x).2.2.1 (krk (cl + 1) ar ct (f_X4_countOne num pa 5) bnd kp blm pa x).2.2.2.2.1 (krk (cl + 1) ar ct (f_X4_countOne num pa 5) bnd kp blm pa x).2.2.2.2.2.1 (krk (cl + 1) ar ct (f_X4_countOne num pa 5) bnd kp blm pa x).2.2.2.2.2.2 3 caller pa (krk (cl + 1) ar ct (f_X4_countOne num pa 5) bnd kp blm pa x).1).2.2.2.1, (f_X4_accuse (krk (cl + 1) ar ct (f_X4_countOne num pa 5) bnd kp blm pa x).2.2.1 (krk (cl + 1) ar ct (f_X4_countOne num pa 5) bnd kp blm pa x).2.2.2.2.1 (krk (cl + 1) ar ct (f_X4_countOne num pa 5) bnd kp blm pa x).2.2.2.2.2.1 (krk (cl + 1) ar ct (f_X4_countOne num pa 5) bnd kp blm pa x).2.2.2.2.2.2 3 caller pa (krk (cl + 1) ar ct (f_X4_countOne num pa 5) bnd kp blm pa x).1).2.2.2.2)
              else
                ((krk (cl + 1) ar ct (f_X4_countOne num pa 5) bnd kp blm pa x).1, (krk (cl + 1) ar ct (f_X4_countOne num pa 5) bnd kp blm pa x).2.1, (krk (cl + 1) ar ct (f_X4_countOne num pa 5) bnd kp blm pa x).2.2.1, (krk (cl + 1) ar ct (f_X4_countOne num pa 5) bnd kp blm pa x).2.2.2.1, (krk (cl + 1) ar ct (f_X4_countOne num pa 5) bnd kp blm pa x).2.2.2.2.1, (krk (cl + 1) ar ct (f_X4_countOne num pa 5) bnd kp blm pa x).2.2.2.2.2.1, (krk (cl + 1) ar ct (f_X4_countOne num pa 5) bnd kp blm pa x).2.2.2.2.2.2)
theorem qX4_callOver_0 : Cond.fieldLink RX4 39 "BlameChains$Plan" "calls" "I" ∈ wsX4_callOver := (List.mem_cons_of_mem _ (List.mem_append_left _ (List.mem_append_left _ (List.mem_append_left _ (List.mem_append_left _ (List.mem_of_getElem? (i := 0) rfl))))))
theorem qX4_callOver_1 : Cond.fieldLink RX4 12 "BlameChains$Plan" "contracts" "LBlameChains$Contracts;" ∈ wsX4_callOver := (List.mem_cons_of_mem _ (List.mem_append_left _ (List.mem_append_left _ (List.mem_append_left _ (List.mem_append_left _ (List.mem_of_getElem? (i := 1) rfl))))))
set_option maxHeartbeats 4000000 in
set_option maxRecDepth 100000 in
theorem c_X4_callOver (l : Launch) (D : va_G) (g : Nat → Nat) (p0 c0 b0 p1 c1 b1 : Nat) (sz : Nat) (pt : Int32) (cl : Int32) (cf : Int32) (ar : Int32) (co : Int32) (ct : Int32) (num : Nat → Int32) (bnd : Nat → Int32) (kp : Int32) (blm : Nat → Int32) (caller : Int32) (pa : Int32) (x : Int32) (depth : Nat) (krk : KReck) (n : Nat) (n9 : Nat) (hn : n9 < n) (h8 : 8 ≤ n) (hrk : ∀ (sz : Nat) (pt : Int32) (cl : Int32) (cf : Int32) (ar : Int32) (co : Int32) (ct : Int32) (num : Nat → Int32) (bnd : Nat → Int32) (kp : Int32) (blm : Nat → Int32) (pa x : Int32), kMi l D g yX4_reckon wsX4_reckon n9 0 0 [.ref p0, .int pa, .int x, .int (nI depth)] [(p0, .inr (4, [.ref c0, .ref b0, .ref p1, .int pt, .int cl, .int cf, .int ar, .int co, .int ct])), (p1, .inl (g 0, 80, .inl num)), (c0, .inr (1, [.ref c1])), (c1, .inl (g 0, 480, .inl bnd)), (b0, .inr (0, [.ref b1, .int kp])), (b1, .inl (g 0, 60, .inl blm))] sz ((krk cl ar ct num bnd kp blm pa x)).1 [(p0, .inr (4, [.ref c0, .ref b0, .ref p1, .int pt, .int ((krk cl ar ct num bnd kp blm pa x).2.1), .int cf, .int ((krk cl ar ct num bnd kp blm pa x).2.2.1), .int co, .int ((krk cl ar ct num bnd kp blm pa x).2.2.2.1)])), (p1, .inl (g 0, 80, .inl ((krk cl ar ct num bnd kp blm pa x).2.2.2.2.1))), (c0, .inr (1, [.ref c1])), (c1, .inl (g 0, 480, .inl bnd)), (b0, .inr (0, [.ref b1, .int ((krk cl ar ct num bnd kp blm pa x).2.2.2.2.2.1)])), (b1, .inl (g 0, 60, .inl ((krk cl ar ct num bnd kp blm pa x).2.2.2.2.2.2)))]) : kMi l D g yX4_callOver wsX4_callOver n 0 0 [.ref p0, .int caller, .int pa, .int x, .int (nI depth)] [(p0, .inr (4, [.ref c0, .ref b0, .ref p1, .int pt, .int cl, .int cf, .int ar, .int co, .int ct])), (p1, .inl (g 0, 80, .inl num)), (c0, .inr (1, [.ref c1])), (c1, .inl (g 0, 480, .inl bnd)), (b0, .inr (0, [.ref b1, .int kp])), (b1, .inl (g 0, 60, .inl blm))] sz ((f_X4_callOver cl ar ct num bnd kp blm caller pa x krk).1) [(p0, .inr (4, [.ref c0, .ref b0, .ref p1, .int pt, .int ((f_X4_callOver cl ar ct num bnd kp blm caller pa x krk).2.1), .int cf, .int ((f_X4_callOver cl ar ct num bnd kp blm caller pa x krk).2.2.1), .int co, .int ((f_X4_callOver cl ar ct num bnd kp blm caller pa x krk).2.2.2.1)])), (p1, .inl (g 0, 80, .inl ((f_X4_callOver cl ar ct num bnd kp blm caller pa x krk).2.2.2.2.1))), (c0, .inr (1, [.ref c1])), (c1, .inl (g 0, 480, .inl bnd)), (b0, .inr (0, [.ref b1, .int ((f_X4_callOver cl ar ct num bnd kp blm caller pa x krk).2.2.2.2.2.1)])), (b1, .inl (g 0, 60, .inl ((f_X4_callOver cl ar ct num bnd kp blm caller pa x krk).2.2.2.2.2.2)))] := by
  refine k_enter (nm := "callOver") (own := RX4) (bytes := cX4_callOver) (maxL := 8) (ret := (some .int)) (Qf := fun A => kQi D [(p0, .inr (4, [.ref c0, .ref b0, .ref p1, .int pt, .int ((f_X4_callOver cl ar ct num bnd kp blm caller pa x krk).2.1), .int cf, .int ((f_X4_callOver cl ar ct num bnd kp blm caller pa x krk).2.2.1), .int co, .int ((f_X4_callOver cl ar ct num bnd kp blm caller pa x krk).2.2.2.1)])), (p1, .inl (g 0, 80, .inl ((f_X4_callOver cl ar ct num bnd kp blm caller pa x krk).2.2.2.2.1))), (c0, .inr (1, [.ref c1])), (c1, .inl (g 0, 480, .inl bnd)), (b0, .inr (0, [.ref b1, .int ((f_X4_callOver cl ar ct num bnd kp blm caller pa x krk).2.2.2.2.2.1)])), (b1, .inl (g 0, 60, .inl ((f_X4_callOver cl ar ct num bnd kp blm caller pa x krk).2.2.2.2.2.2)))] A ((f_X4_callOver cl ar ct num bnd kp blm caller pa x krk).1)) (by decide) rfl rfl rfl (Nat.le_of_ble_eq_true rfl) ?_
  rintro pp ee s mm below meth cc A ls args Q H locs hQ ⟨hx, hb, hr, hml, hown, hts, hlocks, hin⟩ hP hK hD hA hS hE hl
  have hl : lv_has ls 8 [(0, .ref p0), (1, .int caller), (2, .int pa), (3, .int x), (4, .int (nI depth))] := hl
  refine lv_aload_n hx hb dX4_callOver_0 rfl (lv_at hl 0 rfl) ?_
  refine lv_dup hx hb dX4_callOver_1 rfl ?_
  refine va_get (D := D) (ci := 4) (v := .int cl) (C := RX4) (T := TX4) (N := 9) hx hb hts (fun w h => (List.mem_cons_of_mem _ (List.mem_append_left _ (List.mem_append_left _ (List.mem_append_right _ h))))) hown hK hP 0 rfl rfl 4 (by decide) (hts _ qX4_callOver_0) (fun _ h9 => h9) rfl dX4_callOver_2 ?_
  refine lv_iconst (v := 1) hx hb dX4_callOver_5 (by decide) ?_
  refine lv_iadd hx hb dX4_callOver_6 ?_
  refine va_put (D := D) (ci := 4) (v := .int (cl + 1)) (ty := .int) (C := RX4) (T := TX4) (N := 9) hx hb hts (fun w h => (List.mem_cons_of_mem _ (List.mem_append_left _ (List.mem_append_left _ (List.mem_append_right _ h))))) tyX4 tyX4_ok nmX4 hown hK hP hD hS 0 rfl rfl 4 (by decide) (hts _ qX4_callOver_0) (fun _ h9 => h9) rfl (by decide +kernel) rfl rfl (Nat.le_of_ble_eq_true rfl) dX4_callOver_7 (fun H locs hP hD hS => ?_)
  have hP : va_P D vwCl [(p0, .inr (4, [.ref c0, .ref b0, .ref p1, .int pt, .int (cl + 1), .int cf, .int ar, .int co, .int ct])), (p1, .inl (g 0, 80, .inl num)), (c0, .inr (1, [.ref c1])), (c1, .inl (g 0, 480, .inl bnd)), (b0, .inr (0, [.ref b1, .int kp])), (b1, .inl (g 0, 60, .inl blm))] H := hP
  have hD : va_D A [(p0, .inr (4, [.ref c0, .ref b0, .ref p1, .int pt, .int (cl + 1), .int cf, .int ar, .int co, .int ct])), (p1, .inl (g 0, 80, .inl num)), (c0, .inr (1, [.ref c1])), (c1, .inl (g 0, 480, .inl bnd)), (b0, .inr (0, [.ref b1, .int kp])), (b1, .inl (g 0, 60, .inl blm))] := hD
  refine lv_aload_n hx hb dX4_callOver_10 rfl (lv_at hl 0 rfl) ?_
  refine lv_iload_n hx hb dX4_callOver_11 rfl (lv_at hl 2 rfl) ?_
  refine lv_iconst (v := 5) hx hb dX4_callOver_12 (by decide) ?_
  refine k_av (wr := [(c0, .inr (1, [.ref c1])), (c1, .inl (g 0, 480, .inl bnd)), (b0, .inr (0, [.ref b1, .int kp])), (b1, .inl (g 0, 60, .inl blm))]) (w2 := [(p0, .inr (4, [.ref c0, .ref b0, .ref p1, .int pt, .int (cl + 1), .int cf, .int ar, .int co, .int ct])), (p1, .inl (g 0, 80, .inl (f_X4_countOne num pa 5))), (c0, .inr (1, [.ref c1])), (c1, .inl (g 0, 480, .inl bnd)), (b0, .inr (0, [.ref b1, .int kp])), (b1, .inl (g 0, 60, .inl blm))]) (va_runV (As := [.int pa, .int 5]) (rest := []) ⟨hx, hb, hml, hown, hts⟩ (c_X4_countOne l D g p0 c0 b0 p1 H.size pt (cl + 1) cf ar co ct num pa 5 (by omega)) (cwV 2 hts gX4_callOver_X4_countOne rfl rfl rfl (by decide +kernel) (k_lvl (by omega) (by decide))) (kPV hP hD hK hS hA hE [0, 1] rfl (by decide) 0 4 rfl rfl rfl) rfl rfl hl.1 rfl (lv_room (Nat.le_of_ble_eq_true rfl)) dX4_callOver_13 ⟨Nat.le_of_ble_eq_true rfl, Nat.le_of_ble_eq_true rfl⟩) hP hD hS hA [0, 1] [2, 3, 4, 5] [4, 5, 0, 1, 2, 3] rfl rfl (by decide) (by decide) rfl (by decide) (fun H locs hP hD hS => ?_)
  refine lv_aload_n hx hb dX4_callOver_16 rfl (lv_at hl 0 rfl) ?_
  refine va_get (D := D) (ci := 4) (v := .ref c0) (C := RX4) (T := TX4) (N := 9) hx hb hts (fun w h => (List.mem_cons_of_mem _ (List.mem_append_left _ (List.mem_append_left _ (List.mem_append_right _ h))))) hown hK hP 0 rfl rfl 0 (by decide) (hts _ qX4_callOver_1) (fun _ h9 => h9) rfl dX4_callOver_17 ?_
  refine lv_iload_n hx hb dX4_callOver_20 rfl (lv_at hl 1 rfl) ?_
  refine lv_iload_n hx hb dX4_callOver_21 rfl (lv_at hl 2 rfl) ?_
  refine k_ai (wr := [(p0, .inr (4, [.ref c0, .ref b0, .ref p1, .int pt, .int (cl + 1), .int cf, .int ar, .int co, .int ct])), (p1, .inl (g 0, 80, .inl (f_X4_countOne num pa 5))), (b0, .inr (0, [.ref b1, .int kp])), (b1, .inl (g 0, 60, .inl blm))]) (w2 := [(p0, .inr (4, [.ref c0, .ref b0, .ref p1, .int pt, .int (cl + 1), .int cf, .int ar, .int co, .int ct])), (p1, .inl (g 0, 80, .inl (f_X4_countOne num pa 5))), (c0, .inr (1, [.ref c1])), (c1, .inl (g 0, 480, .inl bnd)), (b0, .inr (0, [.ref b1, .int kp])), (b1, .inl (g 0, 60, .inl blm))]) (va_runV (As := [.int caller, .int pa]) (rest := []) ⟨hx, hb, hml, hown, hts⟩ (c_X1_find l D g c0 c1 H.size bnd caller pa) (cwV 2 hts gX4_callOver_X1_find rfl rfl rfl (by decide +kernel) (k_lvl (by omega) (by decide))) (kPV hP hD hK hS hA hE [2, 3] rfl (by decide) 2 1 rfl rfl rfl) rfl rfl hl.1 rfl (lv_room (Nat.le_of_ble_eq_true rfl)) dX4_callOver_22 ⟨Nat.le_of_ble_eq_true rfl, Nat.le_of_ble_eq_true rfl⟩) hP hD hS hA [2, 3] [0, 1, 4, 5] [0, 1, 4, 5, 2, 3] rfl rfl (by decide) (by decide) rfl (by decide) (fun H locs hP hD hS => ?_)
  refine lv_istore (lv' := [(5, .int (f_X1_find bnd caller pa)), (0, .ref p0), (1, .int caller), (2, .int pa), (3, .int x), (4, .int (nI depth))]) hx hb dX4_callOver_25 hl (by decide) rfl (fun ls hl => ?_)
  refine lv_aload_n hx hb dX4_callOver_27 rfl (lv_at hl 1 rfl) ?_
  refine va_get (D := D) (ci := 4) (v := .ref c0) (C := RX4) (T := TX4) (N := 9) hx hb hts (fun w h => (List.mem_cons_of_mem _ (List.mem_append_left _ (List.mem_append_left _ (List.mem_append_right _ h))))) hown hK hP 0 rfl rfl 0 (by decide) (hts _ qX4_callOver_1) (fun _ h9 => h9) rfl dX4_callOver_28 ?_
  refine lv_sipush (v := (-10001)) hx hb dX4_callOver_31 (by decide) ?_
  refine lv_iload_n hx hb dX4_callOver_34 rfl (lv_at hl 3 rfl) ?_
  refine k_ai (wr := [(p0, .inr (4, [.ref c0, .ref b0, .ref p1, .int pt, .int (cl + 1), .int cf, .int ar, .int co, .int ct])), (p1, .inl (g 0, 80, .inl (f_X4_countOne num pa 5))), (b0, .inr (0, [.ref b1, .int kp])), (b1, .inl (g 0, 60, .inl blm))]) (w2 := [(p0, .inr (4, [.ref c0, .ref b0, .ref p1, .int pt, .int (cl + 1), .int cf, .int ar, .int co, .int ct])), (p1, .inl (g 0, 80, .inl (f_X4_countOne num pa 5))), (c0, .inr (1, [.ref c1])), (c1, .inl (g 0, 480, .inl bnd)), (b0, .inr (0, [.ref b1, .int kp])), (b1, .inl (g 0, 60, .inl blm))]) (va_runV (As := [.int (-10001), .int pa]) (rest := []) ⟨hx, hb, hml, hown, hts⟩ (c_X1_find l D g c0 c1 H.size bnd (-10001) pa) (cwV 2 hts gX4_callOver_X1_find rfl rfl rfl (by decide +kernel) (k_lvl (by omega) (by decide))) (kPV hP hD hK hS hA hE [2, 3] rfl (by decide) 2 1 rfl rfl rfl) rfl rfl hl.1 rfl (lv_room (Nat.le_of_ble_eq_true rfl)) dX4_callOver_35 ⟨Nat.le_of_ble_eq_true rfl, Nat.le_of_ble_eq_true rfl⟩) hP hD hS hA [2, 3] [0, 1, 4, 5] [0, 1, 4, 5, 2, 3] rfl rfl (by decide) (by decide) rfl (by decide) (fun H locs hP hD hS => ?_)
  refine lv_istore (lv' := [(6, .int (f_X1_find bnd (-10001) pa)), (5, .int (f_X1_find bnd caller pa)), (0, .ref p0), (1, .int caller), (2, .int pa), (3, .int x), (4, .int (nI depth))]) hx hb dX4_callOver_38 hl (by decide) rfl (fun ls hl => ?_)
  refine lv_iload hx hb dX4_callOver_40 (lv_at hl 1 rfl) ?_
  refine lv_sipush (v := (-10000)) hx hb dX4_callOver_42 (by decide) ?_
  refine lv_icmp_eq (tgt := 70) hx hb dX4_callOver_45 (by decide) (fun c_1 => ?_) (fun c_1 => ?_)
  · refine lv_iload hx hb dX4_callOver_70 (lv_at hl 0 rfl) ?_
    refine lv_sipush (v := (-10000)) hx hb dX4_callOver_72 (by decide) ?_
    refine lv_icmp_eq (tgt := 112) hx hb dX4_callOver_75 (by decide) (fun c_2 => ?_) (fun c_2 => ?_)
    · refine lv_aload_n hx hb dX4_callOver_112 rfl (lv_at hl 2 rfl) ?_
      refine lv_iload_n hx hb dX4_callOver_113 rfl (lv_at hl 4 rfl) ?_
      refine lv_iload_n hx hb dX4_callOver_114 rfl (lv_at hl 5 rfl) ?_
      refine lv_iload hx hb dX4_callOver_115 (lv_at hl 6 rfl) ?_
      have hC := hrk H.size pt (cl + 1) cf ar co ct (f_X4_countOne num pa 5) bnd kp blm pa x
      obtain ⟨v_3, ev_3⟩ : ∃ z, z = (krk (cl + 1) ar ct (f_X4_countOne num pa 5) bnd kp blm pa x) := ⟨_, rfl⟩
      rw [← ev_3] at hC
      refine k_ai (wr := []) (w2 := [(p0, .inr (4, [.ref c0, .ref b0, .ref p1, .int pt, .int v_3.2.1, .int cf, .int v_3.2.2.1, .int co, .int v_3.2.2.2.1])), (p1, .inl (g 0, 80, .inl v_3.2.2.2.2.1)), (c0, .inr (1, [.ref c1])), (c1, .inl (g 0, 480, .inl bnd)), (b0, .inr (0, [.ref b1, .int v_3.2.2.2.2.2.1])), (b1, .inl (g 0, 60, .inl v_3.2.2.2.2.2.2))]) (va_runV (As := [.int pa, .int x, .int (nI depth)]) (rest := []) ⟨hx, hb, hml, hown, hts⟩ hC (cwV 3 hts gX4_callOver_X4_reckon rfl rfl rfl (by decide +kernel) (k_lvl (by omega) (by decide))) (kPV hP hD hK hS hA hE [0, 1, 2, 3, 4, 5] rfl (by decide) 0 4 rfl rfl rfl) rfl rfl hl.1 rfl (lv_room (Nat.le_of_ble_eq_true rfl)) dX4_callOver_117 ⟨Nat.le_of_ble_eq_true rfl, Nat.le_of_ble_eq_true rfl⟩) hP hD hS hA [0, 1, 2, 3, 4, 5] [] [0, 1, 2, 3, 4, 5] rfl rfl (by decide) (by decide) rfl (by decide) (fun H locs hP hD hS => ?_)
      refine lv_istore (lv' := [(7, .int v_3.1), (6, .int (f_X1_find bnd (-10001) pa)), (5, .int (f_X1_find bnd caller pa)), (0, .ref p0), (1, .int caller), (2, .int pa), (3, .int x), (4, .int (nI depth))]) hx hb dX4_callOver_120 hl (by decide) rfl (fun ls hl => ?_)
      refine lv_iload hx hb dX4_callOver_122 (lv_at hl 0 rfl) ?_
      refine lv_sipush (v := (-10000)) hx hb dX4_callOver_124 (by decide) ?_
      refine lv_icmp_ne (tgt := 134) hx hb dX4_callOver_127 (by decide) (fun c_4 => ?_) (fun c_4 => ?_)
      · refine lv_iload hx hb dX4_callOver_134 (lv_at hl 1 rfl) ?_
        refine lv_sipush (v := (-10000)) hx hb dX4_callOver_136 (by decide) ?_
        refine lv_icmp_eq (tgt := 166) hx hb dX4_callOver_139 (by decide) (fun _ => ?_) (fun c_5 => absurd c_2 c_5)
        refine lv_iload hx hb dX4_callOver_166 (lv_at hl 2 rfl) ?_
        refine lv_sipush (v := (-10000)) hx hb dX4_callOver_168 (by decide) ?_
        refine lv_icmp_eq (tgt := 210) hx hb dX4_callOver_171 (by decide) (fun _ => ?_) (fun c_6 => absurd c_1 c_6)
        refine lv_iload hx hb dX4_callOver_210 (lv_at hl 0 rfl) ?_
        have hE2 : (f_X4_callOver cl ar ct num bnd kp blm caller pa x krk) = (v_3.1, v_3.2.1, v_3.2.2.1, v_3.2.2.2.1, v_3.2.2.2.2.1, v_3.2.2.2.2.2.1, v_3.2.2.2.2.2.2) := by
          subst ev_3
          exact (if_pos c_1).trans ((if_pos c_2).trans ((if_neg c_4).trans (rfl)))
        subst hQ
        exact k_ri hx hb hr hlocks hP hD hS dX4_callOver_212 (by rw [hE2]) (by rw [hE2])
      · refine lv_sipush (v := (-10000)) hx hb dX4_callOver_130 (by decide) ?_
        have hE2 : (f_X4_callOver cl ar ct num bnd kp blm caller pa x krk) = ((-10000), v_3.2.1, v_3.2.2.1, v_3.2.2.2.1, v_3.2.2.2.2.1, v_3.2.2.2.2.2.1, v_3.2.2.2.2.2.2) := by
          subst ev_3
          exact (if_pos c_1).trans ((if_pos c_2).trans ((if_pos c_4).trans (rfl)))
        subst hQ
        exact k_ri hx hb hr hlocks hP hD hS dX4_callOver_133 (by rw [hE2]) (by rw [hE2])
    · refine lv_aload_n hx hb dX4_callOver_78 rfl (lv_at hl 2 rfl) ?_
      refine va_get (D := D) (ci := 4) (v := .ref c0) (C := RX4) (T := TX4) (N := 9) hx hb hts (fun w h => (List.mem_cons_of_mem _ (List.mem_append_left _ (List.mem_append_left _ (List.mem_append_right _ h))))) hown hK hP 0 rfl rfl 0 (by decide) (hts _ qX4_callOver_1) (fun _ h9 => h9) rfl dX4_callOver_79 ?_
      refine lv_iload hx hb dX4_callOver_82 (lv_at hl 0 rfl) ?_
      refine lv_iload_n hx hb dX4_callOver_84 rfl (lv_at hl 5 rfl) ?_
      refine k_ai (wr := [(p0, .inr (4, [.ref c0, .ref b0, .ref p1, .int pt, .int (cl + 1), .int cf, .int ar, .int co, .int ct])), (p1, .inl (g 0, 80, .inl (f_X4_countOne num pa 5))), (b0, .inr (0, [.ref b1, .int kp])), (b1, .inl (g 0, 60, .inl blm))]) (w2 := [(p0, .inr (4, [.ref c0, .ref b0, .ref p1, .int pt, .int (cl + 1), .int cf, .int ar, .int co, .int ct])), (p1, .inl (g 0, 80, .inl (f_X4_countOne num pa 5))), (c0, .inr (1, [.ref c1])), (c1, .inl (g 0, 480, .inl bnd)), (b0, .inr (0, [.ref b1, .int kp])), (b1, .inl (g 0, 60, .inl blm))]) (va_runV (As := [.int (f_X1_find bnd (-10001) pa), .int x]) (rest := []) ⟨hx, hb, hml, hown, hts⟩ (c_X1_asks l D g c0 c1 H.size bnd (f_X1_find bnd (-10001) pa) x (k_fN0 c_2) (k_fN3 c_2)) (cwV 2 hts gX4_callOver_X1_asks rfl rfl rfl (by decide +kernel) (k_lvl (by omega) (by decide))) (kPV hP hD hK hS hA hE [2, 3] rfl (by decide) 2 1 rfl rfl rfl) rfl rfl hl.1 rfl (lv_room (Nat.le_of_ble_eq_true rfl)) dX4_callOver_85 ⟨Nat.le_of_ble_eq_true rfl, Nat.le_of_ble_eq_true rfl⟩) hP hD hS hA [2, 3] [0, 1, 4, 5] [0, 1, 4, 5, 2, 3] rfl rfl (by decide) (by decide) rfl (by decide) (fun H locs hP hD hS => ?_)
      refine lv_if_ne (tgt := 112) hx hb dX4_callOver_88 (by decide) (fun c_7 => ?_) (fun c_7 => ?_)
      · refine lv_aload_n hx hb dX4_callOver_112 rfl (lv_at hl 2 rfl) ?_
        refine lv_iload_n hx hb dX4_callOver_113 rfl (lv_at hl 4 rfl) ?_
        refine lv_iload_n hx hb dX4_callOver_114 rfl (lv_at hl 5 rfl) ?_
        refine lv_iload hx hb dX4_callOver_115 (lv_at hl 6 rfl) ?_
        have hC := hrk H.size pt (cl + 1) cf ar co ct (f_X4_countOne num pa 5) bnd kp blm pa x
        obtain ⟨v_8, ev_8⟩ : ∃ z, z = (krk (cl + 1) ar ct (f_X4_countOne num pa 5) bnd kp blm pa x) := ⟨_, rfl⟩
        rw [← ev_8] at hC
        refine k_ai (wr := []) (w2 := [(p0, .inr (4, [.ref c0, .ref b0, .ref p1, .int pt, .int v_8.2.1, .int cf, .int v_8.2.2.1, .int co, .int v_8.2.2.2.1])), (p1, .inl (g 0, 80, .inl v_8.2.2.2.2.1)), (c0, .inr (1, [.ref c1])), (c1, .inl (g 0, 480, .inl bnd)), (b0, .inr (0, [.ref b1, .int v_8.2.2.2.2.2.1])), (b1, .inl (g 0, 60, .inl v_8.2.2.2.2.2.2))]) (va_runV (As := [.int pa, .int x, .int (nI depth)]) (rest := []) ⟨hx, hb, hml, hown, hts⟩ hC (cwV 3 hts gX4_callOver_X4_reckon rfl rfl rfl (by decide +kernel) (k_lvl (by omega) (by decide))) (kPV hP hD hK hS hA hE [0, 1, 2, 3, 4, 5] rfl (by decide) 0 4 rfl rfl rfl) rfl rfl hl.1 rfl (lv_room (Nat.le_of_ble_eq_true rfl)) dX4_callOver_117 ⟨Nat.le_of_ble_eq_true rfl, Nat.le_of_ble_eq_true rfl⟩) hP hD hS hA [0, 1, 2, 3, 4, 5] [] [0, 1, 2, 3, 4, 5] rfl rfl (by decide) (by decide) rfl (by decide) (fun H locs hP hD hS => ?_)
        refine lv_istore (lv' := [(7, .int v_8.1), (6, .int (f_X1_find bnd (-10001) pa)), (5, .int (f_X1_find bnd caller pa)), (0, .ref p0), (1, .int caller), (2, .int pa), (3, .int x), (4, .int (nI depth))]) hx hb dX4_callOver_120 hl (by decide) rfl (fun ls hl => ?_)
        refine lv_iload hx hb dX4_callOver_122 (lv_at hl 0 rfl) ?_
        refine lv_sipush (v := (-10000)) hx hb dX4_callOver_124 (by decide) ?_
        refine lv_icmp_ne (tgt := 134) hx hb dX4_callOver_127 (by decide) (fun c_9 => ?_) (fun c_9 => ?_)
        · refine lv_iload hx hb dX4_callOver_134 (lv_at hl 1 rfl) ?_
          refine lv_sipush (v := (-10000)) hx hb dX4_callOver_136 (by decide) ?_
          refine lv_icmp_eq (tgt := 166) hx hb dX4_callOver_139 (by decide) (fun c_10 => absurd c_10 c_2) (fun _ => ?_)
          refine lv_aload_n hx hb dX4_callOver_142 rfl (lv_at hl 3 rfl) ?_
          refine va_get (D := D) (ci := 4) (v := .ref c0) (C := RX4) (T := TX4) (N := 9) hx hb hts (fun w h => (List.mem_cons_of_mem _ (List.mem_append_left _ (List.mem_append_left _ (List.mem_append_right _ h))))) hown hK hP 0 rfl rfl 0 (by decide) (hts _ qX4_callOver_1) (fun _ h9 => h9) rfl dX4_callOver_143 ?_
          refine lv_iload hx hb dX4_callOver_146 (lv_at hl 1 rfl) ?_
          refine lv_iload hx hb dX4_callOver_148 (lv_at hl 0 rfl) ?_
          refine k_ai (wr := [(p0, .inr (4, [.ref c0, .ref b0, .ref p1, .int pt, .int v_8.2.1, .int cf, .int v_8.2.2.1, .int co, .int v_8.2.2.2.1])), (p1, .inl (g 0, 80, .inl v_8.2.2.2.2.1)), (b0, .inr (0, [.ref b1, .int v_8.2.2.2.2.2.1])), (b1, .inl (g 0, 60, .inl v_8.2.2.2.2.2.2))]) (w2 := [(p0, .inr (4, [.ref c0, .ref b0, .ref p1, .int pt, .int v_8.2.1, .int cf, .int v_8.2.2.1, .int co, .int v_8.2.2.2.1])), (p1, .inl (g 0, 80, .inl v_8.2.2.2.2.1)), (c0, .inr (1, [.ref c1])), (c1, .inl (g 0, 480, .inl bnd)), (b0, .inr (0, [.ref b1, .int v_8.2.2.2.2.2.1])), (b1, .inl (g 0, 60, .inl v_8.2.2.2.2.2.2))]) (va_runV (As := [.int (f_X1_find bnd (-10001) pa), .int v_8.1]) (rest := []) ⟨hx, hb, hml, hown, hts⟩ (c_X1_gives l D g c0 c1 H.size bnd (f_X1_find bnd (-10001) pa) v_8.1 (k_fN0 c_2) (k_fN3 c_2)) (cwV 2 hts gX4_callOver_X1_gives rfl rfl rfl (by decide +kernel) (k_lvl (by omega) (by decide))) (kPV hP hD hK hS hA hE [2, 3] rfl (by decide) 2 1 rfl rfl rfl) rfl rfl hl.1 rfl (lv_room (Nat.le_of_ble_eq_true rfl)) dX4_callOver_150 ⟨Nat.le_of_ble_eq_true rfl, Nat.le_of_ble_eq_true rfl⟩) hP hD hS hA [2, 3] [0, 1, 4, 5] [0, 1, 4, 5, 2, 3] rfl rfl (by decide) (by decide) rfl (by decide) (fun H locs hP hD hS => ?_)
          refine lv_if_ne (tgt := 166) hx hb dX4_callOver_153 (by decide) (fun c_11 => ?_) (fun c_11 => ?_)
          · refine lv_iload hx hb dX4_callOver_166 (lv_at hl 2 rfl) ?_
            refine lv_sipush (v := (-10000)) hx hb dX4_callOver_168 (by decide) ?_
            refine lv_icmp_eq (tgt := 210) hx hb dX4_callOver_171 (by decide) (fun _ => ?_) (fun c_12 => absurd c_1 c_12)
            refine lv_iload hx hb dX4_callOver_210 (lv_at hl 0 rfl) ?_
            have hE2 : (f_X4_callOver cl ar ct num bnd kp blm caller pa x krk) = (v_8.1, v_8.2.1, v_8.2.2.1, v_8.2.2.2.1, v_8.2.2.2.2.1, v_8.2.2.2.2.2.1, v_8.2.2.2.2.2.2) := by
              subst ev_8
              exact (if_pos c_1).trans ((if_neg c_2).trans ((if_neg c_7).trans ((if_neg c_9).trans ((if_neg c_11).trans (rfl)))))
            subst hQ
            exact k_ri hx hb hr hlocks hP hD hS dX4_callOver_212 (by rw [hE2]) (by rw [hE2])
          · refine lv_aload_n hx hb dX4_callOver_156 rfl (lv_at hl 3 rfl) ?_
            refine lv_iconst (v := 2) hx hb dX4_callOver_157 (by decide) ?_
            refine lv_iload_n hx hb dX4_callOver_158 rfl (lv_at hl 4 rfl) ?_
            refine lv_iload_n hx hb dX4_callOver_159 rfl (lv_at hl 5 rfl) ?_
            refine lv_iload hx hb dX4_callOver_160 (lv_at hl 0 rfl) ?_
            have hC := c_X4_accuse l D g p0 c0 b0 p1 c1 b1 H.size pt v_8.2.1 cf v_8.2.2.1 co v_8.2.2.2.1 v_8.2.2.2.2.1 bnd v_8.2.2.2.2.2.1 v_8.2.2.2.2.2.2 2 caller pa v_8.1
            obtain ⟨v_13, ev_13⟩ : ∃ z, z = (f_X4_accuse v_8.2.2.1 v_8.2.2.2.2.1 v_8.2.2.2.2.2.1 v_8.2.2.2.2.2.2 2 caller pa v_8.1) := ⟨_, rfl⟩
            rw [← ev_13] at hC
            refine k_ai (wr := []) (w2 := [(p0, .inr (4, [.ref c0, .ref b0, .ref p1, .int pt, .int v_8.2.1, .int cf, .int v_13.2.1, .int co, .int v_8.2.2.2.1])), (p1, .inl (g 0, 80, .inl v_13.2.2.1)), (c0, .inr (1, [.ref c1])), (c1, .inl (g 0, 480, .inl bnd)), (b0, .inr (0, [.ref b1, .int v_13.2.2.2.1])), (b1, .inl (g 0, 60, .inl v_13.2.2.2.2))]) (va_runV (As := [.int 2, .int caller, .int pa, .int v_8.1]) (rest := []) ⟨hx, hb, hml, hown, hts⟩ hC (cwV 4 hts gX4_callOver_X4_accuse rfl rfl rfl (by decide +kernel) (k_lvl (by omega) (by decide))) (kPV hP hD hK hS hA hE [0, 1, 2, 3, 4, 5] rfl (by decide) 0 4 rfl rfl rfl) rfl rfl hl.1 rfl (lv_room (Nat.le_of_ble_eq_true rfl)) dX4_callOver_162 ⟨Nat.le_of_ble_eq_true rfl, Nat.le_of_ble_eq_true rfl⟩) hP hD hS hA [0, 1, 2, 3, 4, 5] [] [0, 1, 2, 3, 4, 5] rfl rfl (by decide) (by decide) rfl (by decide) (fun H locs hP hD hS => ?_)
            have hE2 : (f_X4_callOver cl ar ct num bnd kp blm caller pa x krk) = (v_13.1, v_8.2.1, v_13.2.1, v_8.2.2.2.1, v_13.2.2.1, v_13.2.2.2.1, v_13.2.2.2.2) := by
              subst ev_13
              subst ev_8
              exact (if_pos c_1).trans ((if_neg c_2).trans ((if_neg c_7).trans ((if_neg c_9).trans ((if_pos c_11).trans (rfl)))))
            subst hQ
            exact k_ri hx hb hr hlocks hP hD hS dX4_callOver_165 (by rw [hE2]) (by rw [hE2])
        · refine lv_sipush (v := (-10000)) hx hb dX4_callOver_130 (by decide) ?_
          have hE2 : (f_X4_callOver cl ar ct num bnd kp blm caller pa x krk) = ((-10000), v_8.2.1, v_8.2.2.1, v_8.2.2.2.1, v_8.2.2.2.2.1, v_8.2.2.2.2.2.1, v_8.2.2.2.2.2.2) := by
            subst ev_8
            exact (if_pos c_1).trans ((if_neg c_2).trans ((if_neg c_7).trans ((if_pos c_9).trans (rfl))))
          subst hQ
          exact k_ri hx hb hr hlocks hP hD hS dX4_callOver_133 (by rw [hE2]) (by rw [hE2])
      · refine lv_aload_n hx hb dX4_callOver_91 rfl (lv_at hl 2 rfl) ?_
        refine lv_iload hx hb dX4_callOver_92 (lv_at hl 1 rfl) ?_
        refine lv_sipush (v := (-10000)) hx hb dX4_callOver_94 (by decide) ?_
        refine lv_icmp_eq (tgt := 104) hx hb dX4_callOver_97 (by decide) (fun _ => ?_) (fun c_14 => absurd c_1 c_14)
        refine lv_iconst (v := 1) hx hb dX4_callOver_104 (by decide) ?_
        refine lv_iload_n hx hb dX4_callOver_105 rfl (lv_at hl 3 rfl) ?_
        refine lv_iload_n hx hb dX4_callOver_106 rfl (lv_at hl 4 rfl) ?_
        refine lv_iload_n hx hb dX4_callOver_107 rfl (lv_at hl 5 rfl) ?_
        have hC := c_X4_accuse l D g p0 c0 b0 p1 c1 b1 H.size pt (cl + 1) cf ar co ct (f_X4_countOne num pa 5) bnd kp blm 1 caller pa x
        obtain ⟨v_15, ev_15⟩ : ∃ z, z = (f_X4_accuse ar (f_X4_countOne num pa 5) kp blm 1 caller pa x) := ⟨_, rfl⟩
        rw [← ev_15] at hC
        refine k_ai (wr := []) (w2 := [(p0, .inr (4, [.ref c0, .ref b0, .ref p1, .int pt, .int (cl + 1), .int cf, .int v_15.2.1, .int co, .int ct])), (p1, .inl (g 0, 80, .inl v_15.2.2.1)), (c0, .inr (1, [.ref c1])), (c1, .inl (g 0, 480, .inl bnd)), (b0, .inr (0, [.ref b1, .int v_15.2.2.2.1])), (b1, .inl (g 0, 60, .inl v_15.2.2.2.2))]) (va_runV (As := [.int 1, .int caller, .int pa, .int x]) (rest := []) ⟨hx, hb, hml, hown, hts⟩ hC (cwV 4 hts gX4_callOver_X4_accuse rfl rfl rfl (by decide +kernel) (k_lvl (by omega) (by decide))) (kPV hP hD hK hS hA hE [0, 1, 2, 3, 4, 5] rfl (by decide) 0 4 rfl rfl rfl) rfl rfl hl.1 rfl (lv_room (Nat.le_of_ble_eq_true rfl)) dX4_callOver_108 ⟨Nat.le_of_ble_eq_true rfl, Nat.le_of_ble_eq_true rfl⟩) hP hD hS hA [0, 1, 2, 3, 4, 5] [] [0, 1, 2, 3, 4, 5] rfl rfl (by decide) (by decide) rfl (by decide) (fun H locs hP hD hS => ?_)
        have hE2 : (f_X4_callOver cl ar ct num bnd kp blm caller pa x krk) = (v_15.1, (cl + 1), v_15.2.1, ct, v_15.2.2.1, v_15.2.2.2.1, v_15.2.2.2.2) := by
          subst ev_15
          exact (if_pos c_1).trans ((if_neg c_2).trans ((if_pos c_7).trans (rfl)))
        subst hQ
        exact k_ri hx hb hr hlocks hP hD hS dX4_callOver_111 (by rw [hE2]) (by rw [hE2])
  · refine lv_aload_n hx hb dX4_callOver_48 rfl (lv_at hl 2 rfl) ?_
    refine va_get (D := D) (ci := 4) (v := .ref c0) (C := RX4) (T := TX4) (N := 9) hx hb hts (fun w h => (List.mem_cons_of_mem _ (List.mem_append_left _ (List.mem_append_left _ (List.mem_append_right _ h))))) hown hK hP 0 rfl rfl 0 (by decide) (hts _ qX4_callOver_1) (fun _ h9 => h9) rfl dX4_callOver_49 ?_
    refine lv_iload hx hb dX4_callOver_52 (lv_at hl 1 rfl) ?_
    refine lv_iload_n hx hb dX4_callOver_54 rfl (lv_at hl 5 rfl) ?_
    refine k_ai (wr := [(p0, .inr (4, [.ref c0, .ref b0, .ref p1, .int pt, .int (cl + 1), .int cf, .int ar, .int co, .int ct])), (p1, .inl (g 0, 80, .inl (f_X4_countOne num pa 5))), (b0, .inr (0, [.ref b1, .int kp])), (b1, .inl (g 0, 60, .inl blm))]) (w2 := [(p0, .inr (4, [.ref c0, .ref b0, .ref p1, .int pt, .int (cl + 1), .int cf, .int ar, .int co, .int ct])), (p1, .inl (g 0, 80, .inl (f_X4_countOne num pa 5))), (c0, .inr (1, [.ref c1])), (c1, .inl (g 0, 480, .inl bnd)), (b0, .inr (0, [.ref b1, .int kp])), (b1, .inl (g 0, 60, .inl blm))]) (va_runV (As := [.int (f_X1_find bnd caller pa), .int x]) (rest := []) ⟨hx, hb, hml, hown, hts⟩ (c_X1_asks l D g c0 c1 H.size bnd (f_X1_find bnd caller pa) x (k_fN0 c_1) (k_fN3 c_1)) (cwV 2 hts gX4_callOver_X1_asks rfl rfl rfl (by decide +kernel) (k_lvl (by omega) (by decide))) (kPV hP hD hK hS hA hE [2, 3] rfl (by decide) 2 1 rfl rfl rfl) rfl rfl hl.1 rfl (lv_room (Nat.le_of_ble_eq_true rfl)) dX4_callOver_55 ⟨Nat.le_of_ble_eq_true rfl, Nat.le_of_ble_eq_true rfl⟩) hP hD hS hA [2, 3] [0, 1, 4, 5] [0, 1, 4, 5, 2, 3] rfl rfl (by decide) (by decide) rfl (by decide) (fun H locs hP hD hS => ?_)
    refine lv_if_ne (tgt := 70) hx hb dX4_callOver_58 (by decide) (fun c_16 => ?_) (fun c_16 => ?_)
    · refine lv_iload hx hb dX4_callOver_70 (lv_at hl 0 rfl) ?_
      refine lv_sipush (v := (-10000)) hx hb dX4_callOver_72 (by decide) ?_
      refine lv_icmp_eq (tgt := 112) hx hb dX4_callOver_75 (by decide) (fun c_17 => ?_) (fun c_17 => ?_)
      · refine lv_aload_n hx hb dX4_callOver_112 rfl (lv_at hl 2 rfl) ?_
        refine lv_iload_n hx hb dX4_callOver_113 rfl (lv_at hl 4 rfl) ?_
        refine lv_iload_n hx hb dX4_callOver_114 rfl (lv_at hl 5 rfl) ?_
        refine lv_iload hx hb dX4_callOver_115 (lv_at hl 6 rfl) ?_
        have hC := hrk H.size pt (cl + 1) cf ar co ct (f_X4_countOne num pa 5) bnd kp blm pa x
        obtain ⟨v_18, ev_18⟩ : ∃ z, z = (krk (cl + 1) ar ct (f_X4_countOne num pa 5) bnd kp blm pa x) := ⟨_, rfl⟩
        rw [← ev_18] at hC
        refine k_ai (wr := []) (w2 := [(p0, .inr (4, [.ref c0, .ref b0, .ref p1, .int pt, .int v_18.2.1, .int cf, .int v_18.2.2.1, .int co, .int v_18.2.2.2.1])), (p1, .inl (g 0, 80, .inl v_18.2.2.2.2.1)), (c0, .inr (1, [.ref c1])), (c1, .inl (g 0, 480, .inl bnd)), (b0, .inr (0, [.ref b1, .int v_18.2.2.2.2.2.1])), (b1, .inl (g 0, 60, .inl v_18.2.2.2.2.2.2))]) (va_runV (As := [.int pa, .int x, .int (nI depth)]) (rest := []) ⟨hx, hb, hml, hown, hts⟩ hC (cwV 3 hts gX4_callOver_X4_reckon rfl rfl rfl (by decide +kernel) (k_lvl (by omega) (by decide))) (kPV hP hD hK hS hA hE [0, 1, 2, 3, 4, 5] rfl (by decide) 0 4 rfl rfl rfl) rfl rfl hl.1 rfl (lv_room (Nat.le_of_ble_eq_true rfl)) dX4_callOver_117 ⟨Nat.le_of_ble_eq_true rfl, Nat.le_of_ble_eq_true rfl⟩) hP hD hS hA [0, 1, 2, 3, 4, 5] [] [0, 1, 2, 3, 4, 5] rfl rfl (by decide) (by decide) rfl (by decide) (fun H locs hP hD hS => ?_)
        refine lv_istore (lv' := [(7, .int v_18.1), (6, .int (f_X1_find bnd (-10001) pa)), (5, .int (f_X1_find bnd caller pa)), (0, .ref p0), (1, .int caller), (2, .int pa), (3, .int x), (4, .int (nI depth))]) hx hb dX4_callOver_120 hl (by decide) rfl (fun ls hl => ?_)
        refine lv_iload hx hb dX4_callOver_122 (lv_at hl 0 rfl) ?_
        refine lv_sipush (v := (-10000)) hx hb dX4_callOver_124 (by decide) ?_
        refine lv_icmp_ne (tgt := 134) hx hb dX4_callOver_127 (by decide) (fun c_19 => ?_) (fun c_19 => ?_)
        · refine lv_iload hx hb dX4_callOver_134 (lv_at hl 1 rfl) ?_
          refine lv_sipush (v := (-10000)) hx hb dX4_callOver_136 (by decide) ?_
          refine lv_icmp_eq (tgt := 166) hx hb dX4_callOver_139 (by decide) (fun _ => ?_) (fun c_20 => absurd c_17 c_20)
          refine lv_iload hx hb dX4_callOver_166 (lv_at hl 2 rfl) ?_
          refine lv_sipush (v := (-10000)) hx hb dX4_callOver_168 (by decide) ?_
          refine lv_icmp_eq (tgt := 210) hx hb dX4_callOver_171 (by decide) (fun c_21 => absurd c_21 c_1) (fun _ => ?_)
          refine lv_aload_n hx hb dX4_callOver_174 rfl (lv_at hl 3 rfl) ?_
          refine va_get (D := D) (ci := 4) (v := .ref c0) (C := RX4) (T := TX4) (N := 9) hx hb hts (fun w h => (List.mem_cons_of_mem _ (List.mem_append_left _ (List.mem_append_left _ (List.mem_append_right _ h))))) hown hK hP 0 rfl rfl 0 (by decide) (hts _ qX4_callOver_1) (fun _ h9 => h9) rfl dX4_callOver_175 ?_
          refine lv_iload hx hb dX4_callOver_178 (lv_at hl 2 rfl) ?_
          refine lv_iload hx hb dX4_callOver_180 (lv_at hl 0 rfl) ?_
          refine k_ai (wr := [(p0, .inr (4, [.ref c0, .ref b0, .ref p1, .int pt, .int v_18.2.1, .int cf, .int v_18.2.2.1, .int co, .int v_18.2.2.2.1])), (p1, .inl (g 0, 80, .inl v_18.2.2.2.2.1)), (b0, .inr (0, [.ref b1, .int v_18.2.2.2.2.2.1])), (b1, .inl (g 0, 60, .inl v_18.2.2.2.2.2.2))]) (w2 := [(p0, .inr (4, [.ref c0, .ref b0, .ref p1, .int pt, .int v_18.2.1, .int cf, .int v_18.2.2.1, .int co, .int v_18.2.2.2.1])), (p1, .inl (g 0, 80, .inl v_18.2.2.2.2.1)), (c0, .inr (1, [.ref c1])), (c1, .inl (g 0, 480, .inl bnd)), (b0, .inr (0, [.ref b1, .int v_18.2.2.2.2.2.1])), (b1, .inl (g 0, 60, .inl v_18.2.2.2.2.2.2))]) (va_runV (As := [.int (f_X1_find bnd caller pa), .int v_18.1]) (rest := []) ⟨hx, hb, hml, hown, hts⟩ (c_X1_gives l D g c0 c1 H.size bnd (f_X1_find bnd caller pa) v_18.1 (k_fN0 c_1) (k_fN3 c_1)) (cwV 2 hts gX4_callOver_X1_gives rfl rfl rfl (by decide +kernel) (k_lvl (by omega) (by decide))) (kPV hP hD hK hS hA hE [2, 3] rfl (by decide) 2 1 rfl rfl rfl) rfl rfl hl.1 rfl (lv_room (Nat.le_of_ble_eq_true rfl)) dX4_callOver_182 ⟨Nat.le_of_ble_eq_true rfl, Nat.le_of_ble_eq_true rfl⟩) hP hD hS hA [2, 3] [0, 1, 4, 5] [0, 1, 4, 5, 2, 3] rfl rfl (by decide) (by decide) rfl (by decide) (fun H locs hP hD hS => ?_)
          refine lv_if_ne (tgt := 210) hx hb dX4_callOver_185 (by decide) (fun c_22 => ?_) (fun c_22 => ?_)
          · refine lv_iload hx hb dX4_callOver_210 (lv_at hl 0 rfl) ?_
            have hE2 : (f_X4_callOver cl ar ct num bnd kp blm caller pa x krk) = (v_18.1, v_18.2.1, v_18.2.2.1, v_18.2.2.2.1, v_18.2.2.2.2.1, v_18.2.2.2.2.2.1, v_18.2.2.2.2.2.2) := by
              subst ev_18
              exact (if_neg c_1).trans ((if_neg c_16).trans ((if_pos c_17).trans ((if_neg c_19).trans ((if_neg c_22).trans (rfl)))))
            subst hQ
            exact k_ri hx hb hr hlocks hP hD hS dX4_callOver_212 (by rw [hE2]) (by rw [hE2])
          · refine lv_aload_n hx hb dX4_callOver_188 rfl (lv_at hl 3 rfl) ?_
            refine lv_iload hx hb dX4_callOver_189 (lv_at hl 1 rfl) ?_
            refine lv_sipush (v := (-10000)) hx hb dX4_callOver_191 (by decide) ?_
            refine lv_icmp_eq (tgt := 201) hx hb dX4_callOver_194 (by decide) (fun _ => ?_) (fun c_23 => absurd c_17 c_23)
            refine lv_iconst (v := 2) hx hb dX4_callOver_201 (by decide) ?_
            refine lv_iload_n hx hb dX4_callOver_202 rfl (lv_at hl 4 rfl) ?_
            refine lv_iload_n hx hb dX4_callOver_203 rfl (lv_at hl 5 rfl) ?_
            refine lv_iload hx hb dX4_callOver_204 (lv_at hl 0 rfl) ?_
            have hC := c_X4_accuse l D g p0 c0 b0 p1 c1 b1 H.size pt v_18.2.1 cf v_18.2.2.1 co v_18.2.2.2.1 v_18.2.2.2.2.1 bnd v_18.2.2.2.2.2.1 v_18.2.2.2.2.2.2 2 caller pa v_18.1
            obtain ⟨v_24, ev_24⟩ : ∃ z, z = (f_X4_accuse v_18.2.2.1 v_18.2.2.2.2.1 v_18.2.2.2.2.2.1 v_18.2.2.2.2.2.2 2 caller pa v_18.1) := ⟨_, rfl⟩
            rw [← ev_24] at hC
            refine k_ai (wr := []) (w2 := [(p0, .inr (4, [.ref c0, .ref b0, .ref p1, .int pt, .int v_18.2.1, .int cf, .int v_24.2.1, .int co, .int v_18.2.2.2.1])), (p1, .inl (g 0, 80, .inl v_24.2.2.1)), (c0, .inr (1, [.ref c1])), (c1, .inl (g 0, 480, .inl bnd)), (b0, .inr (0, [.ref b1, .int v_24.2.2.2.1])), (b1, .inl (g 0, 60, .inl v_24.2.2.2.2))]) (va_runV (As := [.int 2, .int caller, .int pa, .int v_18.1]) (rest := []) ⟨hx, hb, hml, hown, hts⟩ hC (cwV 4 hts gX4_callOver_X4_accuse rfl rfl rfl (by decide +kernel) (k_lvl (by omega) (by decide))) (kPV hP hD hK hS hA hE [0, 1, 2, 3, 4, 5] rfl (by decide) 0 4 rfl rfl rfl) rfl rfl hl.1 rfl (lv_room (Nat.le_of_ble_eq_true rfl)) dX4_callOver_206 ⟨Nat.le_of_ble_eq_true rfl, Nat.le_of_ble_eq_true rfl⟩) hP hD hS hA [0, 1, 2, 3, 4, 5] [] [0, 1, 2, 3, 4, 5] rfl rfl (by decide) (by decide) rfl (by decide) (fun H locs hP hD hS => ?_)
            have hE2 : (f_X4_callOver cl ar ct num bnd kp blm caller pa x krk) = (v_24.1, v_18.2.1, v_24.2.1, v_18.2.2.2.1, v_24.2.2.1, v_24.2.2.2.1, v_24.2.2.2.2) := by
              subst ev_24
              subst ev_18
              exact (if_neg c_1).trans ((if_neg c_16).trans ((if_pos c_17).trans ((if_neg c_19).trans ((if_pos c_22).trans (rfl)))))
            subst hQ
            exact k_ri hx hb hr hlocks hP hD hS dX4_callOver_209 (by rw [hE2]) (by rw [hE2])
        · refine lv_sipush (v := (-10000)) hx hb dX4_callOver_130 (by decide) ?_
          have hE2 : (f_X4_callOver cl ar ct num bnd kp blm caller pa x krk) = ((-10000), v_18.2.1, v_18.2.2.1, v_18.2.2.2.1, v_18.2.2.2.2.1, v_18.2.2.2.2.2.1, v_18.2.2.2.2.2.2) := by
            subst ev_18
            exact (if_neg c_1).trans ((if_neg c_16).trans ((if_pos c_17).trans ((if_pos c_19).trans (rfl))))
          subst hQ
          exact k_ri hx hb hr hlocks hP hD hS dX4_callOver_133 (by rw [hE2]) (by rw [hE2])
      · refine lv_aload_n hx hb dX4_callOver_78 rfl (lv_at hl 2 rfl) ?_
        refine va_get (D := D) (ci := 4) (v := .ref c0) (C := RX4) (T := TX4) (N := 9) hx hb hts (fun w h => (List.mem_cons_of_mem _ (List.mem_append_left _ (List.mem_append_left _ (List.mem_append_right _ h))))) hown hK hP 0 rfl rfl 0 (by decide) (hts _ qX4_callOver_1) (fun _ h9 => h9) rfl dX4_callOver_79 ?_
        refine lv_iload hx hb dX4_callOver_82 (lv_at hl 0 rfl) ?_
        refine lv_iload_n hx hb dX4_callOver_84 rfl (lv_at hl 5 rfl) ?_
        refine k_ai (wr := [(p0, .inr (4, [.ref c0, .ref b0, .ref p1, .int pt, .int (cl + 1), .int cf, .int ar, .int co, .int ct])), (p1, .inl (g 0, 80, .inl (f_X4_countOne num pa 5))), (b0, .inr (0, [.ref b1, .int kp])), (b1, .inl (g 0, 60, .inl blm))]) (w2 := [(p0, .inr (4, [.ref c0, .ref b0, .ref p1, .int pt, .int (cl + 1), .int cf, .int ar, .int co, .int ct])), (p1, .inl (g 0, 80, .inl (f_X4_countOne num pa 5))), (c0, .inr (1, [.ref c1])), (c1, .inl (g 0, 480, .inl bnd)), (b0, .inr (0, [.ref b1, .int kp])), (b1, .inl (g 0, 60, .inl blm))]) (va_runV (As := [.int (f_X1_find bnd (-10001) pa), .int x]) (rest := []) ⟨hx, hb, hml, hown, hts⟩ (c_X1_asks l D g c0 c1 H.size bnd (f_X1_find bnd (-10001) pa) x (k_fN0 c_17) (k_fN3 c_17)) (cwV 2 hts gX4_callOver_X1_asks rfl rfl rfl (by decide +kernel) (k_lvl (by omega) (by decide))) (kPV hP hD hK hS hA hE [2, 3] rfl (by decide) 2 1 rfl rfl rfl) rfl rfl hl.1 rfl (lv_room (Nat.le_of_ble_eq_true rfl)) dX4_callOver_85 ⟨Nat.le_of_ble_eq_true rfl, Nat.le_of_ble_eq_true rfl⟩) hP hD hS hA [2, 3] [0, 1, 4, 5] [0, 1, 4, 5, 2, 3] rfl rfl (by decide) (by decide) rfl (by decide) (fun H locs hP hD hS => ?_)
        refine lv_if_ne (tgt := 112) hx hb dX4_callOver_88 (by decide) (fun c_25 => ?_) (fun c_25 => ?_)
        · refine lv_aload_n hx hb dX4_callOver_112 rfl (lv_at hl 2 rfl) ?_
          refine lv_iload_n hx hb dX4_callOver_113 rfl (lv_at hl 4 rfl) ?_
          refine lv_iload_n hx hb dX4_callOver_114 rfl (lv_at hl 5 rfl) ?_
          refine lv_iload hx hb dX4_callOver_115 (lv_at hl 6 rfl) ?_
          have hC := hrk H.size pt (cl + 1) cf ar co ct (f_X4_countOne num pa 5) bnd kp blm pa x
          obtain ⟨v_26, ev_26⟩ : ∃ z, z = (krk (cl + 1) ar ct (f_X4_countOne num pa 5) bnd kp blm pa x) := ⟨_, rfl⟩
          rw [← ev_26] at hC
          refine k_ai (wr := []) (w2 := [(p0, .inr (4, [.ref c0, .ref b0, .ref p1, .int pt, .int v_26.2.1, .int cf, .int v_26.2.2.1, .int co, .int v_26.2.2.2.1])), (p1, .inl (g 0, 80, .inl v_26.2.2.2.2.1)), (c0, .inr (1, [.ref c1])), (c1, .inl (g 0, 480, .inl bnd)), (b0, .inr (0, [.ref b1, .int v_26.2.2.2.2.2.1])), (b1, .inl (g 0, 60, .inl v_26.2.2.2.2.2.2))]) (va_runV (As := [.int pa, .int x, .int (nI depth)]) (rest := []) ⟨hx, hb, hml, hown, hts⟩ hC (cwV 3 hts gX4_callOver_X4_reckon rfl rfl rfl (by decide +kernel) (k_lvl (by omega) (by decide))) (kPV hP hD hK hS hA hE [0, 1, 2, 3, 4, 5] rfl (by decide) 0 4 rfl rfl rfl) rfl rfl hl.1 rfl (lv_room (Nat.le_of_ble_eq_true rfl)) dX4_callOver_117 ⟨Nat.le_of_ble_eq_true rfl, Nat.le_of_ble_eq_true rfl⟩) hP hD hS hA [0, 1, 2, 3, 4, 5] [] [0, 1, 2, 3, 4, 5] rfl rfl (by decide) (by decide) rfl (by decide) (fun H locs hP hD hS => ?_)
          refine lv_istore (lv' := [(7, .int v_26.1), (6, .int (f_X1_find bnd (-10001) pa)), (5, .int (f_X1_find bnd caller pa)), (0, .ref p0), (1, .int caller), (2, .int pa), (3, .int x), (4, .int (nI depth))]) hx hb dX4_callOver_120 hl (by decide) rfl (fun ls hl => ?_)
          refine lv_iload hx hb dX4_callOver_122 (lv_at hl 0 rfl) ?_
          refine lv_sipush (v := (-10000)) hx hb dX4_callOver_124 (by decide) ?_
          refine lv_icmp_ne (tgt := 134) hx hb dX4_callOver_127 (by decide) (fun c_27 => ?_) (fun c_27 => ?_)
          · refine lv_iload hx hb dX4_callOver_134 (lv_at hl 1 rfl) ?_
            refine lv_sipush (v := (-10000)) hx hb dX4_callOver_136 (by decide) ?_
            refine lv_icmp_eq (tgt := 166) hx hb dX4_callOver_139 (by decide) (fun c_28 => absurd c_28 c_17) (fun _ => ?_)
            refine lv_aload_n hx hb dX4_callOver_142 rfl (lv_at hl 3 rfl) ?_
            refine va_get (D := D) (ci := 4) (v := .ref c0) (C := RX4) (T := TX4) (N := 9) hx hb hts (fun w h => (List.mem_cons_of_mem _ (List.mem_append_left _ (List.mem_append_left _ (List.mem_append_right _ h))))) hown hK hP 0 rfl rfl 0 (by decide) (hts _ qX4_callOver_1) (fun _ h9 => h9) rfl dX4_callOver_143 ?_
            refine lv_iload hx hb dX4_callOver_146 (lv_at hl 1 rfl) ?_
            refine lv_iload hx hb dX4_callOver_148 (lv_at hl 0 rfl) ?_
            refine k_ai (wr := [(p0, .inr (4, [.ref c0, .ref b0, .ref p1, .int pt, .int v_26.2.1, .int cf, .int v_26.2.2.1, .int co, .int v_26.2.2.2.1])), (p1, .inl (g 0, 80, .inl v_26.2.2.2.2.1)), (b0, .inr (0, [.ref b1, .int v_26.2.2.2.2.2.1])), (b1, .inl (g 0, 60, .inl v_26.2.2.2.2.2.2))]) (w2 := [(p0, .inr (4, [.ref c0, .ref b0, .ref p1, .int pt, .int v_26.2.1, .int cf, .int v_26.2.2.1, .int co, .int v_26.2.2.2.1])), (p1, .inl (g 0, 80, .inl v_26.2.2.2.2.1)), (c0, .inr (1, [.ref c1])), (c1, .inl (g 0, 480, .inl bnd)), (b0, .inr (0, [.ref b1, .int v_26.2.2.2.2.2.1])), (b1, .inl (g 0, 60, .inl v_26.2.2.2.2.2.2))]) (va_runV (As := [.int (f_X1_find bnd (-10001) pa), .int v_26.1]) (rest := []) ⟨hx, hb, hml, hown, hts⟩ (c_X1_gives l D g c0 c1 H.size bnd (f_X1_find bnd (-10001) pa) v_26.1 (k_fN0 c_17) (k_fN3 c_17)) (cwV 2 hts gX4_callOver_X1_gives rfl rfl rfl (by decide +kernel) (k_lvl (by omega) (by decide))) (kPV hP hD hK hS hA hE [2, 3] rfl (by decide) 2 1 rfl rfl rfl) rfl rfl hl.1 rfl (lv_room (Nat.le_of_ble_eq_true rfl)) dX4_callOver_150 ⟨Nat.le_of_ble_eq_true rfl, Nat.le_of_ble_eq_true rfl⟩) hP hD hS hA [2, 3] [0, 1, 4, 5] [0, 1, 4, 5, 2, 3] rfl rfl (by decide) (by decide) rfl (by decide) (fun H locs hP hD hS => ?_)
            refine lv_if_ne (tgt := 166) hx hb dX4_callOver_153 (by decide) (fun c_29 => ?_) (fun c_29 => ?_)
            · refine lv_iload hx hb dX4_callOver_166 (lv_at hl 2 rfl) ?_
              refine lv_sipush (v := (-10000)) hx hb dX4_callOver_168 (by decide) ?_
              refine lv_icmp_eq (tgt := 210) hx hb dX4_callOver_171 (by decide) (fun c_30 => absurd c_30 c_1) (fun _ => ?_)
              refine lv_aload_n hx hb dX4_callOver_174 rfl (lv_at hl 3 rfl) ?_
              refine va_get (D := D) (ci := 4) (v := .ref c0) (C := RX4) (T := TX4) (N := 9) hx hb hts (fun w h => (List.mem_cons_of_mem _ (List.mem_append_left _ (List.mem_append_left _ (List.mem_append_right _ h))))) hown hK hP 0 rfl rfl 0 (by decide) (hts _ qX4_callOver_1) (fun _ h9 => h9) rfl dX4_callOver_175 ?_
              refine lv_iload hx hb dX4_callOver_178 (lv_at hl 2 rfl) ?_
              refine lv_iload hx hb dX4_callOver_180 (lv_at hl 0 rfl) ?_
              refine k_ai (wr := [(p0, .inr (4, [.ref c0, .ref b0, .ref p1, .int pt, .int v_26.2.1, .int cf, .int v_26.2.2.1, .int co, .int v_26.2.2.2.1])), (p1, .inl (g 0, 80, .inl v_26.2.2.2.2.1)), (b0, .inr (0, [.ref b1, .int v_26.2.2.2.2.2.1])), (b1, .inl (g 0, 60, .inl v_26.2.2.2.2.2.2))]) (w2 := [(p0, .inr (4, [.ref c0, .ref b0, .ref p1, .int pt, .int v_26.2.1, .int cf, .int v_26.2.2.1, .int co, .int v_26.2.2.2.1])), (p1, .inl (g 0, 80, .inl v_26.2.2.2.2.1)), (c0, .inr (1, [.ref c1])), (c1, .inl (g 0, 480, .inl bnd)), (b0, .inr (0, [.ref b1, .int v_26.2.2.2.2.2.1])), (b1, .inl (g 0, 60, .inl v_26.2.2.2.2.2.2))]) (va_runV (As := [.int (f_X1_find bnd caller pa), .int v_26.1]) (rest := []) ⟨hx, hb, hml, hown, hts⟩ (c_X1_gives l D g c0 c1 H.size bnd (f_X1_find bnd caller pa) v_26.1 (k_fN0 c_1) (k_fN3 c_1)) (cwV 2 hts gX4_callOver_X1_gives rfl rfl rfl (by decide +kernel) (k_lvl (by omega) (by decide))) (kPV hP hD hK hS hA hE [2, 3] rfl (by decide) 2 1 rfl rfl rfl) rfl rfl hl.1 rfl (lv_room (Nat.le_of_ble_eq_true rfl)) dX4_callOver_182 ⟨Nat.le_of_ble_eq_true rfl, Nat.le_of_ble_eq_true rfl⟩) hP hD hS hA [2, 3] [0, 1, 4, 5] [0, 1, 4, 5, 2, 3] rfl rfl (by decide) (by decide) rfl (by decide) (fun H locs hP hD hS => ?_)
              refine lv_if_ne (tgt := 210) hx hb dX4_callOver_185 (by decide) (fun c_31 => ?_) (fun c_31 => ?_)
              · refine lv_iload hx hb dX4_callOver_210 (lv_at hl 0 rfl) ?_
                have hE2 : (f_X4_callOver cl ar ct num bnd kp blm caller pa x krk) = (v_26.1, v_26.2.1, v_26.2.2.1, v_26.2.2.2.1, v_26.2.2.2.2.1, v_26.2.2.2.2.2.1, v_26.2.2.2.2.2.2) := by
                  subst ev_26
                  exact (if_neg c_1).trans ((if_neg c_16).trans ((if_neg c_17).trans ((if_neg c_25).trans ((if_neg c_27).trans ((if_neg c_29).trans ((if_neg c_31).trans (rfl)))))))
                subst hQ
                exact k_ri hx hb hr hlocks hP hD hS dX4_callOver_212 (by rw [hE2]) (by rw [hE2])
              · refine lv_aload_n hx hb dX4_callOver_188 rfl (lv_at hl 3 rfl) ?_
                refine lv_iload hx hb dX4_callOver_189 (lv_at hl 1 rfl) ?_
                refine lv_sipush (v := (-10000)) hx hb dX4_callOver_191 (by decide) ?_
                refine lv_icmp_eq (tgt := 201) hx hb dX4_callOver_194 (by decide) (fun c_32 => absurd c_32 c_17) (fun _ => ?_)
                refine lv_iconst (v := 3) hx hb dX4_callOver_197 (by decide) ?_
                refine lv_goto (tgt := 202) hx hb dX4_callOver_198 (by decide) ?_
                refine lv_iload_n hx hb dX4_callOver_202 rfl (lv_at hl 4 rfl) ?_
                refine lv_iload_n hx hb dX4_callOver_203 rfl (lv_at hl 5 rfl) ?_
                refine lv_iload hx hb dX4_callOver_204 (lv_at hl 0 rfl) ?_
                have hC := c_X4_accuse l D g p0 c0 b0 p1 c1 b1 H.size pt v_26.2.1 cf v_26.2.2.1 co v_26.2.2.2.1 v_26.2.2.2.2.1 bnd v_26.2.2.2.2.2.1 v_26.2.2.2.2.2.2 3 caller pa v_26.1
                obtain ⟨v_33, ev_33⟩ : ∃ z, z = (f_X4_accuse v_26.2.2.1 v_26.2.2.2.2.1 v_26.2.2.2.2.2.1 v_26.2.2.2.2.2.2 3 caller pa v_26.1) := ⟨_, rfl⟩
                rw [← ev_33] at hC
                refine k_ai (wr := []) (w2 := [(p0, .inr (4, [.ref c0, .ref b0, .ref p1, .int pt, .int v_26.2.1, .int cf, .int v_33.2.1, .int co, .int v_26.2.2.2.1])), (p1, .inl (g 0, 80, .inl v_33.2.2.1)), (c0, .inr (1, [.ref c1])), (c1, .inl (g 0, 480, .inl bnd)), (b0, .inr (0, [.ref b1, .int v_33.2.2.2.1])), (b1, .inl (g 0, 60, .inl v_33.2.2.2.2))]) (va_runV (As := [.int 3, .int caller, .int pa, .int v_26.1]) (rest := []) ⟨hx, hb, hml, hown, hts⟩ hC (cwV 4 hts gX4_callOver_X4_accuse rfl rfl rfl (by decide +kernel) (k_lvl (by omega) (by decide))) (kPV hP hD hK hS hA hE [0, 1, 2, 3, 4, 5] rfl (by decide) 0 4 rfl rfl rfl) rfl rfl hl.1 rfl (lv_room (Nat.le_of_ble_eq_true rfl)) dX4_callOver_206 ⟨Nat.le_of_ble_eq_true rfl, Nat.le_of_ble_eq_true rfl⟩) hP hD hS hA [0, 1, 2, 3, 4, 5] [] [0, 1, 2, 3, 4, 5] rfl rfl (by decide) (by decide) rfl (by decide) (fun H locs hP hD hS => ?_)
                have hE2 : (f_X4_callOver cl ar ct num bnd kp blm caller pa x krk) = (v_33.1, v_26.2.1, v_33.2.1, v_26.2.2.2.1, v_33.2.2.1, v_33.2.2.2.1, v_33.2.2.2.2) := by
                  subst ev_33
                  subst ev_26
                  exact (if_neg c_1).trans ((if_neg c_16).trans ((if_neg c_17).trans ((if_neg c_25).trans ((if_neg c_27).trans ((if_neg c_29).trans ((if_pos c_31).trans (rfl)))))))
                subst hQ
                exact k_ri hx hb hr hlocks hP hD hS dX4_callOver_209 (by rw [hE2]) (by rw [hE2])
            · refine lv_aload_n hx hb dX4_callOver_156 rfl (lv_at hl 3 rfl) ?_
              refine lv_iconst (v := 2) hx hb dX4_callOver_157 (by decide) ?_
              refine lv_iload_n hx hb dX4_callOver_158 rfl (lv_at hl 4 rfl) ?_
              refine lv_iload_n hx hb dX4_callOver_159 rfl (lv_at hl 5 rfl) ?_
              refine lv_iload hx hb dX4_callOver_160 (lv_at hl 0 rfl) ?_
              have hC := c_X4_accuse l D g p0 c0 b0 p1 c1 b1 H.size pt v_26.2.1 cf v_26.2.2.1 co v_26.2.2.2.1 v_26.2.2.2.2.1 bnd v_26.2.2.2.2.2.1 v_26.2.2.2.2.2.2 2 caller pa v_26.1
              obtain ⟨v_34, ev_34⟩ : ∃ z, z = (f_X4_accuse v_26.2.2.1 v_26.2.2.2.2.1 v_26.2.2.2.2.2.1 v_26.2.2.2.2.2.2 2 caller pa v_26.1) := ⟨_, rfl⟩
              rw [← ev_34] at hC
              refine k_ai (wr := []) (w2 := [(p0, .inr (4, [.ref c0, .ref b0, .ref p1, .int pt, .int v_26.2.1, .int cf, .int v_34.2.1, .int co, .int v_26.2.2.2.1])), (p1, .inl (g 0, 80, .inl v_34.2.2.1)), (c0, .inr (1, [.ref c1])), (c1, .inl (g 0, 480, .inl bnd)), (b0, .inr (0, [.ref b1, .int v_34.2.2.2.1])), (b1, .inl (g 0, 60, .inl v_34.2.2.2.2))]) (va_runV (As := [.int 2, .int caller, .int pa, .int v_26.1]) (rest := []) ⟨hx, hb, hml, hown, hts⟩ hC (cwV 4 hts gX4_callOver_X4_accuse rfl rfl rfl (by decide +kernel) (k_lvl (by omega) (by decide))) (kPV hP hD hK hS hA hE [0, 1, 2, 3, 4, 5] rfl (by decide) 0 4 rfl rfl rfl) rfl rfl hl.1 rfl (lv_room (Nat.le_of_ble_eq_true rfl)) dX4_callOver_162 ⟨Nat.le_of_ble_eq_true rfl, Nat.le_of_ble_eq_true rfl⟩) hP hD hS hA [0, 1, 2, 3, 4, 5] [] [0, 1, 2, 3, 4, 5] rfl rfl (by decide) (by decide) rfl (by decide) (fun H locs hP hD hS => ?_)
              have hE2 : (f_X4_callOver cl ar ct num bnd kp blm caller pa x krk) = (v_34.1, v_26.2.1, v_34.2.1, v_26.2.2.2.1, v_34.2.2.1, v_34.2.2.2.1, v_34.2.2.2.2) := by
                subst ev_34
                subst ev_26
                exact (if_neg c_1).trans ((if_neg c_16).trans ((if_neg c_17).trans ((if_neg c_25).trans ((if_neg c_27).trans ((if_pos c_29).trans (rfl))))))
              subst hQ
              exact k_ri hx hb hr hlocks hP hD hS dX4_callOver_165 (by rw [hE2]) (by rw [hE2])
          · refine lv_sipush (v := (-10000)) hx hb dX4_callOver_130 (by decide) ?_
            have hE2 : (f_X4_callOver cl ar ct num bnd kp blm caller pa x krk) = ((-10000), v_26.2.1, v_26.2.2.1, v_26.2.2.2.1, v_26.2.2.2.2.1, v_26.2.2.2.2.2.1, v_26.2.2.2.2.2.2) := by
              subst ev_26
              exact (if_neg c_1).trans ((if_neg c_16).trans ((if_neg c_17).trans ((if_neg c_25).trans ((if_pos c_27).trans (rfl)))))
            subst hQ
            exact k_ri hx hb hr hlocks hP hD hS dX4_callOver_133 (by rw [hE2]) (by rw [hE2])
        · refine lv_aload_n hx hb dX4_callOver_91 rfl (lv_at hl 2 rfl) ?_
          refine lv_iload hx hb dX4_callOver_92 (lv_at hl 1 rfl) ?_
          refine lv_sipush (v := (-10000)) hx hb dX4_callOver_94 (by decide) ?_
          refine lv_icmp_eq (tgt := 104) hx hb dX4_callOver_97 (by decide) (fun c_35 => absurd c_35 c_1) (fun _ => ?_)
          refine lv_iconst (v := 3) hx hb dX4_callOver_100 (by decide) ?_
          refine lv_goto (tgt := 105) hx hb dX4_callOver_101 (by decide) ?_
          refine lv_iload_n hx hb dX4_callOver_105 rfl (lv_at hl 3 rfl) ?_
          refine lv_iload_n hx hb dX4_callOver_106 rfl (lv_at hl 4 rfl) ?_
          refine lv_iload_n hx hb dX4_callOver_107 rfl (lv_at hl 5 rfl) ?_
          have hC := c_X4_accuse l D g p0 c0 b0 p1 c1 b1 H.size pt (cl + 1) cf ar co ct (f_X4_countOne num pa 5) bnd kp blm 3 caller pa x
          obtain ⟨v_36, ev_36⟩ : ∃ z, z = (f_X4_accuse ar (f_X4_countOne num pa 5) kp blm 3 caller pa x) := ⟨_, rfl⟩
          rw [← ev_36] at hC
          refine k_ai (wr := []) (w2 := [(p0, .inr (4, [.ref c0, .ref b0, .ref p1, .int pt, .int (cl + 1), .int cf, .int v_36.2.1, .int co, .int ct])), (p1, .inl (g 0, 80, .inl v_36.2.2.1)), (c0, .inr (1, [.ref c1])), (c1, .inl (g 0, 480, .inl bnd)), (b0, .inr (0, [.ref b1, .int v_36.2.2.2.1])), (b1, .inl (g 0, 60, .inl v_36.2.2.2.2))]) (va_runV (As := [.int 3, .int caller, .int pa, .int x]) (rest := []) ⟨hx, hb, hml, hown, hts⟩ hC (cwV 4 hts gX4_callOver_X4_accuse rfl rfl rfl (by decide +kernel) (k_lvl (by omega) (by decide))) (kPV hP hD hK hS hA hE [0, 1, 2, 3, 4, 5] rfl (by decide) 0 4 rfl rfl rfl) rfl rfl hl.1 rfl (lv_room (Nat.le_of_ble_eq_true rfl)) dX4_callOver_108 ⟨Nat.le_of_ble_eq_true rfl, Nat.le_of_ble_eq_true rfl⟩) hP hD hS hA [0, 1, 2, 3, 4, 5] [] [0, 1, 2, 3, 4, 5] rfl rfl (by decide) (by decide) rfl (by decide) (fun H locs hP hD hS => ?_)
          have hE2 : (f_X4_callOver cl ar ct num bnd kp blm caller pa x krk) = (v_36.1, (cl + 1), v_36.2.1, ct, v_36.2.2.1, v_36.2.2.2.1, v_36.2.2.2.2) := by
            subst ev_36
            exact (if_neg c_1).trans ((if_neg c_16).trans ((if_neg c_17).trans ((if_pos c_25).trans (rfl))))
          subst hQ
          exact k_ri hx hb hr hlocks hP hD hS dX4_callOver_111 (by rw [hE2]) (by rw [hE2])
    · refine lv_aload_n hx hb dX4_callOver_61 rfl (lv_at hl 2 rfl) ?_
      refine lv_iconst (v := 1) hx hb dX4_callOver_62 (by decide) ?_
      refine lv_iload_n hx hb dX4_callOver_63 rfl (lv_at hl 3 rfl) ?_
      refine lv_iload_n hx hb dX4_callOver_64 rfl (lv_at hl 4 rfl) ?_
      refine lv_iload_n hx hb dX4_callOver_65 rfl (lv_at hl 5 rfl) ?_
      have hC := c_X4_accuse l D g p0 c0 b0 p1 c1 b1 H.size pt (cl + 1) cf ar co ct (f_X4_countOne num pa 5) bnd kp blm 1 caller pa x
      obtain ⟨v_37, ev_37⟩ : ∃ z, z = (f_X4_accuse ar (f_X4_countOne num pa 5) kp blm 1 caller pa x) := ⟨_, rfl⟩
      rw [← ev_37] at hC
      refine k_ai (wr := []) (w2 := [(p0, .inr (4, [.ref c0, .ref b0, .ref p1, .int pt, .int (cl + 1), .int cf, .int v_37.2.1, .int co, .int ct])), (p1, .inl (g 0, 80, .inl v_37.2.2.1)), (c0, .inr (1, [.ref c1])), (c1, .inl (g 0, 480, .inl bnd)), (b0, .inr (0, [.ref b1, .int v_37.2.2.2.1])), (b1, .inl (g 0, 60, .inl v_37.2.2.2.2))]) (va_runV (As := [.int 1, .int caller, .int pa, .int x]) (rest := []) ⟨hx, hb, hml, hown, hts⟩ hC (cwV 4 hts gX4_callOver_X4_accuse rfl rfl rfl (by decide +kernel) (k_lvl (by omega) (by decide))) (kPV hP hD hK hS hA hE [0, 1, 2, 3, 4, 5] rfl (by decide) 0 4 rfl rfl rfl) rfl rfl hl.1 rfl (lv_room (Nat.le_of_ble_eq_true rfl)) dX4_callOver_66 ⟨Nat.le_of_ble_eq_true rfl, Nat.le_of_ble_eq_true rfl⟩) hP hD hS hA [0, 1, 2, 3, 4, 5] [] [0, 1, 2, 3, 4, 5] rfl rfl (by decide) (by decide) rfl (by decide) (fun H locs hP hD hS => ?_)
      have hE2 : (f_X4_callOver cl ar ct num bnd kp blm caller pa x krk) = (v_37.1, (cl + 1), v_37.2.1, ct, v_37.2.2.1, v_37.2.2.2.1, v_37.2.2.2.2) := by
        subst ev_37
        exact (if_neg c_1).trans ((if_pos c_16).trans (rfl))
      subst hQ
      exact k_ri hx hb hr hlocks hP hD hS dX4_callOver_69 (by rw [hE2]) (by rw [hE2])
/-- a call when so many may still be made below it -/
def kOver : Nat → KCall
  | 0 => fun cl ar ct num bnd kp blm caller pa x => f_X4_callOver cl ar ct num bnd kp blm caller pa x (fun cl ar ct num bnd kp blm pa x => f_X4_reckon cl ar ct num bnd kp blm pa x 10 (fun _ _ _ _ _ _ _ _ _ _ => (0, 0, 0, 0, fun _ => 0, 0, fun _ => 0)))
  | f + 1 => fun cl ar ct num bnd kp blm caller pa x => f_X4_callOver cl ar ct num bnd kp blm caller pa x (fun cl ar ct num bnd kp blm pa x => f_X4_reckon cl ar ct num bnd kp blm pa x (10 - (f + 1)) (kOver f))
theorem c_over (l : Launch) (D : va_G) (g : Nat → Nat) (p0 c0 b0 p1 c1 b1 : Nat) : ∀ (f : Nat), f ≤ 9 → ∀ (sz : Nat) (pt : Int32) (cl : Int32) (cf : Int32) (ar : Int32) (co : Int32) (ct : Int32) (num : Nat → Int32) (bnd : Nat → Int32) (kp : Int32) (blm : Nat → Int32) (caller pa x : Int32), kMi l D g yX4_callOver wsX4_callOver (12 + 2 * f) 0 0 [.ref p0, .int caller, .int pa, .int x, .int (nI (10 - f))] [(p0, .inr (4, [.ref c0, .ref b0, .ref p1, .int pt, .int cl, .int cf, .int ar, .int co, .int ct])), (p1, .inl (g 0, 80, .inl num)), (c0, .inr (1, [.ref c1])), (c1, .inl (g 0, 480, .inl bnd)), (b0, .inr (0, [.ref b1, .int kp])), (b1, .inl (g 0, 60, .inl blm))] sz (kOver f cl ar ct num bnd kp blm caller pa x).1 [(p0, .inr (4, [.ref c0, .ref b0, .ref p1, .int pt, .int ((kOver f cl ar ct num bnd kp blm caller pa x).2.1), .int cf, .int ((kOver f cl ar ct num bnd kp blm caller pa x).2.2.1), .int co, .int ((kOver f cl ar ct num bnd kp blm caller pa x).2.2.2.1)])), (p1, .inl (g 0, 80, .inl ((kOver f cl ar ct num bnd kp blm caller pa x).2.2.2.2.1))), (c0, .inr (1, [.ref c1])), (c1, .inl (g 0, 480, .inl bnd)), (b0, .inr (0, [.ref b1, .int ((kOver f cl ar ct num bnd kp blm caller pa x).2.2.2.2.2.1)])), (b1, .inl (g 0, 60, .inl ((kOver f cl ar ct num bnd kp blm caller pa x).2.2.2.2.2.2)))] := by
  intro f
  induction f with
  | zero =>
    intro _ sz pt cl cf ar co ct num bnd kp blm caller pa x
    exact c_X4_callOver l D g p0 c0 b0 p1 c1 b1 sz pt cl cf ar co ct num bnd kp blm caller pa x 10 (fun cl ar ct num bnd kp blm pa x => f_X4_reckon cl ar ct num bnd kp blm pa x 10 (fun _ _ _ _ _ _ _ _ _ _ => (0, 0, 0, 0, fun _ => 0, 0, fun _ => 0))) 12 11 (by omega) (by omega) (fun sz pt cl cf ar co ct num bnd kp blm pa x => c_X4_reckon l D g p0 c0 b0 p1 c1 b1 sz pt cl cf ar co ct num bnd kp blm pa x 10 _ 11 10 (by omega) (by omega) (by omega) (fun h => absurd h (by omega)))
  | succ f ih =>
    intro hf sz pt cl cf ar co ct num bnd kp blm caller pa x
    exact c_X4_callOver l D g p0 c0 b0 p1 c1 b1 sz pt cl cf ar co ct num bnd kp blm caller pa x (10 - (f + 1)) (fun cl ar ct num bnd kp blm pa x => f_X4_reckon cl ar ct num bnd kp blm pa x (10 - (f + 1)) (kOver f)) (12 + 2 * (f + 1)) (13 + 2 * f) (by omega) (by omega) (fun sz pt cl cf ar co ct num bnd kp blm pa x => c_X4_reckon l D g p0 c0 b0 p1 c1 b1 sz pt cl cf ar co ct num bnd kp blm pa x (10 - (f + 1)) (kOver f) (13 + 2 * f) (12 + 2 * f) (by omega) (by omega) (by omega) (fun h => by rw [show 10 - (f + 1) + 1 = 10 - f by omega]; exact ih (by omega)))
def f_X4_callFromOutside (cl : Int32) (cf : Int32) (ar : Int32) (co : Int32) (ct : Int32) (num : Nat → Int32) (bnd : Nat → Int32) (kp : Int32) (blm : Nat → Int32) (pa : Int32) (x : Int32) : Int32 × Int32 × Int32 × Int32 × Int32 × Int32 × (Nat → Int32) × Int32 × (Nat → Int32) :=
  if (kOver 9 cl ar ct num bnd kp blm (-10000) pa x).1 = (-10000) then
    ((kOver 9 cl ar ct num bnd kp blm (-10000) pa x).1, (kOver 9 cl ar ct num bnd kp blm (-10000) pa x).2.1, (cf + 1), (kOver 9 cl ar ct num bnd kp blm (-10000) pa x).2.2.1, (co + 1), (kOver 9 cl ar ct num bnd kp blm (-10000) pa x).2.2.2.1, (kOver 9 cl ar ct num bnd kp blm (-10000) pa x).2.2.2.2.1, (kOver 9 cl ar ct num bnd kp blm (-10000) pa x).2.2.2.2.2.1, (kOver 9 cl ar ct num bnd kp blm (-10000) pa x).2.2.2.2.2.2)
  else
    ((kOver 9 cl ar ct num bnd kp blm (-10000) pa x).1, (kOver 9 cl ar ct num bnd kp blm (-10000) pa x).2.1, (cf + 1), (kOver 9 cl ar ct num bnd kp blm (-10000) pa x).2.2.1, co, (kOver 9 cl ar ct num bnd kp blm (-10000) pa x).2.2.2.1, (kOver 9 cl ar ct num bnd kp blm (-10000) pa x).2.2.2.2.1, (kOver 9 cl ar ct num bnd kp blm (-10000) pa x).2.2.2.2.2.1, (kOver 9 cl ar ct num bnd kp blm (-10000) pa x).2.2.2.2.2.2)
theorem qX4_callFromOutside_0 : Cond.fieldLink RX4 42 "BlameChains$Plan" "callsFromOutside" "I" ∈ wsX4_callFromOutside := (List.mem_cons_of_mem _ (List.mem_append_left _ (List.mem_append_left _ (List.mem_append_left _ (List.mem_append_left _ (List.mem_of_getElem? (i := 0) rfl))))))
theorem qX4_callFromOutside_1 : Cond.fieldLink RX4 48 "BlameChains$Plan" "cameOut" "I" ∈ wsX4_callFromOutside := (List.mem_cons_of_mem _ (List.mem_append_left _ (List.mem_append_left _ (List.mem_append_left _ (List.mem_append_left _ (List.mem_of_getElem? (i := 1) rfl))))))
set_option maxHeartbeats 4000000 in
set_option maxRecDepth 100000 in
theorem c_X4_callFromOutside (l : Launch) (D : va_G) (g : Nat → Nat) (p0 c0 b0 p1 c1 b1 : Nat) (sz : Nat) (pt : Int32) (cl : Int32) (cf : Int32) (ar : Int32) (co : Int32) (ct : Int32) (num : Nat → Int32) (bnd : Nat → Int32) (kp : Int32) (blm : Nat → Int32) (pa : Int32) (x : Int32) : kMi l D g yX4_callFromOutside wsX4_callFromOutside 31 0 0 [.ref p0, .int pa, .int x] [(p0, .inr (4, [.ref c0, .ref b0, .ref p1, .int pt, .int cl, .int cf, .int ar, .int co, .int ct])), (p1, .inl (g 0, 80, .inl num)), (c0, .inr (1, [.ref c1])), (c1, .inl (g 0, 480, .inl bnd)), (b0, .inr (0, [.ref b1, .int kp])), (b1, .inl (g 0, 60, .inl blm))] sz ((f_X4_callFromOutside cl cf ar co ct num bnd kp blm pa x).1) [(p0, .inr (4, [.ref c0, .ref b0, .ref p1, .int pt, .int ((f_X4_callFromOutside cl cf ar co ct num bnd kp blm pa x).2.1), .int ((f_X4_callFromOutside cl cf ar co ct num bnd kp blm pa x).2.2.1), .int ((f_X4_callFromOutside cl cf ar co ct num bnd kp blm pa x).2.2.2.1), .int ((f_X4_callFromOutside cl cf ar co ct num bnd kp blm pa x).2.2.2.2.1), .int ((f_X4_callFromOutside cl cf ar co ct num bnd kp blm pa x).2.2.2.2.2.1)])), (p1, .inl (g 0, 80, .inl ((f_X4_callFromOutside cl cf ar co ct num bnd kp blm pa x).2.2.2.2.2.2.1))), (c0, .inr (1, [.ref c1])), (c1, .inl (g 0, 480, .inl bnd)), (b0, .inr (0, [.ref b1, .int ((f_X4_callFromOutside cl cf ar co ct num bnd kp blm pa x).2.2.2.2.2.2.2.1)])), (b1, .inl (g 0, 60, .inl ((f_X4_callFromOutside cl cf ar co ct num bnd kp blm pa x).2.2.2.2.2.2.2.2)))] := by
  refine k_enter (nm := "callFromOutside") (own := RX4) (bytes := cX4_callFromOutside) (maxL := 4) (ret := (some .int)) (Qf := fun A => kQi D [(p0, .inr (4, [.ref c0, .ref b0, .ref p1, .int pt, .int ((f_X4_callFromOutside cl cf ar co ct num bnd kp blm pa x).2.1), .int ((f_X4_callFromOutside cl cf ar co ct num bnd kp blm pa x).2.2.1), .int ((f_X4_callFromOutside cl cf ar co ct num bnd kp blm pa x).2.2.2.1), .int ((f_X4_callFromOutside cl cf ar co ct num bnd kp blm pa x).2.2.2.2.1), .int ((f_X4_callFromOutside cl cf ar co ct num bnd kp blm pa x).2.2.2.2.2.1)])), (p1, .inl (g 0, 80, .inl ((f_X4_callFromOutside cl cf ar co ct num bnd kp blm pa x).2.2.2.2.2.2.1))), (c0, .inr (1, [.ref c1])), (c1, .inl (g 0, 480, .inl bnd)), (b0, .inr (0, [.ref b1, .int ((f_X4_callFromOutside cl cf ar co ct num bnd kp blm pa x).2.2.2.2.2.2.2.1)])), (b1, .inl (g 0, 60, .inl ((f_X4_callFromOutside cl cf ar co ct num bnd kp blm pa x).2.2.2.2.2.2.2.2)))] A ((f_X4_callFromOutside cl cf ar co ct num bnd kp blm pa x).1)) (by decide) rfl rfl rfl (Nat.le_of_ble_eq_true rfl) ?_
  rintro pp ee s mm below meth cc A ls args Q H locs hQ ⟨hx, hb, hr, hml, hown, hts, hlocks, hin⟩ hP hK hD hA hS hE hl
  have hl : lv_has ls 4 [(0, .ref p0), (1, .int pa), (2, .int x)] := hl
  refine lv_aload_n hx hb dX4_callFromOutside_0 rfl (lv_at hl 0 rfl) ?_
  refine lv_dup hx hb dX4_callFromOutside_1 rfl ?_
  refine va_get (D := D) (ci := 4) (v := .int cf) (C := RX4) (T := TX4) (N := 9) hx hb hts (fun w h => (List.mem_cons_of_mem _ (List.mem_append_left _ (List.mem_append_left _ (List.mem_append_right _ h))))) hown hK hP 0 rfl rfl 5 (by decide) (hts _ qX4_callFromOutside_0) (fun _ h9 => h9) rfl dX4_callFromOutside_2 ?_
  refine lv_iconst (v := 1) hx hb dX4_callFromOutside_5 (by decide) ?_
  refine lv_iadd hx hb dX4_callFromOutside_6 ?_
  refine va_put (D := D) (ci := 4) (v := .int (cf + 1)) (ty := .int) (C := RX4) (T := TX4) (N := 9) hx hb hts (fun w h => (List.mem_cons_of_mem _ (List.mem_append_left _ (List.mem_append_left _ (List.mem_append_right _ h))))) tyX4 tyX4_ok nmX4 hown hK hP hD hS 0 rfl rfl 5 (by decide) (hts _ qX4_callFromOutside_0) (fun _ h9 => h9) rfl (by decide +kernel) rfl rfl (Nat.le_of_ble_eq_true rfl) dX4_callFromOutside_7 (fun H locs hP hD hS => ?_)
  have hP : va_P D vwCl [(p0, .inr (4, [.ref c0, .ref b0, .ref p1, .int pt, .int cl, .int (cf + 1), .int ar, .int co, .int ct])), (p1, .inl (g 0, 80, .inl num)), (c0, .inr (1, [.ref c1])), (c1, .inl (g 0, 480, .inl bnd)), (b0, .inr (0, [.ref b1, .int kp])), (b1, .inl (g 0, 60, .inl blm))] H := hP
  have hD : va_D A [(p0, .inr (4, [.ref c0, .ref b0, .ref p1, .int pt, .int cl, .int (cf + 1), .int ar, .int co, .int ct])), (p1, .inl (g 0, 80, .inl num)), (c0, .inr (1, [.ref c1])), (c1, .inl (g 0, 480, .inl bnd)), (b0, .inr (0, [.ref b1, .int kp])), (b1, .inl (g 0, 60, .inl blm))] := hD
  refine lv_aload_n hx hb dX4_callFromOutside_10 rfl (lv_at hl 0 rfl) ?_
  refine lv_sipush (v := (-10000)) hx hb dX4_callFromOutside_11 (by decide) ?_
  refine lv_iload_n hx hb dX4_callFromOutside_14 rfl (lv_at hl 1 rfl) ?_
  refine lv_iload_n hx hb dX4_callFromOutside_15 rfl (lv_at hl 2 rfl) ?_
  refine lv_iconst (v := 1) hx hb dX4_callFromOutside_16 (by decide) ?_
  have hC := c_over l D g p0 c0 b0 p1 c1 b1 9 (by omega) H.size pt cl (cf + 1) ar co ct num bnd kp blm (-10000) pa x
  obtain ⟨v_1, ev_1⟩ : ∃ z, z = (kOver 9 cl ar ct num bnd kp blm (-10000) pa x) := ⟨_, rfl⟩
  rw [← ev_1] at hC
  refine k_ai (wr := []) (w2 := [(p0, .inr (4, [.ref c0, .ref b0, .ref p1, .int pt, .int v_1.2.1, .int (cf + 1), .int v_1.2.2.1, .int co, .int v_1.2.2.2.1])), (p1, .inl (g 0, 80, .inl v_1.2.2.2.2.1)), (c0, .inr (1, [.ref c1])), (c1, .inl (g 0, 480, .inl bnd)), (b0, .inr (0, [.ref b1, .int v_1.2.2.2.2.2.1])), (b1, .inl (g 0, 60, .inl v_1.2.2.2.2.2.2))]) (va_runV (As := [.int (-10000), .int pa, .int x, .int 1]) (rest := []) ⟨hx, hb, hml, hown, hts⟩ hC (cwV 4 hts gX4_callFromOutside_X4_callOver rfl rfl rfl (by decide +kernel) (k_lvl (by omega) (by decide))) (kPV hP hD hK hS hA hE [0, 1, 2, 3, 4, 5] rfl (by decide) 0 4 rfl rfl rfl) rfl rfl hl.1 rfl (lv_room (Nat.le_of_ble_eq_true rfl)) dX4_callFromOutside_17 ⟨Nat.le_of_ble_eq_true rfl, Nat.le_of_ble_eq_true rfl⟩) hP hD hS hA [0, 1, 2, 3, 4, 5] [] [0, 1, 2, 3, 4, 5] rfl rfl (by decide) (by decide) rfl (by decide) (fun H locs hP hD hS => ?_)
  refine lv_istore_n (lv' := [(3, .int v_1.1), (0, .ref p0), (1, .int pa), (2, .int x)]) hx hb dX4_callFromOutside_20 rfl hl (by decide) rfl (fun ls hl => ?_)
  refine lv_iload_n hx hb dX4_callFromOutside_21 rfl (lv_at hl 0 rfl) ?_
  refine lv_sipush (v := (-10000)) hx hb dX4_callFromOutside_22 (by decide) ?_
  refine lv_icmp_ne (tgt := 38) hx hb dX4_callFromOutside_25 (by decide) (fun c_2 => ?_) (fun c_2 => ?_)
  · refine lv_iload_n hx hb dX4_callFromOutside_38 rfl (lv_at hl 0 rfl) ?_
    have hE2 : (f_X4_callFromOutside cl cf ar co ct num bnd kp blm pa x) = (v_1.1, v_1.2.1, (cf + 1), v_1.2.2.1, co, v_1.2.2.2.1, v_1.2.2.2.2.1, v_1.2.2.2.2.2.1, v_1.2.2.2.2.2.2) := by
      subst ev_1
      exact (if_neg c_2).trans (rfl)
    subst hQ
    exact k_ri hx hb hr hlocks hP hD hS dX4_callFromOutside_39 (by rw [hE2]) (by rw [hE2])
  · refine lv_aload_n hx hb dX4_callFromOutside_28 rfl (lv_at hl 1 rfl) ?_
    refine lv_dup hx hb dX4_callFromOutside_29 rfl ?_
    refine va_get (D := D) (ci := 4) (v := .int co) (C := RX4) (T := TX4) (N := 9) hx hb hts (fun w h => (List.mem_cons_of_mem _ (List.mem_append_left _ (List.mem_append_left _ (List.mem_append_right _ h))))) hown hK hP 0 rfl rfl 7 (by decide) (hts _ qX4_callFromOutside_1) (fun _ h9 => h9) rfl dX4_callFromOutside_30 ?_
    refine lv_iconst (v := 1) hx hb dX4_callFromOutside_33 (by decide) ?_
    refine lv_iadd hx hb dX4_callFromOutside_34 ?_
    refine va_put (D := D) (ci := 4) (v := .int (co + 1)) (ty := .int) (C := RX4) (T := TX4) (N := 9) hx hb hts (fun w h => (List.mem_cons_of_mem _ (List.mem_append_left _ (List.mem_append_left _ (List.mem_append_right _ h))))) tyX4 tyX4_ok nmX4 hown hK hP hD hS 0 rfl rfl 7 (by decide) (hts _ qX4_callFromOutside_1) (fun _ h9 => h9) rfl (by decide +kernel) rfl rfl (Nat.le_of_ble_eq_true rfl) dX4_callFromOutside_35 (fun H locs hP hD hS => ?_)
    have hP : va_P D vwCl [(p0, .inr (4, [.ref c0, .ref b0, .ref p1, .int pt, .int v_1.2.1, .int (cf + 1), .int v_1.2.2.1, .int (co + 1), .int v_1.2.2.2.1])), (p1, .inl (g 0, 80, .inl v_1.2.2.2.2.1)), (c0, .inr (1, [.ref c1])), (c1, .inl (g 0, 480, .inl bnd)), (b0, .inr (0, [.ref b1, .int v_1.2.2.2.2.2.1])), (b1, .inl (g 0, 60, .inl v_1.2.2.2.2.2.2))] H := hP
    have hD : va_D A [(p0, .inr (4, [.ref c0, .ref b0, .ref p1, .int pt, .int v_1.2.1, .int (cf + 1), .int v_1.2.2.1, .int (co + 1), .int v_1.2.2.2.1])), (p1, .inl (g 0, 80, .inl v_1.2.2.2.2.1)), (c0, .inr (1, [.ref c1])), (c1, .inl (g 0, 480, .inl bnd)), (b0, .inr (0, [.ref b1, .int v_1.2.2.2.2.2.1])), (b1, .inl (g 0, 60, .inl v_1.2.2.2.2.2.2))] := hD
    refine lv_iload_n hx hb dX4_callFromOutside_38 rfl (lv_at hl 0 rfl) ?_
    have hE2 : (f_X4_callFromOutside cl cf ar co ct num bnd kp blm pa x) = (v_1.1, v_1.2.1, (cf + 1), v_1.2.2.1, (co + 1), v_1.2.2.2.1, v_1.2.2.2.2.1, v_1.2.2.2.2.2.1, v_1.2.2.2.2.2.2) := by
      subst ev_1
      exact (if_pos c_2).trans (rfl)
    subst hQ
    exact k_ri hx hb hr hlocks hP hD hS dX4_callFromOutside_39 (by rw [hE2]) (by rw [hE2])
