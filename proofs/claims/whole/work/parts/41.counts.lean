-- MODULE: the reference, its counts and calls
theorem rLen_0 {rw : Nat → Int32} {f n : Nat} : rLen rw f 0 n = n := by
  cases f with
  | zero => rfl
  | succ f => rw [rLen, if_pos rfl]
theorem rLen_s {rw : Nat → Int32} {f j n : Nat} (h : ¬ j = 0) (hf : j ≤ f) : rLen rw (f - 1) (rw (1 + 8 * (j - 1) + 2)).toNatClampNeg (n + 1) = rLen rw f j n := by
  obtain ⟨f', rfl⟩ : ∃ f', f = f' + 1 := ⟨f - 1, by omega⟩
  rw [rLen, if_neg h]
  rfl
set_option maxHeartbeats 4000000 in
set_option maxRecDepth 100000 in
theorem c_X8_chainLength (l : Launch) (D : va_G) (g : Nat → Nat) (r0 : Nat) (sz : Nat) (rw : Nat → Int32) (pa : Nat) (hpa : pa < 10) (hR : rNx rw) : kMi l D g yX8_chainLength wsX8_chainLength 3 0 0 [.ref r0, .int (nI pa)] [(r0, .inl (g 0, 748, .inl rw))] sz (nI (rLen rw 10 (rw (1 + 8 * pa + 2)).toNatClampNeg 1)) [(r0, .inl (g 0, 748, .inl rw))] := by
  refine k_enter (nm := "chainLength") (own := RX8) (bytes := cX8_chainLength) (maxL := 4) (ret := (some .int)) (Qf := fun A => kQi D [(r0, .inl (g 0, 748, .inl rw))] A (nI (rLen rw 10 (rw (1 + 8 * pa + 2)).toNatClampNeg 1))) (by decide) rfl rfl rfl (Nat.le_of_ble_eq_true rfl) ?_
  rintro pp ee s mm below meth cc A ls args Q H locs hQ ⟨hx, hb, hr, hml, hown, hts, hlocks, hin⟩ hP hK hD hA hS hE hl
  have hl : lv_has ls 4 [(0, .ref r0), (1, .int (nI pa))] := hl
  refine lv_iconst (v := 1) hx hb dX8_chainLength_0 (by decide) ?_
  refine lv_istore_n (lv' := [(2, .int 1), (0, .ref r0), (1, .int (nI pa))]) hx hb dX8_chainLength_1 rfl hl (by decide) rfl (fun ls hl => ?_)
  refine lv_aload_n hx hb dX8_chainLength_2 rfl (lv_at hl 1 rfl) ?_
  refine lv_iload_n hx hb dX8_chainLength_3 rfl (lv_at hl 2 rfl) ?_
  refine k_ai (wr := []) (w2 := [(r0, .inl (g 0, 748, .inl rw))]) (va_runS (As := [.ref r0, .int (nI pa)]) (rest := []) ⟨hx, hb, hml, hown, hts⟩ (c_X8_next l D g r0 H.size rw pa (by omega)) (va_cwS 2 hts gX8_chainLength_X8_next rfl rfl rfl (by decide +kernel) (k_lvl (by omega) (by decide))) (kPS hP hD hK hS hA hE [0] rfl (by decide)) rfl rfl hl.1 rfl (lv_room (Nat.le_of_ble_eq_true rfl)) dX8_chainLength_4 ⟨Nat.le_of_ble_eq_true rfl, Nat.le_of_ble_eq_true rfl⟩) hP hD hS hA [0] [] [0] rfl rfl (by decide) (by decide) rfl (by decide) (fun H locs hP hD hS => ?_)
  refine k_top (y := (nI (rw (1 + 8 * pa + 2)).toNatClampNeg - 1)) (by unfold f_X8_next; rw [← (rNx_at hR hpa).1]) ?_
  refine lv_istore_n (lv' := [(3, .int (nI (rw (1 + 8 * pa + 2)).toNatClampNeg - 1)), (2, .int 1), (0, .ref r0), (1, .int (nI pa))]) hx hb dX8_chainLength_7 rfl hl (by decide) rfl (fun ls hl => ?_)
  have hloop_8 : ∀ (nn_8 : Nat) (f : Nat) (j : Nat) (n : Nat), f < nn_8 → ∀ (hj : j ≤ f) (hf : f ≤ 10) (hn : n + f ≤ 20) (hr9 : rLen rw f j n = rLen rw 10 (rw (1 + 8 * pa + 2)).toNatClampNeg 1) (H : Heap) (locs : List Loc) (ls : Array Slot), va_P D vwCl [(r0, .inl (g 0, 748, .inl rw))] H → va_D A [(r0, .inl (g 0, 748, .inl rw))] → va_S A s.heap H locs → lv_has ls 4 [(3, .int (nI j - 1)), (2, .int (nI n)), (0, .ref r0), (1, .int (nI pa))] → W pp l ee (kR 3 0 0) s mm args below meth cc H locs 0 0 Q (F0 mm 8 ls []) := by
    intro nn_8
    induction nn_8 with
    | zero => intro f j n hm9; exact absurd hm9 (Nat.not_lt_zero _)
    | succ nn_8 ih_8 =>
      intro f j n hm_8 hj hf hn hr9 H locs ls hP hD hS hl
      refine lv_iload_n hx hb dX8_chainLength_8 rfl (lv_at hl 0 rfl) ?_
      refine lv_if_lt (tgt := 24) hx hb dX8_chainLength_9 (by decide) (fun c_1 => ?_) (fun c_1 => ?_)
      · refine lv_iload_n hx hb dX8_chainLength_24 rfl (lv_at hl 1 rfl) ?_
        subst hQ
        exact k_ri hx hb hr hlocks hP hD hS dX8_chainLength_25 (by rw [← hr9, (k_jm (by omega)).mp c_1, rLen_0]) (rfl)
      · have hj0 : ¬ j = 0 := fun h9 => c_1 ((k_jm (by omega)).mpr h9)
        have hl : lv_has ls 4 [(3, .int (nI (j - 1))), (2, .int (nI n)), (0, .ref r0), (1, .int (nI pa))] := by
          have h9 := hl
          rw [show nI j - 1 = nI (j - 1) from by rw [← nI_pred (j - 1), show j - 1 + 1 = j by omega]] at h9
          exact h9
        refine lv_iinc (v := (nI (n + 1))) (lv' := [(2, .int (nI (n + 1))), (3, .int (nI (j - 1))), (0, .ref r0), (1, .int (nI pa))]) hx hb dX8_chainLength_12 hl (k := 1) rfl (nI_1 _) (by decide) rfl (fun ls hl => ?_)
        refine lv_aload_n hx hb dX8_chainLength_15 rfl (lv_at hl 2 rfl) ?_
        refine lv_iload_n hx hb dX8_chainLength_16 rfl (lv_at hl 1 rfl) ?_
        refine k_ai (wr := []) (w2 := [(r0, .inl (g 0, 748, .inl rw))]) (va_runS (As := [.ref r0, .int (nI (j - 1))]) (rest := []) ⟨hx, hb, hml, hown, hts⟩ (c_X8_next l D g r0 H.size rw (j - 1) (by omega)) (va_cwS 2 hts gX8_chainLength_X8_next rfl rfl rfl (by decide +kernel) (k_lvl (by omega) (by decide))) (kPS hP hD hK hS hA hE [0] rfl (by decide)) rfl rfl hl.1 rfl (lv_room (Nat.le_of_ble_eq_true rfl)) dX8_chainLength_17 ⟨Nat.le_of_ble_eq_true rfl, Nat.le_of_ble_eq_true rfl⟩) hP hD hS hA [0] [] [0] rfl rfl (by decide) (by decide) rfl (by decide) (fun H locs hP hD hS => ?_)
        refine k_top (y := (nI (rw (1 + 8 * (j - 1) + 2)).toNatClampNeg - 1)) (by unfold f_X8_next; rw [← (rNx_at hR (show j - 1 < 10 by omega)).1]) ?_
        refine lv_istore_n (lv' := [(3, .int (nI (rw (1 + 8 * (j - 1) + 2)).toNatClampNeg - 1)), (2, .int (nI (n + 1))), (0, .ref r0), (1, .int (nI pa))]) hx hb dX8_chainLength_20 rfl hl (by decide) rfl (fun ls hl => ?_)
        refine lv_goto (tgt := 8) hx hb dX8_chainLength_21 (by decide) ?_
        exact ih_8 (f - 1) ((rw (1 + 8 * (j - 1) + 2)).toNatClampNeg) (n + 1) (by omega) (by have h9 := (rNx_at hR (show j - 1 < 10 by omega)).2; omega) (by omega) (by omega) ((rLen_s hj0 hj).trans hr9) H locs ls hP hD hS (lv_sub hl [0, 1, 2, 3] rfl)
  exact hloop_8 (10 + 1) 10 ((rw (1 + 8 * pa + 2)).toNatClampNeg) 1 (Nat.lt_succ_self _) (by have h9 := (rNx_at hR hpa).2; omega) (by omega) (by omega) rfl H locs ls hP hD hS (lv_sub hl [0, 1, 2, 3] rfl)
theorem k_dec (x : Int32) : x + Int32.ofInt (-1) = x - 1 := by
  rw [Int32.sub_eq_add_neg]
  rfl
theorem k_decN {k : Nat} (h : 0 < k) : nI k + Int32.ofInt (-1) = nI (k - 1) := by
  rw [k_dec, ← nI_pred (k - 1), show k - 1 + 1 = k by omega]
def f_X8_arise (rw : Nat → Int32) (kind : Int32) (caller : Int32) (pa : Nat) (x : Int32) : (Nat → Int32) :=
  if 10 ≤ ((shK rw 5) 687) then
    if kind = 1 then
      if caller = (-10000) then
        (upd (upd (upd (upd (upd (upd (upd (upd (upd (shK rw 5) 688 kind) 689 caller) 690 (nI pa)) 691 x) 692 1) 693 0) 687 (((shK rw 5) 687) + 0)) 683 (((shK rw 5) 683) + 1)) 686 kind)
      else
        (upd (upd (upd (upd (upd (upd (upd (upd (upd (upd (shK rw 5) 688 kind) 689 caller) 690 (nI pa)) 691 x) 692 1) 693 0) 687 (((shK rw 5) 687) + 0)) 683 (((shK rw 5) 683) + 1)) 686 kind) (1 + 8 * caller.toNatClampNeg + 6) (((shK rw 5) (1 + 8 * caller.toNatClampNeg + 6)) + 1))
    else
      if kind = 2 then
        (upd (upd (upd (upd (upd (upd (upd (upd (upd (upd (shK rw 5) 688 kind) 689 caller) 690 (nI pa)) 691 x) 692 1) 693 0) 687 (((shK rw 5) 687) + 0)) 683 (((shK rw 5) 683) + 1)) 686 kind) (1 + 8 * pa + 6) (((shK rw 5) (1 + 8 * pa + 6)) + 1))
      else
        (upd (upd (upd (upd (upd (upd (upd (upd (upd (shK rw 5) 688 kind) 689 caller) 690 (nI pa)) 691 x) 692 1) 693 0) 687 (((shK rw 5) 687) + 0)) 683 (((shK rw 5) 683) + 1)) 686 kind)
  else
    if kind = 1 then
      if caller = (-10000) then
        (upd (upd (upd (upd (upd (upd (upd (upd (upd (shK rw 5) 688 kind) 689 caller) 690 (nI pa)) 691 x) 692 1) 693 0) 687 (((shK rw 5) 687) + 1)) 683 (((shK rw 5) 683) + 1)) 686 kind)
      else
        (upd (upd (upd (upd (upd (upd (upd (upd (upd (upd (shK rw 5) 688 kind) 689 caller) 690 (nI pa)) 691 x) 692 1) 693 0) 687 (((shK rw 5) 687) + 1)) 683 (((shK rw 5) 683) + 1)) 686 kind) (1 + 8 * caller.toNatClampNeg + 6) (((shK rw 5) (1 + 8 * caller.toNatClampNeg + 6)) + 1))
    else
      if kind = 2 then
        (upd (upd (upd (upd (upd (upd (upd (upd (upd (upd (shK rw 5) 688 kind) 689 caller) 690 (nI pa)) 691 x) 692 1) 693 0) 687 (((shK rw 5) 687) + 1)) 683 (((shK rw 5) 683) + 1)) 686 kind) (1 + 8 * pa + 6) (((shK rw 5) (1 + 8 * pa + 6)) + 1))
      else
        (upd (upd (upd (upd (upd (upd (upd (upd (upd (shK rw 5) 688 kind) 689 caller) 690 (nI pa)) 691 x) 692 1) 693 0) 687 (((shK rw 5) 687) + 1)) 683 (((shK rw 5) 683) + 1)) 686 kind)
set_option maxHeartbeats 4000000 in
set_option maxRecDepth 100000 in
theorem c_X8_arise (l : Launch) (D : va_G) (g : Nat → Nat) (r0 : Nat) (sz : Nat) (rw : Nat → Int32) (kind : Int32) (caller : Int32) (pa : Nat) (x : Int32) (hpa : pa < 10) (hca : ¬ caller = -10000 → ¬ caller < 0 ∧ ¬ 10 ≤ caller) : kMv l D g yX8_arise wsX8_arise 2 0 0 [.ref r0, .int kind, .int caller, .int (nI pa), .int x] [(r0, .inl (g 0, 748, .inl rw))] sz [(r0, .inl (g 0, 748, .inl (f_X8_arise rw kind caller pa x)))] := by
  refine k_enter (nm := "arise") (own := RX8) (bytes := cX8_arise) (maxL := 6) (ret := none) (Qf := fun A => kQv D [(r0, .inl (g 0, 748, .inl (f_X8_arise rw kind caller pa x)))] A) (by decide) rfl rfl rfl (Nat.le_of_ble_eq_true rfl) ?_
  rintro pp ee s mm below meth cc A ls args Q H locs hQ ⟨hx, hb, hr, hml, hown, hts, hlocks, hin⟩ hP hK hD hA hS hE hl
  have hl : lv_has ls 6 [(0, .ref r0), (1, .int kind), (2, .int caller), (3, .int (nI pa)), (4, .int x)] := hl
  refine lv_bipush (v := 59) hx hb dX8_arise_0 (by decide) ?_
  refine lv_istore (lv' := [(5, .int 59), (0, .ref r0), (1, .int kind), (2, .int caller), (3, .int (nI pa)), (4, .int x)]) hx hb dX8_arise_2 hl (by decide) rfl (fun ls hl => ?_)
  have hcont_4 : ∀ (H : Heap) (locs : List Loc) (ls : Array Slot), va_P D vwCl [(r0, .inl (g 0, 748, .inl (shK rw 5)))] H → va_D A [(r0, .inl (g 0, 748, .inl (shK rw 5)))] → va_S A s.heap H locs → lv_has ls 6 [(0, .ref r0), (1, .int kind), (2, .int caller), (3, .int (nI pa)), (4, .int x)] → W pp l ee (kR 2 0 0) s mm args below meth cc H locs 0 0 Q (F0 mm 35 ls []) := by
    intro H locs ls hP hD hS hl
    refine lv_aload_n hx hb dX8_arise_35 rfl (lv_at hl 0 rfl) ?_
    refine lv_sipush (v := 688) hx hb dX8_arise_36 (by decide) ?_
    refine lv_iload_n hx hb dX8_arise_39 rfl (lv_at hl 1 rfl) ?_
    refine va_iast (i := 688) (x := kind) hx hb hK hP hD hS 0 0 rfl rfl (vp_in_nI (n := 688) (by decide) (by decide)) dX8_arise_40 (fun H locs hP hD hS => ?_)
    have hP : va_P D vwCl [(r0, .inl (g 0, 748, .inl (upd (shK rw 5) 688 kind)))] H := hP
    have hD : va_D A [(r0, .inl (g 0, 748, .inl (upd (shK rw 5) 688 kind)))] := hD
    refine lv_aload_n hx hb dX8_arise_41 rfl (lv_at hl 0 rfl) ?_
    refine lv_sipush (v := 689) hx hb dX8_arise_42 (by decide) ?_
    refine lv_iload_n hx hb dX8_arise_45 rfl (lv_at hl 2 rfl) ?_
    refine va_iast (i := 689) (x := caller) hx hb hK hP hD hS 0 0 rfl rfl (vp_in_nI (n := 689) (by decide) (by decide)) dX8_arise_46 (fun H locs hP hD hS => ?_)
    have hP : va_P D vwCl [(r0, .inl (g 0, 748, .inl (upd (upd (shK rw 5) 688 kind) 689 caller)))] H := hP
    have hD : va_D A [(r0, .inl (g 0, 748, .inl (upd (upd (shK rw 5) 688 kind) 689 caller)))] := hD
    refine lv_aload_n hx hb dX8_arise_47 rfl (lv_at hl 0 rfl) ?_
    refine lv_sipush (v := 690) hx hb dX8_arise_48 (by decide) ?_
    refine lv_iload_n hx hb dX8_arise_51 rfl (lv_at hl 3 rfl) ?_
    refine va_iast (i := 690) (x := (nI pa)) hx hb hK hP hD hS 0 0 rfl rfl (vp_in_nI (n := 690) (by decide) (by decide)) dX8_arise_52 (fun H locs hP hD hS => ?_)
    have hP : va_P D vwCl [(r0, .inl (g 0, 748, .inl (upd (upd (upd (shK rw 5) 688 kind) 689 caller) 690 (nI pa))))] H := hP
    have hD : va_D A [(r0, .inl (g 0, 748, .inl (upd (upd (upd (shK rw 5) 688 kind) 689 caller) 690 (nI pa))))] := hD
    refine lv_aload_n hx hb dX8_arise_53 rfl (lv_at hl 0 rfl) ?_
    refine lv_sipush (v := 691) hx hb dX8_arise_54 (by decide) ?_
    refine lv_iload hx hb dX8_arise_57 (lv_at hl 4 rfl) ?_
    refine va_iast (i := 691) (x := x) hx hb hK hP hD hS 0 0 rfl rfl (vp_in_nI (n := 691) (by decide) (by decide)) dX8_arise_59 (fun H locs hP hD hS => ?_)
    have hP : va_P D vwCl [(r0, .inl (g 0, 748, .inl (upd (upd (upd (upd (shK rw 5) 688 kind) 689 caller) 690 (nI pa)) 691 x)))] H := hP
    have hD : va_D A [(r0, .inl (g 0, 748, .inl (upd (upd (upd (upd (shK rw 5) 688 kind) 689 caller) 690 (nI pa)) 691 x)))] := hD
    refine lv_aload_n hx hb dX8_arise_60 rfl (lv_at hl 0 rfl) ?_
    refine lv_sipush (v := 692) hx hb dX8_arise_61 (by decide) ?_
    refine lv_iconst (v := 1) hx hb dX8_arise_64 (by decide) ?_
    refine va_iast (i := 692) (x := 1) hx hb hK hP hD hS 0 0 rfl rfl (vp_in_nI (n := 692) (by decide) (by decide)) dX8_arise_65 (fun H locs hP hD hS => ?_)
    have hP : va_P D vwCl [(r0, .inl (g 0, 748, .inl (upd (upd (upd (upd (upd (shK rw 5) 688 kind) 689 caller) 690 (nI pa)) 691 x) 692 1)))] H := hP
    have hD : va_D A [(r0, .inl (g 0, 748, .inl (upd (upd (upd (upd (upd (shK rw 5) 688 kind) 689 caller) 690 (nI pa)) 691 x) 692 1)))] := hD
    refine lv_aload_n hx hb dX8_arise_66 rfl (lv_at hl 0 rfl) ?_
    refine lv_sipush (v := 693) hx hb dX8_arise_67 (by decide) ?_
    refine lv_iconst (v := 0) hx hb dX8_arise_70 (by decide) ?_
    refine va_iast (i := 693) (x := 0) hx hb hK hP hD hS 0 0 rfl rfl (vp_in_nI (n := 693) (by decide) (by decide)) dX8_arise_71 (fun H locs hP hD hS => ?_)
    have hP : va_P D vwCl [(r0, .inl (g 0, 748, .inl (upd (upd (upd (upd (upd (upd (shK rw 5) 688 kind) 689 caller) 690 (nI pa)) 691 x) 692 1) 693 0)))] H := hP
    have hD : va_D A [(r0, .inl (g 0, 748, .inl (upd (upd (upd (upd (upd (upd (shK rw 5) 688 kind) 689 caller) 690 (nI pa)) 691 x) 692 1) 693 0)))] := hD
    refine lv_aload_n hx hb dX8_arise_72 rfl (lv_at hl 0 rfl) ?_
    refine lv_sipush (v := 687) hx hb dX8_arise_73 (by decide) ?_
    refine lv_dup2_11 hx hb dX8_arise_76 rfl rfl ?_
    refine va_iald (i := 687) hx hb hK hP 0 0 rfl rfl (vp_in_nI (n := 687) (by decide) (by decide)) dX8_arise_77 ?_
    refine k_top (y := ((upd (upd (upd (upd (upd (upd (shK rw 5) 688 kind) 689 caller) 690 (nI pa)) 691 x) 692 1) 693 0) 687)) rfl ?_
    refine k_top (y := ((shK rw 5) 687)) (by rw [pk_un (k := 693) (j := 687) (by decide), pk_un (k := 692) (j := 687) (by decide), pk_un (k := 691) (j := 687) (by decide), pk_un (k := 690) (j := 687) (by decide), pk_un (k := 689) (j := 687) (by decide), pk_un (k := 688) (j := 687) (by decide)]) ?_
    refine lv_aload_n hx hb dX8_arise_78 rfl (lv_at hl 0 rfl) ?_
    refine lv_sipush (v := 687) hx hb dX8_arise_79 (by decide) ?_
    refine va_iald (i := 687) hx hb hK hP 0 0 rfl rfl (vp_in_nI (n := 687) (by decide) (by decide)) dX8_arise_82 ?_
    refine k_top (y := ((upd (upd (upd (upd (upd (upd (shK rw 5) 688 kind) 689 caller) 690 (nI pa)) 691 x) 692 1) 693 0) 687)) rfl ?_
    refine k_top (y := ((shK rw 5) 687)) (by rw [pk_un (k := 693) (j := 687) (by decide), pk_un (k := 692) (j := 687) (by decide), pk_un (k := 691) (j := 687) (by decide), pk_un (k := 690) (j := 687) (by decide), pk_un (k := 689) (j := 687) (by decide), pk_un (k := 688) (j := 687) (by decide)]) ?_
    refine lv_bipush (v := 10) hx hb dX8_arise_83 (by decide) ?_
    refine lv_icmp_ge (tgt := 92) hx hb dX8_arise_85 (by decide) (fun c_1 => ?_) (fun c_1 => ?_)
    · refine lv_iconst (v := 0) hx hb dX8_arise_92 (by decide) ?_
      refine lv_iadd hx hb dX8_arise_93 ?_
      refine va_iast (i := 687) (x := (((shK rw 5) 687) + 0)) hx hb hK hP hD hS 0 0 rfl rfl (vp_in_nI (n := 687) (by decide) (by decide)) dX8_arise_94 (fun H locs hP hD hS => ?_)
      have hP : va_P D vwCl [(r0, .inl (g 0, 748, .inl (upd (upd (upd (upd (upd (upd (upd (shK rw 5) 688 kind) 689 caller) 690 (nI pa)) 691 x) 692 1) 693 0) 687 (((shK rw 5) 687) + 0))))] H := hP
      have hD : va_D A [(r0, .inl (g 0, 748, .inl (upd (upd (upd (upd (upd (upd (upd (shK rw 5) 688 kind) 689 caller) 690 (nI pa)) 691 x) 692 1) 693 0) 687 (((shK rw 5) 687) + 0))))] := hD
      refine lv_aload_n hx hb dX8_arise_95 rfl (lv_at hl 0 rfl) ?_
      refine lv_sipush (v := 683) hx hb dX8_arise_96 (by decide) ?_
      refine lv_dup2_11 hx hb dX8_arise_99 rfl rfl ?_
      refine va_iald (i := 683) hx hb hK hP 0 0 rfl rfl (vp_in_nI (n := 683) (by decide) (by decide)) dX8_arise_100 ?_
      refine k_top (y := ((upd (upd (upd (upd (upd (upd (upd (shK rw 5) 688 kind) 689 caller) 690 (nI pa)) 691 x) 692 1) 693 0) 687 (((shK rw 5) 687) + 0)) 683)) rfl ?_
      refine k_top (y := ((shK rw 5) 683)) (by rw [pk_un (k := 687) (j := 683) (by decide), pk_un (k := 693) (j := 683) (by decide), pk_un (k := 692) (j := 683) (by decide), pk_un (k := 691) (j := 683) (by decide), pk_un (k := 690) (j := 683) (by decide), pk_un (k := 689) (j := 683) (by decide), pk_un (k := 688) (j := 683) (by decide)]) ?_
      refine lv_iconst (v := 1) hx hb dX8_arise_101 (by decide) ?_
      refine lv_iadd hx hb dX8_arise_102 ?_
      refine va_iast (i := 683) (x := (((shK rw 5) 683) + 1)) hx hb hK hP hD hS 0 0 rfl rfl (vp_in_nI (n := 683) (by decide) (by decide)) dX8_arise_103 (fun H locs hP hD hS => ?_)
      have hP : va_P D vwCl [(r0, .inl (g 0, 748, .inl (upd (upd (upd (upd (upd (upd (upd (upd (shK rw 5) 688 kind) 689 caller) 690 (nI pa)) 691 x) 692 1) 693 0) 687 (((shK rw 5) 687) + 0)) 683 (((shK rw 5) 683) + 1))))] H := hP
      have hD : va_D A [(r0, .inl (g 0, 748, .inl (upd (upd (upd (upd (upd (upd (upd (upd (shK rw 5) 688 kind) 689 caller) 690 (nI pa)) 691 x) 692 1) 693 0) 687 (((shK rw 5) 687) + 0)) 683 (((shK rw 5) 683) + 1))))] := hD
      refine lv_aload_n hx hb dX8_arise_104 rfl (lv_at hl 0 rfl) ?_
      refine lv_sipush (v := 686) hx hb dX8_arise_105 (by decide) ?_
      refine lv_iload_n hx hb dX8_arise_108 rfl (lv_at hl 1 rfl) ?_
      refine va_iast (i := 686) (x := kind) hx hb hK hP hD hS 0 0 rfl rfl (vp_in_nI (n := 686) (by decide) (by decide)) dX8_arise_109 (fun H locs hP hD hS => ?_)
      have hP : va_P D vwCl [(r0, .inl (g 0, 748, .inl (upd (upd (upd (upd (upd (upd (upd (upd (upd (shK rw 5) 688 kind) 689 caller) 690 (nI pa)) 691 x) 692 1) 693 0) 687 (((shK rw 5) 687) + 0)) 683 (((shK rw 5) 683) + 1)) 686 kind)))] H := hP
      have hD : va_D A [(r0, .inl (g 0, 748, .inl (upd (upd (upd (upd (upd (upd (upd (upd (upd (shK rw 5) 688 kind) 689 caller) 690 (nI pa)) 691 x) 692 1) 693 0) 687 (((shK rw 5) 687) + 0)) 683 (((shK rw 5) 683) + 1)) 686 kind)))] := hD
      refine lv_iload_n hx hb dX8_arise_110 rfl (lv_at hl 1 rfl) ?_
      refine lv_iconst (v := 1) hx hb dX8_arise_111 (by decide) ?_
      refine lv_icmp_ne (tgt := 119) hx hb dX8_arise_112 (by decide) (fun c_2 => ?_) (fun c_2 => ?_)
      · refine lv_iload_n hx hb dX8_arise_119 rfl (lv_at hl 1 rfl) ?_
        refine lv_iconst (v := 2) hx hb dX8_arise_120 (by decide) ?_
        refine lv_icmp_ne (tgt := 128) hx hb dX8_arise_121 (by decide) (fun c_3 => ?_) (fun c_3 => ?_)
        · refine lv_sipush (v := (-10000)) hx hb dX8_arise_128 (by decide) ?_
          refine lv_istore (lv' := [(5, .int (-10000)), (0, .ref r0), (1, .int kind), (2, .int caller), (3, .int (nI pa)), (4, .int x)]) hx hb dX8_arise_131 hl (by decide) rfl (fun ls hl => ?_)
          refine lv_iload hx hb dX8_arise_133 (lv_at hl 0 rfl) ?_
          refine lv_sipush (v := (-10000)) hx hb dX8_arise_135 (by decide) ?_
          refine lv_icmp_eq (tgt := 154) hx hb dX8_arise_138 (by decide) (fun _ => ?_) (fun c_4 => absurd c_4 (by decide))
          have hE2 : (f_X8_arise rw kind caller pa x) = (upd (upd (upd (upd (upd (upd (upd (upd (upd (shK rw 5) 688 kind) 689 caller) 690 (nI pa)) 691 x) 692 1) 693 0) 687 (((shK rw 5) 687) + 0)) 683 (((shK rw 5) 683) + 1)) 686 kind) := by
            exact (if_pos c_1).trans ((if_neg c_2).trans ((if_neg c_3).trans (rfl)))
          subst hQ
          exact k_rv hx hb hr hlocks hP hD hS dX8_arise_154 (by rw [hE2])
        · refine lv_iload_n hx hb dX8_arise_124 rfl (lv_at hl 3 rfl) ?_
          refine lv_goto (tgt := 131) hx hb dX8_arise_125 (by decide) ?_
          refine lv_istore (lv' := [(5, .int (nI pa)), (0, .ref r0), (1, .int kind), (2, .int caller), (3, .int (nI pa)), (4, .int x)]) hx hb dX8_arise_131 hl (by decide) rfl (fun ls hl => ?_)
          refine lv_iload hx hb dX8_arise_133 (lv_at hl 0 rfl) ?_
          refine lv_sipush (v := (-10000)) hx hb dX8_arise_135 (by decide) ?_
          refine lv_icmp_eq (tgt := 154) hx hb dX8_arise_138 (by decide) (fun c_5 => absurd c_5 (fun h9 => (k_nneg (e := pa) (by omega) (by decide)) h9)) (fun _ => ?_)
          have hcc := fun h9 => hca h9
          have hcb : ¬ caller = -10000 → caller.toNatClampNeg < 10 := fun h9 => k_clt (by decide) (hca h9).1 (hca h9).2
          refine lv_aload_n hx hb dX8_arise_141 rfl (lv_at hl 1 rfl) ?_
          refine lv_iload hx hb dX8_arise_142 (lv_at hl 0 rfl) ?_
          refine lv_bipush (v := 6) hx hb dX8_arise_144 (by decide) ?_
          refine k_ai (wr := [(r0, .inl (g 0, 748, .inl (upd (upd (upd (upd (upd (upd (upd (upd (upd (shK rw 5) 688 kind) 689 caller) 690 (nI pa)) 691 x) 692 1) 693 0) 687 (((shK rw 5) 687) + 0)) 683 (((shK rw 5) 683) + 1)) 686 kind)))]) (w2 := [(r0, .inl (g 0, 748, .inl (upd (upd (upd (upd (upd (upd (upd (upd (upd (shK rw 5) 688 kind) 689 caller) 690 (nI pa)) 691 x) 692 1) 693 0) 687 (((shK rw 5) 687) + 0)) 683 (((shK rw 5) 683) + 1)) 686 kind)))]) (va_runS (As := [.int (nI pa), .int 6]) (rest := [.ref r0]) ⟨hx, hb, hml, hown, hts⟩ (c_X8_partAt l D g H.size pa 6) (va_cwS 2 hts gX8_arise_X8_partAt rfl rfl rfl (by decide +kernel) (k_lvl (by omega) (by decide))) (kPS hP hD hK hS hA hE [] rfl (by decide)) rfl rfl hl.1 rfl (lv_room (Nat.le_of_ble_eq_true rfl)) dX8_arise_146 ⟨Nat.le_of_ble_eq_true rfl, Nat.le_of_ble_eq_true rfl⟩) hP hD hS hA [] [0] [0] rfl rfl (by decide) (by decide) rfl (by decide) (fun H locs hP hD hS => ?_)
          refine lv_dup2_11 hx hb dX8_arise_149 rfl rfl ?_
          refine va_iald (i := (nI (1 + 8 * pa + 6))) hx hb hK hP 0 0 rfl rfl (vp_in_nI (n := (1 + 8 * pa + 6)) (by omega) (by omega)) dX8_arise_150 ?_
          refine k_top (y := ((upd (upd (upd (upd (upd (upd (upd (upd (upd (shK rw 5) 688 kind) 689 caller) 690 (nI pa)) 691 x) 692 1) 693 0) 687 (((shK rw 5) 687) + 0)) 683 (((shK rw 5) 683) + 1)) 686 kind) (1 + 8 * pa + 6))) (by rw [nI_clamp (by omega)]) ?_
          refine k_top (y := ((shK rw 5) (1 + 8 * pa + 6))) (by rw [pk_un (k := 686) (j := (1 + 8 * pa + 6)) (by omega), pk_un (k := 683) (j := (1 + 8 * pa + 6)) (by omega), pk_un (k := 687) (j := (1 + 8 * pa + 6)) (by omega), pk_un (k := 693) (j := (1 + 8 * pa + 6)) (by omega), pk_un (k := 692) (j := (1 + 8 * pa + 6)) (by omega), pk_un (k := 691) (j := (1 + 8 * pa + 6)) (by omega), pk_un (k := 690) (j := (1 + 8 * pa + 6)) (by omega), pk_un (k := 689) (j := (1 + 8 * pa + 6)) (by omega), pk_un (k := 688) (j := (1 + 8 * pa + 6)) (by omega)]) ?_
          refine lv_iconst (v := 1) hx hb dX8_arise_151 (by decide) ?_
          refine lv_iadd hx hb dX8_arise_152 ?_
          refine va_iast (i := (nI (1 + 8 * pa + 6))) (x := (((shK rw 5) (1 + 8 * pa + 6)) + 1)) hx hb hK hP hD hS 0 0 rfl rfl (vp_in_nI (n := (1 + 8 * pa + 6)) (by omega) (by omega)) dX8_arise_153 (fun H locs hP hD hS => ?_)
          rw [nI_clamp (n := (1 + 8 * pa + 6)) (by omega)] at hP hD
          have hP : va_P D vwCl [(r0, .inl (g 0, 748, .inl (upd (upd (upd (upd (upd (upd (upd (upd (upd (upd (shK rw 5) 688 kind) 689 caller) 690 (nI pa)) 691 x) 692 1) 693 0) 687 (((shK rw 5) 687) + 0)) 683 (((shK rw 5) 683) + 1)) 686 kind) (1 + 8 * pa + 6) (((shK rw 5) (1 + 8 * pa + 6)) + 1))))] H := hP
          have hD : va_D A [(r0, .inl (g 0, 748, .inl (upd (upd (upd (upd (upd (upd (upd (upd (upd (upd (shK rw 5) 688 kind) 689 caller) 690 (nI pa)) 691 x) 692 1) 693 0) 687 (((shK rw 5) 687) + 0)) 683 (((shK rw 5) 683) + 1)) 686 kind) (1 + 8 * pa + 6) (((shK rw 5) (1 + 8 * pa + 6)) + 1))))] := hD
          have hE2 : (f_X8_arise rw kind caller pa x) = (upd (upd (upd (upd (upd (upd (upd (upd (upd (upd (shK rw 5) 688 kind) 689 caller) 690 (nI pa)) 691 x) 692 1) 693 0) 687 (((shK rw 5) 687) + 0)) 683 (((shK rw 5) 683) + 1)) 686 kind) (1 + 8 * pa + 6) (((shK rw 5) (1 + 8 * pa + 6)) + 1)) := by
            exact (if_pos c_1).trans ((if_neg c_2).trans ((if_pos c_3).trans (rfl)))
          subst hQ
          exact k_rv hx hb hr hlocks hP hD hS dX8_arise_154 (by rw [hE2])
      · refine lv_iload_n hx hb dX8_arise_115 rfl (lv_at hl 2 rfl) ?_
        refine lv_goto (tgt := 131) hx hb dX8_arise_116 (by decide) ?_
        refine lv_istore (lv' := [(5, .int caller), (0, .ref r0), (1, .int kind), (2, .int caller), (3, .int (nI pa)), (4, .int x)]) hx hb dX8_arise_131 hl (by decide) rfl (fun ls hl => ?_)
        refine lv_iload hx hb dX8_arise_133 (lv_at hl 0 rfl) ?_
        refine lv_sipush (v := (-10000)) hx hb dX8_arise_135 (by decide) ?_
        refine lv_icmp_eq (tgt := 154) hx hb dX8_arise_138 (by decide) (fun c_6 => ?_) (fun c_6 => ?_)
        · have hE2 : (f_X8_arise rw kind caller pa x) = (upd (upd (upd (upd (upd (upd (upd (upd (upd (shK rw 5) 688 kind) 689 caller) 690 (nI pa)) 691 x) 692 1) 693 0) 687 (((shK rw 5) 687) + 0)) 683 (((shK rw 5) 683) + 1)) 686 kind) := by
            exact (if_pos c_1).trans ((if_pos c_2).trans ((if_pos c_6).trans (rfl)))
          subst hQ
          exact k_rv hx hb hr hlocks hP hD hS dX8_arise_154 (by rw [hE2])
        · have hcc := fun h9 => hca h9
          have hcb : ¬ caller = -10000 → caller.toNatClampNeg < 10 := fun h9 => k_clt (by decide) (hca h9).1 (hca h9).2
          have hcb := hcb c_6
          refine lv_aload_n hx hb dX8_arise_141 rfl (lv_at hl 1 rfl) ?_
          refine lv_iload hx hb dX8_arise_142 (lv_at hl 0 rfl) ?_
          refine k_top (y := (nI caller.toNatClampNeg)) (k_cl (hca c_6).1) ?_
          refine lv_bipush (v := 6) hx hb dX8_arise_144 (by decide) ?_
          refine k_ai (wr := [(r0, .inl (g 0, 748, .inl (upd (upd (upd (upd (upd (upd (upd (upd (upd (shK rw 5) 688 kind) 689 caller) 690 (nI pa)) 691 x) 692 1) 693 0) 687 (((shK rw 5) 687) + 0)) 683 (((shK rw 5) 683) + 1)) 686 kind)))]) (w2 := [(r0, .inl (g 0, 748, .inl (upd (upd (upd (upd (upd (upd (upd (upd (upd (shK rw 5) 688 kind) 689 caller) 690 (nI pa)) 691 x) 692 1) 693 0) 687 (((shK rw 5) 687) + 0)) 683 (((shK rw 5) 683) + 1)) 686 kind)))]) (va_runS (As := [.int (nI caller.toNatClampNeg), .int 6]) (rest := [.ref r0]) ⟨hx, hb, hml, hown, hts⟩ (c_X8_partAt l D g H.size caller.toNatClampNeg 6) (va_cwS 2 hts gX8_arise_X8_partAt rfl rfl rfl (by decide +kernel) (k_lvl (by omega) (by decide))) (kPS hP hD hK hS hA hE [] rfl (by decide)) rfl rfl hl.1 rfl (lv_room (Nat.le_of_ble_eq_true rfl)) dX8_arise_146 ⟨Nat.le_of_ble_eq_true rfl, Nat.le_of_ble_eq_true rfl⟩) hP hD hS hA [] [0] [0] rfl rfl (by decide) (by decide) rfl (by decide) (fun H locs hP hD hS => ?_)
          refine lv_dup2_11 hx hb dX8_arise_149 rfl rfl ?_
          refine va_iald (i := (nI (1 + 8 * caller.toNatClampNeg + 6))) hx hb hK hP 0 0 rfl rfl (vp_in_nI (n := (1 + 8 * caller.toNatClampNeg + 6)) (by omega) (by omega)) dX8_arise_150 ?_
          refine k_top (y := ((upd (upd (upd (upd (upd (upd (upd (upd (upd (shK rw 5) 688 kind) 689 caller) 690 (nI pa)) 691 x) 692 1) 693 0) 687 (((shK rw 5) 687) + 0)) 683 (((shK rw 5) 683) + 1)) 686 kind) (1 + 8 * caller.toNatClampNeg + 6))) (by rw [nI_clamp (by omega)]) ?_
          refine k_top (y := ((shK rw 5) (1 + 8 * caller.toNatClampNeg + 6))) (by rw [pk_un (k := 686) (j := (1 + 8 * caller.toNatClampNeg + 6)) (by omega), pk_un (k := 683) (j := (1 + 8 * caller.toNatClampNeg + 6)) (by omega), pk_un (k := 687) (j := (1 + 8 * caller.toNatClampNeg + 6)) (by omega), pk_un (k := 693) (j := (1 + 8 * caller.toNatClampNeg + 6)) (by omega), pk_un (k := 692) (j := (1 + 8 * caller.toNatClampNeg + 6)) (by omega), pk_un (k := 691) (j := (1 + 8 * caller.toNatClampNeg + 6)) (by omega), pk_un (k := 690) (j := (1 + 8 * caller.toNatClampNeg + 6)) (by omega), pk_un (k := 689) (j := (1 + 8 * caller.toNatClampNeg + 6)) (by omega), pk_un (k := 688) (j := (1 + 8 * caller.toNatClampNeg + 6)) (by omega)]) ?_
          refine lv_iconst (v := 1) hx hb dX8_arise_151 (by decide) ?_
          refine lv_iadd hx hb dX8_arise_152 ?_
          refine va_iast (i := (nI (1 + 8 * caller.toNatClampNeg + 6))) (x := (((shK rw 5) (1 + 8 * caller.toNatClampNeg + 6)) + 1)) hx hb hK hP hD hS 0 0 rfl rfl (vp_in_nI (n := (1 + 8 * caller.toNatClampNeg + 6)) (by omega) (by omega)) dX8_arise_153 (fun H locs hP hD hS => ?_)
          rw [nI_clamp (n := (1 + 8 * caller.toNatClampNeg + 6)) (by omega)] at hP hD
          have hP : va_P D vwCl [(r0, .inl (g 0, 748, .inl (upd (upd (upd (upd (upd (upd (upd (upd (upd (upd (shK rw 5) 688 kind) 689 caller) 690 (nI pa)) 691 x) 692 1) 693 0) 687 (((shK rw 5) 687) + 0)) 683 (((shK rw 5) 683) + 1)) 686 kind) (1 + 8 * caller.toNatClampNeg + 6) (((shK rw 5) (1 + 8 * caller.toNatClampNeg + 6)) + 1))))] H := hP
          have hD : va_D A [(r0, .inl (g 0, 748, .inl (upd (upd (upd (upd (upd (upd (upd (upd (upd (upd (shK rw 5) 688 kind) 689 caller) 690 (nI pa)) 691 x) 692 1) 693 0) 687 (((shK rw 5) 687) + 0)) 683 (((shK rw 5) 683) + 1)) 686 kind) (1 + 8 * caller.toNatClampNeg + 6) (((shK rw 5) (1 + 8 * caller.toNatClampNeg + 6)) + 1))))] := hD
          have hE2 : (f_X8_arise rw kind caller pa x) = (upd (upd (upd (upd (upd (upd (upd (upd (upd (upd (shK rw 5) 688 kind) 689 caller) 690 (nI pa)) 691 x) 692 1) 693 0) 687 (((shK rw 5) 687) + 0)) 683 (((shK rw 5) 683) + 1)) 686 kind) (1 + 8 * caller.toNatClampNeg + 6) (((shK rw 5) (1 + 8 * caller.toNatClampNeg + 6)) + 1)) := by
            exact (if_pos c_1).trans ((if_pos c_2).trans ((if_neg c_6).trans (rfl)))
          subst hQ
          exact k_rv hx hb hr hlocks hP hD hS dX8_arise_154 (by rw [hE2])
    · refine lv_iconst (v := 1) hx hb dX8_arise_88 (by decide) ?_
      refine lv_goto (tgt := 93) hx hb dX8_arise_89 (by decide) ?_
      refine lv_iadd hx hb dX8_arise_93 ?_
      refine va_iast (i := 687) (x := (((shK rw 5) 687) + 1)) hx hb hK hP hD hS 0 0 rfl rfl (vp_in_nI (n := 687) (by decide) (by decide)) dX8_arise_94 (fun H locs hP hD hS => ?_)
      have hP : va_P D vwCl [(r0, .inl (g 0, 748, .inl (upd (upd (upd (upd (upd (upd (upd (shK rw 5) 688 kind) 689 caller) 690 (nI pa)) 691 x) 692 1) 693 0) 687 (((shK rw 5) 687) + 1))))] H := hP
      have hD : va_D A [(r0, .inl (g 0, 748, .inl (upd (upd (upd (upd (upd (upd (upd (shK rw 5) 688 kind) 689 caller) 690 (nI pa)) 691 x) 692 1) 693 0) 687 (((shK rw 5) 687) + 1))))] := hD
      refine lv_aload_n hx hb dX8_arise_95 rfl (lv_at hl 0 rfl) ?_
      refine lv_sipush (v := 683) hx hb dX8_arise_96 (by decide) ?_
      refine lv_dup2_11 hx hb dX8_arise_99 rfl rfl ?_
      refine va_iald (i := 683) hx hb hK hP 0 0 rfl rfl (vp_in_nI (n := 683) (by decide) (by decide)) dX8_arise_100 ?_
      refine k_top (y := ((upd (upd (upd (upd (upd (upd (upd (shK rw 5) 688 kind) 689 caller) 690 (nI pa)) 691 x) 692 1) 693 0) 687 (((shK rw 5) 687) + 1)) 683)) rfl ?_
      refine k_top (y := ((shK rw 5) 683)) (by rw [pk_un (k := 687) (j := 683) (by decide), pk_un (k := 693) (j := 683) (by decide), pk_un (k := 692) (j := 683) (by decide), pk_un (k := 691) (j := 683) (by decide), pk_un (k := 690) (j := 683) (by decide), pk_un (k := 689) (j := 683) (by decide), pk_un (k := 688) (j := 683) (by decide)]) ?_
      refine lv_iconst (v := 1) hx hb dX8_arise_101 (by decide) ?_
      refine lv_iadd hx hb dX8_arise_102 ?_
      refine va_iast (i := 683) (x := (((shK rw 5) 683) + 1)) hx hb hK hP hD hS 0 0 rfl rfl (vp_in_nI (n := 683) (by decide) (by decide)) dX8_arise_103 (fun H locs hP hD hS => ?_)
      have hP : va_P D vwCl [(r0, .inl (g 0, 748, .inl (upd (upd (upd (upd (upd (upd (upd (upd (shK rw 5) 688 kind) 689 caller) 690 (nI pa)) 691 x) 692 1) 693 0) 687 (((shK rw 5) 687) + 1)) 683 (((shK rw 5) 683) + 1))))] H := hP
      have hD : va_D A [(r0, .inl (g 0, 748, .inl (upd (upd (upd (upd (upd (upd (upd (upd (shK rw 5) 688 kind) 689 caller) 690 (nI pa)) 691 x) 692 1) 693 0) 687 (((shK rw 5) 687) + 1)) 683 (((shK rw 5) 683) + 1))))] := hD
      refine lv_aload_n hx hb dX8_arise_104 rfl (lv_at hl 0 rfl) ?_
      refine lv_sipush (v := 686) hx hb dX8_arise_105 (by decide) ?_
      refine lv_iload_n hx hb dX8_arise_108 rfl (lv_at hl 1 rfl) ?_
      refine va_iast (i := 686) (x := kind) hx hb hK hP hD hS 0 0 rfl rfl (vp_in_nI (n := 686) (by decide) (by decide)) dX8_arise_109 (fun H locs hP hD hS => ?_)
      have hP : va_P D vwCl [(r0, .inl (g 0, 748, .inl (upd (upd (upd (upd (upd (upd (upd (upd (upd (shK rw 5) 688 kind) 689 caller) 690 (nI pa)) 691 x) 692 1) 693 0) 687 (((shK rw 5) 687) + 1)) 683 (((shK rw 5) 683) + 1)) 686 kind)))] H := hP
      have hD : va_D A [(r0, .inl (g 0, 748, .inl (upd (upd (upd (upd (upd (upd (upd (upd (upd (shK rw 5) 688 kind) 689 caller) 690 (nI pa)) 691 x) 692 1) 693 0) 687 (((shK rw 5) 687) + 1)) 683 (((shK rw 5) 683) + 1)) 686 kind)))] := hD
      refine lv_iload_n hx hb dX8_arise_110 rfl (lv_at hl 1 rfl) ?_
      refine lv_iconst (v := 1) hx hb dX8_arise_111 (by decide) ?_
      refine lv_icmp_ne (tgt := 119) hx hb dX8_arise_112 (by decide) (fun c_7 => ?_) (fun c_7 => ?_)
      · refine lv_iload_n hx hb dX8_arise_119 rfl (lv_at hl 1 rfl) ?_
        refine lv_iconst (v := 2) hx hb dX8_arise_120 (by decide) ?_
        refine lv_icmp_ne (tgt := 128) hx hb dX8_arise_121 (by decide) (fun c_8 => ?_) (fun c_8 => ?_)
        · refine lv_sipush (v := (-10000)) hx hb dX8_arise_128 (by decide) ?_
          refine lv_istore (lv' := [(5, .int (-10000)), (0, .ref r0), (1, .int kind), (2, .int caller), (3, .int (nI pa)), (4, .int x)]) hx hb dX8_arise_131 hl (by decide) rfl (fun ls hl => ?_)
          refine lv_iload hx hb dX8_arise_133 (lv_at hl 0 rfl) ?_
          refine lv_sipush (v := (-10000)) hx hb dX8_arise_135 (by decide) ?_
          refine lv_icmp_eq (tgt := 154) hx hb dX8_arise_138 (by decide) (fun _ => ?_) (fun c_9 => absurd c_9 (by decide))
          have hE2 : (f_X8_arise rw kind caller pa x) = (upd (upd (upd (upd (upd (upd (upd (upd (upd (shK rw 5) 688 kind) 689 caller) 690 (nI pa)) 691 x) 692 1) 693 0) 687 (((shK rw 5) 687) + 1)) 683 (((shK rw 5) 683) + 1)) 686 kind) := by
            exact (if_neg c_1).trans ((if_neg c_7).trans ((if_neg c_8).trans (rfl)))
          subst hQ
          exact k_rv hx hb hr hlocks hP hD hS dX8_arise_154 (by rw [hE2])
        · refine lv_iload_n hx hb dX8_arise_124 rfl (lv_at hl 3 rfl) ?_
          refine lv_goto (tgt := 131) hx hb dX8_arise_125 (by decide) ?_
          refine lv_istore (lv' := [(5, .int (nI pa)), (0, .ref r0), (1, .int kind), (2, .int caller), (3, .int (nI pa)), (4, .int x)]) hx hb dX8_arise_131 hl (by decide) rfl (fun ls hl => ?_)
          refine lv_iload hx hb dX8_arise_133 (lv_at hl 0 rfl) ?_
          refine lv_sipush (v := (-10000)) hx hb dX8_arise_135 (by decide) ?_
          refine lv_icmp_eq (tgt := 154) hx hb dX8_arise_138 (by decide) (fun c_10 => absurd c_10 (fun h9 => (k_nneg (e := pa) (by omega) (by decide)) h9)) (fun _ => ?_)
          have hcc := fun h9 => hca h9
          have hcb : ¬ caller = -10000 → caller.toNatClampNeg < 10 := fun h9 => k_clt (by decide) (hca h9).1 (hca h9).2
          refine lv_aload_n hx hb dX8_arise_141 rfl (lv_at hl 1 rfl) ?_
          refine lv_iload hx hb dX8_arise_142 (lv_at hl 0 rfl) ?_
          refine lv_bipush (v := 6) hx hb dX8_arise_144 (by decide) ?_
          refine k_ai (wr := [(r0, .inl (g 0, 748, .inl (upd (upd (upd (upd (upd (upd (upd (upd (upd (shK rw 5) 688 kind) 689 caller) 690 (nI pa)) 691 x) 692 1) 693 0) 687 (((shK rw 5) 687) + 1)) 683 (((shK rw 5) 683) + 1)) 686 kind)))]) (w2 := [(r0, .inl (g 0, 748, .inl (upd (upd (upd (upd (upd (upd (upd (upd (upd (shK rw 5) 688 kind) 689 caller) 690 (nI pa)) 691 x) 692 1) 693 0) 687 (((shK rw 5) 687) + 1)) 683 (((shK rw 5) 683) + 1)) 686 kind)))]) (va_runS (As := [.int (nI pa), .int 6]) (rest := [.ref r0]) ⟨hx, hb, hml, hown, hts⟩ (c_X8_partAt l D g H.size pa 6) (va_cwS 2 hts gX8_arise_X8_partAt rfl rfl rfl (by decide +kernel) (k_lvl (by omega) (by decide))) (kPS hP hD hK hS hA hE [] rfl (by decide)) rfl rfl hl.1 rfl (lv_room (Nat.le_of_ble_eq_true rfl)) dX8_arise_146 ⟨Nat.le_of_ble_eq_true rfl, Nat.le_of_ble_eq_true rfl⟩) hP hD hS hA [] [0] [0] rfl rfl (by decide) (by decide) rfl (by decide) (fun H locs hP hD hS => ?_)
          refine lv_dup2_11 hx hb dX8_arise_149 rfl rfl ?_
          refine va_iald (i := (nI (1 + 8 * pa + 6))) hx hb hK hP 0 0 rfl rfl (vp_in_nI (n := (1 + 8 * pa + 6)) (by omega) (by omega)) dX8_arise_150 ?_
          refine k_top (y := ((upd (upd (upd (upd (upd (upd (upd (upd (upd (shK rw 5) 688 kind) 689 caller) 690 (nI pa)) 691 x) 692 1) 693 0) 687 (((shK rw 5) 687) + 1)) 683 (((shK rw 5) 683) + 1)) 686 kind) (1 + 8 * pa + 6))) (by rw [nI_clamp (by omega)]) ?_
          refine k_top (y := ((shK rw 5) (1 + 8 * pa + 6))) (by rw [pk_un (k := 686) (j := (1 + 8 * pa + 6)) (by omega), pk_un (k := 683) (j := (1 + 8 * pa + 6)) (by omega), pk_un (k := 687) (j := (1 + 8 * pa + 6)) (by omega), pk_un (k := 693) (j := (1 + 8 * pa + 6)) (by omega), pk_un (k := 692) (j := (1 + 8 * pa + 6)) (by omega), pk_un (k := 691) (j := (1 + 8 * pa + 6)) (by omega), pk_un (k := 690) (j := (1 + 8 * pa + 6)) (by omega), pk_un (k := 689) (j := (1 + 8 * pa + 6)) (by omega), pk_un (k := 688) (j := (1 + 8 * pa + 6)) (by omega)]) ?_
          refine lv_iconst (v := 1) hx hb dX8_arise_151 (by decide) ?_
          refine lv_iadd hx hb dX8_arise_152 ?_
          refine va_iast (i := (nI (1 + 8 * pa + 6))) (x := (((shK rw 5) (1 + 8 * pa + 6)) + 1)) hx hb hK hP hD hS 0 0 rfl rfl (vp_in_nI (n := (1 + 8 * pa + 6)) (by omega) (by omega)) dX8_arise_153 (fun H locs hP hD hS => ?_)
          rw [nI_clamp (n := (1 + 8 * pa + 6)) (by omega)] at hP hD
          have hP : va_P D vwCl [(r0, .inl (g 0, 748, .inl (upd (upd (upd (upd (upd (upd (upd (upd (upd (upd (shK rw 5) 688 kind) 689 caller) 690 (nI pa)) 691 x) 692 1) 693 0) 687 (((shK rw 5) 687) + 1)) 683 (((shK rw 5) 683) + 1)) 686 kind) (1 + 8 * pa + 6) (((shK rw 5) (1 + 8 * pa + 6)) + 1))))] H := hP
          have hD : va_D A [(r0, .inl (g 0, 748, .inl (upd (upd (upd (upd (upd (upd (upd (upd (upd (upd (shK rw 5) 688 kind) 689 caller) 690 (nI pa)) 691 x) 692 1) 693 0) 687 (((shK rw 5) 687) + 1)) 683 (((shK rw 5) 683) + 1)) 686 kind) (1 + 8 * pa + 6) (((shK rw 5) (1 + 8 * pa + 6)) + 1))))] := hD
          have hE2 : (f_X8_arise rw kind caller pa x) = (upd (upd (upd (upd (upd (upd (upd (upd (upd (upd (shK rw 5) 688 kind) 689 caller) 690 (nI pa)) 691 x) 692 1) 693 0) 687 (((shK rw 5) 687) + 1)) 683 (((shK rw 5) 683) + 1)) 686 kind) (1 + 8 * pa + 6) (((shK rw 5) (1 + 8 * pa + 6)) + 1)) := by
            exact (if_neg c_1).trans ((if_neg c_7).trans ((if_pos c_8).trans (rfl)))
          subst hQ
          exact k_rv hx hb hr hlocks hP hD hS dX8_arise_154 (by rw [hE2])
      · refine lv_iload_n hx hb dX8_arise_115 rfl (lv_at hl 2 rfl) ?_
        refine lv_goto (tgt := 131) hx hb dX8_arise_116 (by decide) ?_
        refine lv_istore (lv' := [(5, .int caller), (0, .ref r0), (1, .int kind), (2, .int caller), (3, .int (nI pa)), (4, .int x)]) hx hb dX8_arise_131 hl (by decide) rfl (fun ls hl => ?_)
        refine lv_iload hx hb dX8_arise_133 (lv_at hl 0 rfl) ?_
        refine lv_sipush (v := (-10000)) hx hb dX8_arise_135 (by decide) ?_
        refine lv_icmp_eq (tgt := 154) hx hb dX8_arise_138 (by decide) (fun c_11 => ?_) (fun c_11 => ?_)
        · have hE2 : (f_X8_arise rw kind caller pa x) = (upd (upd (upd (upd (upd (upd (upd (upd (upd (shK rw 5) 688 kind) 689 caller) 690 (nI pa)) 691 x) 692 1) 693 0) 687 (((shK rw 5) 687) + 1)) 683 (((shK rw 5) 683) + 1)) 686 kind) := by
            exact (if_neg c_1).trans ((if_pos c_7).trans ((if_pos c_11).trans (rfl)))
          subst hQ
          exact k_rv hx hb hr hlocks hP hD hS dX8_arise_154 (by rw [hE2])
        · have hcc := fun h9 => hca h9
          have hcb : ¬ caller = -10000 → caller.toNatClampNeg < 10 := fun h9 => k_clt (by decide) (hca h9).1 (hca h9).2
          have hcb := hcb c_11
          refine lv_aload_n hx hb dX8_arise_141 rfl (lv_at hl 1 rfl) ?_
          refine lv_iload hx hb dX8_arise_142 (lv_at hl 0 rfl) ?_
          refine k_top (y := (nI caller.toNatClampNeg)) (k_cl (hca c_11).1) ?_
          refine lv_bipush (v := 6) hx hb dX8_arise_144 (by decide) ?_
          refine k_ai (wr := [(r0, .inl (g 0, 748, .inl (upd (upd (upd (upd (upd (upd (upd (upd (upd (shK rw 5) 688 kind) 689 caller) 690 (nI pa)) 691 x) 692 1) 693 0) 687 (((shK rw 5) 687) + 1)) 683 (((shK rw 5) 683) + 1)) 686 kind)))]) (w2 := [(r0, .inl (g 0, 748, .inl (upd (upd (upd (upd (upd (upd (upd (upd (upd (shK rw 5) 688 kind) 689 caller) 690 (nI pa)) 691 x) 692 1) 693 0) 687 (((shK rw 5) 687) + 1)) 683 (((shK rw 5) 683) + 1)) 686 kind)))]) (va_runS (As := [.int (nI caller.toNatClampNeg), .int 6]) (rest := [.ref r0]) ⟨hx, hb, hml, hown, hts⟩ (c_X8_partAt l D g H.size caller.toNatClampNeg 6) (va_cwS 2 hts gX8_arise_X8_partAt rfl rfl rfl (by decide +kernel) (k_lvl (by omega) (by decide))) (kPS hP hD hK hS hA hE [] rfl (by decide)) rfl rfl hl.1 rfl (lv_room (Nat.le_of_ble_eq_true rfl)) dX8_arise_146 ⟨Nat.le_of_ble_eq_true rfl, Nat.le_of_ble_eq_true rfl⟩) hP hD hS hA [] [0] [0] rfl rfl (by decide) (by decide) rfl (by decide) (fun H locs hP hD hS => ?_)
          refine lv_dup2_11 hx hb dX8_arise_149 rfl rfl ?_
          refine va_iald (i := (nI (1 + 8 * caller.toNatClampNeg + 6))) hx hb hK hP 0 0 rfl rfl (vp_in_nI (n := (1 + 8 * caller.toNatClampNeg + 6)) (by omega) (by omega)) dX8_arise_150 ?_
          refine k_top (y := ((upd (upd (upd (upd (upd (upd (upd (upd (upd (shK rw 5) 688 kind) 689 caller) 690 (nI pa)) 691 x) 692 1) 693 0) 687 (((shK rw 5) 687) + 1)) 683 (((shK rw 5) 683) + 1)) 686 kind) (1 + 8 * caller.toNatClampNeg + 6))) (by rw [nI_clamp (by omega)]) ?_
          refine k_top (y := ((shK rw 5) (1 + 8 * caller.toNatClampNeg + 6))) (by rw [pk_un (k := 686) (j := (1 + 8 * caller.toNatClampNeg + 6)) (by omega), pk_un (k := 683) (j := (1 + 8 * caller.toNatClampNeg + 6)) (by omega), pk_un (k := 687) (j := (1 + 8 * caller.toNatClampNeg + 6)) (by omega), pk_un (k := 693) (j := (1 + 8 * caller.toNatClampNeg + 6)) (by omega), pk_un (k := 692) (j := (1 + 8 * caller.toNatClampNeg + 6)) (by omega), pk_un (k := 691) (j := (1 + 8 * caller.toNatClampNeg + 6)) (by omega), pk_un (k := 690) (j := (1 + 8 * caller.toNatClampNeg + 6)) (by omega), pk_un (k := 689) (j := (1 + 8 * caller.toNatClampNeg + 6)) (by omega), pk_un (k := 688) (j := (1 + 8 * caller.toNatClampNeg + 6)) (by omega)]) ?_
          refine lv_iconst (v := 1) hx hb dX8_arise_151 (by decide) ?_
          refine lv_iadd hx hb dX8_arise_152 ?_
          refine va_iast (i := (nI (1 + 8 * caller.toNatClampNeg + 6))) (x := (((shK rw 5) (1 + 8 * caller.toNatClampNeg + 6)) + 1)) hx hb hK hP hD hS 0 0 rfl rfl (vp_in_nI (n := (1 + 8 * caller.toNatClampNeg + 6)) (by omega) (by omega)) dX8_arise_153 (fun H locs hP hD hS => ?_)
          rw [nI_clamp (n := (1 + 8 * caller.toNatClampNeg + 6)) (by omega)] at hP hD
          have hP : va_P D vwCl [(r0, .inl (g 0, 748, .inl (upd (upd (upd (upd (upd (upd (upd (upd (upd (upd (shK rw 5) 688 kind) 689 caller) 690 (nI pa)) 691 x) 692 1) 693 0) 687 (((shK rw 5) 687) + 1)) 683 (((shK rw 5) 683) + 1)) 686 kind) (1 + 8 * caller.toNatClampNeg + 6) (((shK rw 5) (1 + 8 * caller.toNatClampNeg + 6)) + 1))))] H := hP
          have hD : va_D A [(r0, .inl (g 0, 748, .inl (upd (upd (upd (upd (upd (upd (upd (upd (upd (upd (shK rw 5) 688 kind) 689 caller) 690 (nI pa)) 691 x) 692 1) 693 0) 687 (((shK rw 5) 687) + 1)) 683 (((shK rw 5) 683) + 1)) 686 kind) (1 + 8 * caller.toNatClampNeg + 6) (((shK rw 5) (1 + 8 * caller.toNatClampNeg + 6)) + 1))))] := hD
          have hE2 : (f_X8_arise rw kind caller pa x) = (upd (upd (upd (upd (upd (upd (upd (upd (upd (upd (shK rw 5) 688 kind) 689 caller) 690 (nI pa)) 691 x) 692 1) 693 0) 687 (((shK rw 5) 687) + 1)) 683 (((shK rw 5) 683) + 1)) 686 kind) (1 + 8 * caller.toNatClampNeg + 6) (((shK rw 5) (1 + 8 * caller.toNatClampNeg + 6)) + 1)) := by
            exact (if_neg c_1).trans ((if_pos c_7).trans ((if_neg c_11).trans (rfl)))
          subst hQ
          exact k_rv hx hb hr hlocks hP hD hS dX8_arise_154 (by rw [hE2])
  have hloop_4 : ∀ (nn_4 : Nat) (k : Nat) (cf : Nat → Int32), k < nn_4 → ∀ (hk : 5 ≤ k ∧ k ≤ 59) (hc : cf = shK rw k) (H : Heap) (locs : List Loc) (ls : Array Slot), va_P D vwCl [(r0, .inl (g 0, 748, .inl cf))] H → va_D A [(r0, .inl (g 0, 748, .inl cf))] → va_S A s.heap H locs → lv_has ls 6 [(5, .int (nI k)), (0, .ref r0), (1, .int kind), (2, .int caller), (3, .int (nI pa)), (4, .int x)] → W pp l ee (kR 2 0 0) s mm args below meth cc H locs 0 0 Q (F0 mm 4 ls []) := by
    intro nn_4
    induction nn_4 with
    | zero => intro k cf hm9; exact absurd hm9 (Nat.not_lt_zero _)
    | succ nn_4 ih_4 =>
      intro k cf hm_4 hk hc H locs ls hP hD hS hl
      refine lv_iload hx hb dX8_arise_4 (lv_at hl 0 rfl) ?_
      refine lv_iconst (v := 5) hx hb dX8_arise_6 (by decide) ?_
      refine lv_icmp_le (tgt := 35) hx hb dX8_arise_7 (by decide) (fun c_12 => ?_) (fun c_12 => ?_)
      · have c_12 : k ≤ 5 := (nI_leI (a := k) (b := 5) (by omega) (by omega)).mp c_12
        obtain rfl : k = 5 := by omega
        subst hc
        exact hcont_4 H locs ls hP hD hS (lv_sub hl [1, 2, 3, 4, 5] rfl)
      · have c_12 : ¬ (k ≤ 5) := fun h9 => c_12 ((nI_leI (a := k) (b := 5) (by omega) (by omega)).mpr h9)
        refine lv_aload_n hx hb dX8_arise_10 rfl (lv_at hl 1 rfl) ?_
        refine lv_sipush (v := 688) hx hb dX8_arise_11 (by decide) ?_
        refine lv_iload hx hb dX8_arise_14 (lv_at hl 0 rfl) ?_
        refine lv_iadd hx hb dX8_arise_16 ?_
        refine k_top (y := (nI (688 + k))) (nI_add 688 k) ?_
        refine lv_aload_n hx hb dX8_arise_17 rfl (lv_at hl 1 rfl) ?_
        refine lv_sipush (v := 688) hx hb dX8_arise_18 (by decide) ?_
        refine lv_iload hx hb dX8_arise_21 (lv_at hl 0 rfl) ?_
        refine lv_iadd hx hb dX8_arise_23 ?_
        refine k_top (y := (nI (688 + k))) (nI_add 688 k) ?_
        refine lv_bipush (v := 6) hx hb dX8_arise_24 (by decide) ?_
        refine lv_isub hx hb dX8_arise_26 ?_
        refine k_top (y := (nI (688 + k - 6))) (pk_sub (a := 688 + k) (b := 6) (by omega)) ?_
        refine va_iald (i := (nI (688 + k - 6))) hx hb hK hP 0 0 rfl rfl (vp_in_nI (n := (688 + k - 6)) (by omega) (by omega)) dX8_arise_27 ?_
        refine k_top (y := (cf (688 + k - 6))) (by rw [nI_clamp (by omega)]) ?_
        refine va_iast (i := (nI (688 + k))) (x := (cf (688 + k - 6))) hx hb hK hP hD hS 0 0 rfl rfl (vp_in_nI (n := (688 + k)) (by omega) (by omega)) dX8_arise_28 (fun H locs hP hD hS => ?_)
        rw [nI_clamp (n := (688 + k)) (by omega)] at hP hD
        have hP : va_P D vwCl [(r0, .inl (g 0, 748, .inl (upd cf (688 + k) (cf (688 + k - 6)))))] H := hP
        have hD : va_D A [(r0, .inl (g 0, 748, .inl (upd cf (688 + k) (cf (688 + k - 6)))))] := hD
        refine lv_iinc (v := (nI (k - 1))) (lv' := [(5, .int (nI (k - 1))), (0, .ref r0), (1, .int kind), (2, .int caller), (3, .int (nI pa)), (4, .int x)]) hx hb dX8_arise_29 hl (k := 0) rfl (k_decN (by omega)) (by decide) rfl (fun ls hl => ?_)
        refine lv_goto (tgt := 4) hx hb dX8_arise_32 (by decide) ?_
        exact ih_4 (k - 1) (upd cf (688 + k) (cf (688 + k - 6))) (by omega) (by omega) (by rw [hc]; exact shK_step (by omega) hk.2) H locs ls hP hD hS (lv_sub hl [0, 1, 2, 3, 4, 5] rfl)
  exact hloop_4 (59 + 1) 59 rw (Nat.lt_succ_self _) (by omega) shK_59.symm H locs ls hP hD hS (lv_sub hl [0, 1, 2, 3, 4, 5] rfl)
theorem hcl_side {caller : Int32} (h : caller = -10000 ∨ ¬ caller < 0 ∧ ¬ 10 ≤ caller) : kSide caller < 12 ∧ (caller = -10001 ∨ caller = -10000 ∨ ¬ caller < 0) ∧ (¬ caller = -10000 → ¬ caller < 0 ∧ ¬ 10 ≤ caller) := by
  refine ⟨?_, h.elim (fun h => Or.inr (Or.inl h)) (fun h => Or.inr (Or.inr h.1)), fun h2 => h.resolve_left h2⟩
  rcases h with h | ⟨h1, h2⟩
  · rw [h]; decide
  · have h3 := k_clt (M := 10) (n := 10) (by decide) h1 h2
    unfold kSide
    by_cases h4 : caller = -10001
    · rw [if_pos h4]; omega
    · rw [if_neg h4]
      by_cases h5 : caller = -10000
      · rw [if_pos h5]; omega
      · rw [if_neg h5]; omega
def f_X8_begins (rw : Nat → Int32) (caller : Int32) (pa : Nat) (x : Int32) : Int32 × (Nat → Int32) :=
  if (f_X8_asks (upd (upd rw 681 ((rw 681) + 1)) (1 + 8 * pa + 5) ((rw (1 + 8 * pa + 5)) + 1)) (kSide caller) pa x) = 0 then
    (1, (f_X8_arise (upd (upd rw 681 ((rw 681) + 1)) (1 + 8 * pa + 5) ((rw (1 + 8 * pa + 5)) + 1)) 1 caller pa x))
  else
    if (f_X8_asks (upd (upd rw 681 ((rw 681) + 1)) (1 + 8 * pa + 5) ((rw (1 + 8 * pa + 5)) + 1)) 0 pa x) = 0 then
      if (f_X8_hasContract (upd (upd rw 681 ((rw 681) + 1)) (1 + 8 * pa + 5) ((rw (1 + 8 * pa + 5)) + 1)) (kSide caller) pa) = 0 then
        (1, (f_X8_arise (upd (upd rw 681 ((rw 681) + 1)) (1 + 8 * pa + 5) ((rw (1 + 8 * pa + 5)) + 1)) 1 caller pa x))
      else
        (3, (f_X8_arise (upd (upd rw 681 ((rw 681) + 1)) (1 + 8 * pa + 5) ((rw (1 + 8 * pa + 5)) + 1)) 3 caller pa x))
    else
      (0, (upd (upd rw 681 ((rw 681) + 1)) (1 + 8 * pa + 5) ((rw (1 + 8 * pa + 5)) + 1)))
set_option maxHeartbeats 4000000 in
set_option maxRecDepth 100000 in
theorem c_X8_begins (l : Launch) (D : va_G) (g : Nat → Nat) (r0 : Nat) (sz : Nat) (rw : Nat → Int32) (caller : Int32) (pa : Nat) (x : Int32) (hpa : pa < 10) (hcl : caller = -10000 ∨ ¬ caller < 0 ∧ ¬ 10 ≤ caller) : kMi l D g yX8_begins wsX8_begins 4 0 0 [.ref r0, .int caller, .int (nI pa), .int x] [(r0, .inl (g 0, 748, .inl rw))] sz ((f_X8_begins rw caller pa x).1) [(r0, .inl (g 0, 748, .inl ((f_X8_begins rw caller pa x).2)))] := by
  refine k_enter (nm := "begins") (own := RX8) (bytes := cX8_begins) (maxL := 6) (ret := (some .int)) (Qf := fun A => kQi D [(r0, .inl (g 0, 748, .inl ((f_X8_begins rw caller pa x).2)))] A ((f_X8_begins rw caller pa x).1)) (by decide) rfl rfl rfl (Nat.le_of_ble_eq_true rfl) ?_
  rintro pp ee s mm below meth cc A ls args Q H locs hQ ⟨hx, hb, hr, hml, hown, hts, hlocks, hin⟩ hP hK hD hA hS hE hl
  have hl : lv_has ls 6 [(0, .ref r0), (1, .int caller), (2, .int (nI pa)), (3, .int x)] := hl
  obtain ⟨hs12, hcl3, hca9⟩ := hcl_side hcl
  refine lv_iload_n hx hb dX8_begins_0 rfl (lv_at hl 1 rfl) ?_
  refine k_ai (wr := [(r0, .inl (g 0, 748, .inl rw))]) (w2 := [(r0, .inl (g 0, 748, .inl rw))]) (va_runS (As := [.int caller]) (rest := []) ⟨hx, hb, hml, hown, hts⟩ (c_X8_sideOf l D g H.size caller hcl3) (va_cwS 1 hts gX8_begins_X8_sideOf rfl rfl rfl (by decide +kernel) (k_lvl (by omega) (by decide))) (kPS hP hD hK hS hA hE [] rfl (by decide)) rfl rfl hl.1 rfl (lv_room (Nat.le_of_ble_eq_true rfl)) dX8_begins_1 ⟨Nat.le_of_ble_eq_true rfl, Nat.le_of_ble_eq_true rfl⟩) hP hD hS hA [] [0] [0] rfl rfl (by decide) (by decide) rfl (by decide) (fun H locs hP hD hS => ?_)
  refine lv_istore (lv' := [(4, .int (nI (kSide caller))), (0, .ref r0), (1, .int caller), (2, .int (nI pa)), (3, .int x)]) hx hb dX8_begins_4 hl (by decide) rfl (fun ls hl => ?_)
  refine lv_aload_n hx hb dX8_begins_6 rfl (lv_at hl 1 rfl) ?_
  refine lv_sipush (v := 681) hx hb dX8_begins_7 (by decide) ?_
  refine lv_dup2_11 hx hb dX8_begins_10 rfl rfl ?_
  refine va_iald (i := 681) hx hb hK hP 0 0 rfl rfl (vp_in_nI (n := 681) (by decide) (by decide)) dX8_begins_11 ?_
  refine k_top (y := (rw 681)) rfl ?_
  refine lv_iconst (v := 1) hx hb dX8_begins_12 (by decide) ?_
  refine lv_iadd hx hb dX8_begins_13 ?_
  refine va_iast (i := 681) (x := ((rw 681) + 1)) hx hb hK hP hD hS 0 0 rfl rfl (vp_in_nI (n := 681) (by decide) (by decide)) dX8_begins_14 (fun H locs hP hD hS => ?_)
  have hP : va_P D vwCl [(r0, .inl (g 0, 748, .inl (upd rw 681 ((rw 681) + 1))))] H := hP
  have hD : va_D A [(r0, .inl (g 0, 748, .inl (upd rw 681 ((rw 681) + 1))))] := hD
  refine lv_aload_n hx hb dX8_begins_15 rfl (lv_at hl 1 rfl) ?_
  refine lv_iload_n hx hb dX8_begins_16 rfl (lv_at hl 3 rfl) ?_
  refine lv_iconst (v := 5) hx hb dX8_begins_17 (by decide) ?_
  refine k_ai (wr := [(r0, .inl (g 0, 748, .inl (upd rw 681 ((rw 681) + 1))))]) (w2 := [(r0, .inl (g 0, 748, .inl (upd rw 681 ((rw 681) + 1))))]) (va_runS (As := [.int (nI pa), .int 5]) (rest := [.ref r0]) ⟨hx, hb, hml, hown, hts⟩ (c_X8_partAt l D g H.size pa 5) (va_cwS 2 hts gX8_begins_X8_partAt rfl rfl rfl (by decide +kernel) (k_lvl (by omega) (by decide))) (kPS hP hD hK hS hA hE [] rfl (by decide)) rfl rfl hl.1 rfl (lv_room (Nat.le_of_ble_eq_true rfl)) dX8_begins_18 ⟨Nat.le_of_ble_eq_true rfl, Nat.le_of_ble_eq_true rfl⟩) hP hD hS hA [] [0] [0] rfl rfl (by decide) (by decide) rfl (by decide) (fun H locs hP hD hS => ?_)
  refine lv_dup2_11 hx hb dX8_begins_21 rfl rfl ?_
  refine va_iald (i := (nI (1 + 8 * pa + 5))) hx hb hK hP 0 0 rfl rfl (vp_in_nI (n := (1 + 8 * pa + 5)) (by omega) (by omega)) dX8_begins_22 ?_
  refine k_top (y := ((upd rw 681 ((rw 681) + 1)) (1 + 8 * pa + 5))) (by rw [nI_clamp (by omega)]) ?_
  refine k_top (y := (rw (1 + 8 * pa + 5))) (by rw [pk_un (k := 681) (j := (1 + 8 * pa + 5)) (by omega)]) ?_
  refine lv_iconst (v := 1) hx hb dX8_begins_23 (by decide) ?_
  refine lv_iadd hx hb dX8_begins_24 ?_
  refine va_iast (i := (nI (1 + 8 * pa + 5))) (x := ((rw (1 + 8 * pa + 5)) + 1)) hx hb hK hP hD hS 0 0 rfl rfl (vp_in_nI (n := (1 + 8 * pa + 5)) (by omega) (by omega)) dX8_begins_25 (fun H locs hP hD hS => ?_)
  rw [nI_clamp (n := (1 + 8 * pa + 5)) (by omega)] at hP hD
  have hP : va_P D vwCl [(r0, .inl (g 0, 748, .inl (upd (upd rw 681 ((rw 681) + 1)) (1 + 8 * pa + 5) ((rw (1 + 8 * pa + 5)) + 1))))] H := hP
  have hD : va_D A [(r0, .inl (g 0, 748, .inl (upd (upd rw 681 ((rw 681) + 1)) (1 + 8 * pa + 5) ((rw (1 + 8 * pa + 5)) + 1))))] := hD
  refine lv_aload_n hx hb dX8_begins_26 rfl (lv_at hl 1 rfl) ?_
  refine lv_iload hx hb dX8_begins_27 (lv_at hl 0 rfl) ?_
  refine lv_iload_n hx hb dX8_begins_29 rfl (lv_at hl 3 rfl) ?_
  refine lv_iload_n hx hb dX8_begins_30 rfl (lv_at hl 4 rfl) ?_
  refine k_ai (wr := []) (w2 := [(r0, .inl (g 0, 748, .inl (upd (upd rw 681 ((rw 681) + 1)) (1 + 8 * pa + 5) ((rw (1 + 8 * pa + 5)) + 1))))]) (va_runS (As := [.ref r0, .int (nI (kSide caller)), .int (nI pa), .int x]) (rest := []) ⟨hx, hb, hml, hown, hts⟩ (c_X8_asks l D g r0 H.size (upd (upd rw 681 ((rw 681) + 1)) (1 + 8 * pa + 5) ((rw (1 + 8 * pa + 5)) + 1)) (kSide caller) pa x (by omega) (by omega)) (va_cwS 4 hts gX8_begins_X8_asks rfl rfl rfl (by decide +kernel) (k_lvl (by omega) (by decide))) (kPS hP hD hK hS hA hE [0] rfl (by decide)) rfl rfl hl.1 rfl (lv_room (Nat.le_of_ble_eq_true rfl)) dX8_begins_31 ⟨Nat.le_of_ble_eq_true rfl, Nat.le_of_ble_eq_true rfl⟩) hP hD hS hA [0] [] [0] rfl rfl (by decide) (by decide) rfl (by decide) (fun H locs hP hD hS => ?_)
  refine lv_if_ne (tgt := 41) hx hb dX8_begins_34 (by decide) (fun c_1 => ?_) (fun c_1 => ?_)
  · refine lv_aload_n hx hb dX8_begins_41 rfl (lv_at hl 1 rfl) ?_
    refine lv_iconst (v := 0) hx hb dX8_begins_42 (by decide) ?_
    refine lv_iload_n hx hb dX8_begins_43 rfl (lv_at hl 3 rfl) ?_
    refine lv_iload_n hx hb dX8_begins_44 rfl (lv_at hl 4 rfl) ?_
    refine k_ai (wr := []) (w2 := [(r0, .inl (g 0, 748, .inl (upd (upd rw 681 ((rw 681) + 1)) (1 + 8 * pa + 5) ((rw (1 + 8 * pa + 5)) + 1))))]) (va_runS (As := [.ref r0, .int 0, .int (nI pa), .int x]) (rest := []) ⟨hx, hb, hml, hown, hts⟩ (c_X8_asks l D g r0 H.size (upd (upd rw 681 ((rw 681) + 1)) (1 + 8 * pa + 5) ((rw (1 + 8 * pa + 5)) + 1)) 0 pa x (by omega) (by omega)) (va_cwS 4 hts gX8_begins_X8_asks rfl rfl rfl (by decide +kernel) (k_lvl (by omega) (by decide))) (kPS hP hD hK hS hA hE [0] rfl (by decide)) rfl rfl hl.1 rfl (lv_room (Nat.le_of_ble_eq_true rfl)) dX8_begins_45 ⟨Nat.le_of_ble_eq_true rfl, Nat.le_of_ble_eq_true rfl⟩) hP hD hS hA [0] [] [0] rfl rfl (by decide) (by decide) rfl (by decide) (fun H locs hP hD hS => ?_)
    refine lv_if_eq (tgt := 55) hx hb dX8_begins_48 (by decide) (fun c_2 => ?_) (fun c_2 => ?_)
    · refine lv_aload_n hx hb dX8_begins_55 rfl (lv_at hl 1 rfl) ?_
      refine lv_iload hx hb dX8_begins_56 (lv_at hl 0 rfl) ?_
      refine lv_iload_n hx hb dX8_begins_58 rfl (lv_at hl 3 rfl) ?_
      refine k_ai (wr := []) (w2 := [(r0, .inl (g 0, 748, .inl (upd (upd rw 681 ((rw 681) + 1)) (1 + 8 * pa + 5) ((rw (1 + 8 * pa + 5)) + 1))))]) (va_runS (As := [.ref r0, .int (nI (kSide caller)), .int (nI pa)]) (rest := []) ⟨hx, hb, hml, hown, hts⟩ (c_X8_hasContract l D g r0 H.size (upd (upd rw 681 ((rw 681) + 1)) (1 + 8 * pa + 5) ((rw (1 + 8 * pa + 5)) + 1)) (kSide caller) pa (by omega) (by omega)) (va_cwS 3 hts gX8_begins_X8_hasContract rfl rfl rfl (by decide +kernel) (k_lvl (by omega) (by decide))) (kPS hP hD hK hS hA hE [0] rfl (by decide)) rfl rfl hl.1 rfl (lv_room (Nat.le_of_ble_eq_true rfl)) dX8_begins_59 ⟨Nat.le_of_ble_eq_true rfl, Nat.le_of_ble_eq_true rfl⟩) hP hD hS hA [0] [] [0] rfl rfl (by decide) (by decide) rfl (by decide) (fun H locs hP hD hS => ?_)
      refine lv_if_eq (tgt := 69) hx hb dX8_begins_62 (by decide) (fun c_3 => ?_) (fun c_3 => ?_)
      · refine lv_iconst (v := 1) hx hb dX8_begins_69 (by decide) ?_
        refine lv_istore (lv' := [(5, .int 1), (4, .int (nI (kSide caller))), (0, .ref r0), (1, .int caller), (2, .int (nI pa)), (3, .int x)]) hx hb dX8_begins_70 hl (by decide) rfl (fun ls hl => ?_)
        refine lv_iload hx hb dX8_begins_72 (lv_at hl 0 rfl) ?_
        refine lv_if_le (tgt := 86) hx hb dX8_begins_74 (by decide) (fun c_4 => absurd c_4 (by decide)) (fun _ => ?_)
        refine lv_aload_n hx hb dX8_begins_77 rfl (lv_at hl 2 rfl) ?_
        refine lv_iload hx hb dX8_begins_78 (lv_at hl 0 rfl) ?_
        refine lv_iload_n hx hb dX8_begins_80 rfl (lv_at hl 3 rfl) ?_
        refine lv_iload_n hx hb dX8_begins_81 rfl (lv_at hl 4 rfl) ?_
        refine lv_iload_n hx hb dX8_begins_82 rfl (lv_at hl 5 rfl) ?_
        refine k_av (wr := []) (w2 := [(r0, .inl (g 0, 748, .inl (f_X8_arise (upd (upd rw 681 ((rw 681) + 1)) (1 + 8 * pa + 5) ((rw (1 + 8 * pa + 5)) + 1)) 1 caller pa x)))]) (va_runS (As := [.ref r0, .int 1, .int caller, .int (nI pa), .int x]) (rest := []) ⟨hx, hb, hml, hown, hts⟩ (c_X8_arise l D g r0 H.size (upd (upd rw 681 ((rw 681) + 1)) (1 + 8 * pa + 5) ((rw (1 + 8 * pa + 5)) + 1)) 1 caller pa x (by omega) hca9) (va_cwS 5 hts gX8_begins_X8_arise rfl rfl rfl (by decide +kernel) (k_lvl (by omega) (by decide))) (kPS hP hD hK hS hA hE [0] rfl (by decide)) rfl rfl hl.1 rfl (lv_room (Nat.le_of_ble_eq_true rfl)) dX8_begins_83 ⟨Nat.le_of_ble_eq_true rfl, Nat.le_of_ble_eq_true rfl⟩) hP hD hS hA [0] [] [0] rfl rfl (by decide) (by decide) rfl (by decide) (fun H locs hP hD hS => ?_)
        refine lv_iload hx hb dX8_begins_86 (lv_at hl 0 rfl) ?_
        have hE2 : (f_X8_begins rw caller pa x) = (1, (f_X8_arise (upd (upd rw 681 ((rw 681) + 1)) (1 + 8 * pa + 5) ((rw (1 + 8 * pa + 5)) + 1)) 1 caller pa x)) := by
          exact (if_neg c_1).trans ((if_pos c_2).trans ((if_pos c_3).trans (rfl)))
        subst hQ
        exact k_ri hx hb hr hlocks hP hD hS dX8_begins_88 (by rw [hE2]) (by rw [hE2])
      · refine lv_iconst (v := 3) hx hb dX8_begins_65 (by decide) ?_
        refine lv_goto (tgt := 70) hx hb dX8_begins_66 (by decide) ?_
        refine lv_istore (lv' := [(5, .int 3), (4, .int (nI (kSide caller))), (0, .ref r0), (1, .int caller), (2, .int (nI pa)), (3, .int x)]) hx hb dX8_begins_70 hl (by decide) rfl (fun ls hl => ?_)
        refine lv_iload hx hb dX8_begins_72 (lv_at hl 0 rfl) ?_
        refine lv_if_le (tgt := 86) hx hb dX8_begins_74 (by decide) (fun c_5 => absurd c_5 (by decide)) (fun _ => ?_)
        refine lv_aload_n hx hb dX8_begins_77 rfl (lv_at hl 2 rfl) ?_
        refine lv_iload hx hb dX8_begins_78 (lv_at hl 0 rfl) ?_
        refine lv_iload_n hx hb dX8_begins_80 rfl (lv_at hl 3 rfl) ?_
        refine lv_iload_n hx hb dX8_begins_81 rfl (lv_at hl 4 rfl) ?_
        refine lv_iload_n hx hb dX8_begins_82 rfl (lv_at hl 5 rfl) ?_
        refine k_av (wr := []) (w2 := [(r0, .inl (g 0, 748, .inl (f_X8_arise (upd (upd rw 681 ((rw 681) + 1)) (1 + 8 * pa + 5) ((rw (1 + 8 * pa + 5)) + 1)) 3 caller pa x)))]) (va_runS (As := [.ref r0, .int 3, .int caller, .int (nI pa), .int x]) (rest := []) ⟨hx, hb, hml, hown, hts⟩ (c_X8_arise l D g r0 H.size (upd (upd rw 681 ((rw 681) + 1)) (1 + 8 * pa + 5) ((rw (1 + 8 * pa + 5)) + 1)) 3 caller pa x (by omega) hca9) (va_cwS 5 hts gX8_begins_X8_arise rfl rfl rfl (by decide +kernel) (k_lvl (by omega) (by decide))) (kPS hP hD hK hS hA hE [0] rfl (by decide)) rfl rfl hl.1 rfl (lv_room (Nat.le_of_ble_eq_true rfl)) dX8_begins_83 ⟨Nat.le_of_ble_eq_true rfl, Nat.le_of_ble_eq_true rfl⟩) hP hD hS hA [0] [] [0] rfl rfl (by decide) (by decide) rfl (by decide) (fun H locs hP hD hS => ?_)
        refine lv_iload hx hb dX8_begins_86 (lv_at hl 0 rfl) ?_
        have hE2 : (f_X8_begins rw caller pa x) = (3, (f_X8_arise (upd (upd rw 681 ((rw 681) + 1)) (1 + 8 * pa + 5) ((rw (1 + 8 * pa + 5)) + 1)) 3 caller pa x)) := by
          exact (if_neg c_1).trans ((if_pos c_2).trans ((if_neg c_3).trans (rfl)))
        subst hQ
        exact k_ri hx hb hr hlocks hP hD hS dX8_begins_88 (by rw [hE2]) (by rw [hE2])
    · refine lv_iconst (v := 0) hx hb dX8_begins_51 (by decide) ?_
      refine lv_goto (tgt := 70) hx hb dX8_begins_52 (by decide) ?_
      refine lv_istore (lv' := [(5, .int 0), (4, .int (nI (kSide caller))), (0, .ref r0), (1, .int caller), (2, .int (nI pa)), (3, .int x)]) hx hb dX8_begins_70 hl (by decide) rfl (fun ls hl => ?_)
      refine lv_iload hx hb dX8_begins_72 (lv_at hl 0 rfl) ?_
      refine lv_if_le (tgt := 86) hx hb dX8_begins_74 (by decide) (fun _ => ?_) (fun c_6 => absurd c_6 (by decide))
      refine lv_iload hx hb dX8_begins_86 (lv_at hl 0 rfl) ?_
      have hE2 : (f_X8_begins rw caller pa x) = (0, (upd (upd rw 681 ((rw 681) + 1)) (1 + 8 * pa + 5) ((rw (1 + 8 * pa + 5)) + 1))) := by
        exact (if_neg c_1).trans ((if_neg c_2).trans (rfl))
      subst hQ
      exact k_ri hx hb hr hlocks hP hD hS dX8_begins_88 (by rw [hE2]) (by rw [hE2])
  · refine lv_iconst (v := 1) hx hb dX8_begins_37 (by decide) ?_
    refine lv_goto (tgt := 70) hx hb dX8_begins_38 (by decide) ?_
    refine lv_istore (lv' := [(5, .int 1), (4, .int (nI (kSide caller))), (0, .ref r0), (1, .int caller), (2, .int (nI pa)), (3, .int x)]) hx hb dX8_begins_70 hl (by decide) rfl (fun ls hl => ?_)
    refine lv_iload hx hb dX8_begins_72 (lv_at hl 0 rfl) ?_
    refine lv_if_le (tgt := 86) hx hb dX8_begins_74 (by decide) (fun c_7 => absurd c_7 (by decide)) (fun _ => ?_)
    refine lv_aload_n hx hb dX8_begins_77 rfl (lv_at hl 2 rfl) ?_
    refine lv_iload hx hb dX8_begins_78 (lv_at hl 0 rfl) ?_
    refine lv_iload_n hx hb dX8_begins_80 rfl (lv_at hl 3 rfl) ?_
    refine lv_iload_n hx hb dX8_begins_81 rfl (lv_at hl 4 rfl) ?_
    refine lv_iload_n hx hb dX8_begins_82 rfl (lv_at hl 5 rfl) ?_
    refine k_av (wr := []) (w2 := [(r0, .inl (g 0, 748, .inl (f_X8_arise (upd (upd rw 681 ((rw 681) + 1)) (1 + 8 * pa + 5) ((rw (1 + 8 * pa + 5)) + 1)) 1 caller pa x)))]) (va_runS (As := [.ref r0, .int 1, .int caller, .int (nI pa), .int x]) (rest := []) ⟨hx, hb, hml, hown, hts⟩ (c_X8_arise l D g r0 H.size (upd (upd rw 681 ((rw 681) + 1)) (1 + 8 * pa + 5) ((rw (1 + 8 * pa + 5)) + 1)) 1 caller pa x (by omega) hca9) (va_cwS 5 hts gX8_begins_X8_arise rfl rfl rfl (by decide +kernel) (k_lvl (by omega) (by decide))) (kPS hP hD hK hS hA hE [0] rfl (by decide)) rfl rfl hl.1 rfl (lv_room (Nat.le_of_ble_eq_true rfl)) dX8_begins_83 ⟨Nat.le_of_ble_eq_true rfl, Nat.le_of_ble_eq_true rfl⟩) hP hD hS hA [0] [] [0] rfl rfl (by decide) (by decide) rfl (by decide) (fun H locs hP hD hS => ?_)
    refine lv_iload hx hb dX8_begins_86 (lv_at hl 0 rfl) ?_
    have hE2 : (f_X8_begins rw caller pa x) = (1, (f_X8_arise (upd (upd rw 681 ((rw 681) + 1)) (1 + 8 * pa + 5) ((rw (1 + 8 * pa + 5)) + 1)) 1 caller pa x)) := by
      exact (if_pos c_1).trans (rfl)
    subst hQ
    exact k_ri hx hb hr hlocks hP hD hS dX8_begins_88 (by rw [hE2]) (by rw [hE2])
def f_X8_ends (rw : Nat → Int32) (caller : Int32) (pa : Nat) (x : Int32) : Int32 × (Nat → Int32) :=
  if (f_X8_gives rw 0 pa x) = 0 then
    (2, (f_X8_arise rw 2 caller pa x))
  else
    if (f_X8_gives rw (kSide caller) pa x) = 0 then
      if (f_X8_hasContract rw 0 pa) = 0 then
        (2, (f_X8_arise rw 2 caller pa x))
      else
        (3, (f_X8_arise rw 3 caller pa x))
    else
      (0, rw)
set_option maxHeartbeats 4000000 in
set_option maxRecDepth 100000 in
theorem c_X8_ends (l : Launch) (D : va_G) (g : Nat → Nat) (r0 : Nat) (sz : Nat) (rw : Nat → Int32) (caller : Int32) (pa : Nat) (x : Int32) (hpa : pa < 10) (hcl : caller = -10000 ∨ ¬ caller < 0 ∧ ¬ 10 ≤ caller) : kMi l D g yX8_ends wsX8_ends 4 0 0 [.ref r0, .int caller, .int (nI pa), .int x] [(r0, .inl (g 0, 748, .inl rw))] sz ((f_X8_ends rw caller pa x).1) [(r0, .inl (g 0, 748, .inl ((f_X8_ends rw caller pa x).2)))] := by
  refine k_enter (nm := "ends") (own := RX8) (bytes := cX8_ends) (maxL := 6) (ret := (some .int)) (Qf := fun A => kQi D [(r0, .inl (g 0, 748, .inl ((f_X8_ends rw caller pa x).2)))] A ((f_X8_ends rw caller pa x).1)) (by decide) rfl rfl rfl (Nat.le_of_ble_eq_true rfl) ?_
  rintro pp ee s mm below meth cc A ls args Q H locs hQ ⟨hx, hb, hr, hml, hown, hts, hlocks, hin⟩ hP hK hD hA hS hE hl
  have hl : lv_has ls 6 [(0, .ref r0), (1, .int caller), (2, .int (nI pa)), (3, .int x)] := hl
  obtain ⟨hs12, hcl3, hca9⟩ := hcl_side hcl
  refine lv_iload_n hx hb dX8_ends_0 rfl (lv_at hl 1 rfl) ?_
  refine k_ai (wr := [(r0, .inl (g 0, 748, .inl rw))]) (w2 := [(r0, .inl (g 0, 748, .inl rw))]) (va_runS (As := [.int caller]) (rest := []) ⟨hx, hb, hml, hown, hts⟩ (c_X8_sideOf l D g H.size caller hcl3) (va_cwS 1 hts gX8_ends_X8_sideOf rfl rfl rfl (by decide +kernel) (k_lvl (by omega) (by decide))) (kPS hP hD hK hS hA hE [] rfl (by decide)) rfl rfl hl.1 rfl (lv_room (Nat.le_of_ble_eq_true rfl)) dX8_ends_1 ⟨Nat.le_of_ble_eq_true rfl, Nat.le_of_ble_eq_true rfl⟩) hP hD hS hA [] [0] [0] rfl rfl (by decide) (by decide) rfl (by decide) (fun H locs hP hD hS => ?_)
  refine lv_istore (lv' := [(4, .int (nI (kSide caller))), (0, .ref r0), (1, .int caller), (2, .int (nI pa)), (3, .int x)]) hx hb dX8_ends_4 hl (by decide) rfl (fun ls hl => ?_)
  refine lv_aload_n hx hb dX8_ends_6 rfl (lv_at hl 1 rfl) ?_
  refine lv_iconst (v := 0) hx hb dX8_ends_7 (by decide) ?_
  refine lv_iload_n hx hb dX8_ends_8 rfl (lv_at hl 3 rfl) ?_
  refine lv_iload_n hx hb dX8_ends_9 rfl (lv_at hl 4 rfl) ?_
  refine k_ai (wr := []) (w2 := [(r0, .inl (g 0, 748, .inl rw))]) (va_runS (As := [.ref r0, .int 0, .int (nI pa), .int x]) (rest := []) ⟨hx, hb, hml, hown, hts⟩ (c_X8_gives l D g r0 H.size rw 0 pa x (by omega) (by omega)) (va_cwS 4 hts gX8_ends_X8_gives rfl rfl rfl (by decide +kernel) (k_lvl (by omega) (by decide))) (kPS hP hD hK hS hA hE [0] rfl (by decide)) rfl rfl hl.1 rfl (lv_room (Nat.le_of_ble_eq_true rfl)) dX8_ends_10 ⟨Nat.le_of_ble_eq_true rfl, Nat.le_of_ble_eq_true rfl⟩) hP hD hS hA [0] [] [0] rfl rfl (by decide) (by decide) rfl (by decide) (fun H locs hP hD hS => ?_)
  refine lv_if_ne (tgt := 20) hx hb dX8_ends_13 (by decide) (fun c_1 => ?_) (fun c_1 => ?_)
  · refine lv_aload_n hx hb dX8_ends_20 rfl (lv_at hl 1 rfl) ?_
    refine lv_iload hx hb dX8_ends_21 (lv_at hl 0 rfl) ?_
    refine lv_iload_n hx hb dX8_ends_23 rfl (lv_at hl 3 rfl) ?_
    refine lv_iload_n hx hb dX8_ends_24 rfl (lv_at hl 4 rfl) ?_
    refine k_ai (wr := []) (w2 := [(r0, .inl (g 0, 748, .inl rw))]) (va_runS (As := [.ref r0, .int (nI (kSide caller)), .int (nI pa), .int x]) (rest := []) ⟨hx, hb, hml, hown, hts⟩ (c_X8_gives l D g r0 H.size rw (kSide caller) pa x (by omega) (by omega)) (va_cwS 4 hts gX8_ends_X8_gives rfl rfl rfl (by decide +kernel) (k_lvl (by omega) (by decide))) (kPS hP hD hK hS hA hE [0] rfl (by decide)) rfl rfl hl.1 rfl (lv_room (Nat.le_of_ble_eq_true rfl)) dX8_ends_25 ⟨Nat.le_of_ble_eq_true rfl, Nat.le_of_ble_eq_true rfl⟩) hP hD hS hA [0] [] [0] rfl rfl (by decide) (by decide) rfl (by decide) (fun H locs hP hD hS => ?_)
    refine lv_if_eq (tgt := 35) hx hb dX8_ends_28 (by decide) (fun c_2 => ?_) (fun c_2 => ?_)
    · refine lv_aload_n hx hb dX8_ends_35 rfl (lv_at hl 1 rfl) ?_
      refine lv_iconst (v := 0) hx hb dX8_ends_36 (by decide) ?_
      refine lv_iload_n hx hb dX8_ends_37 rfl (lv_at hl 3 rfl) ?_
      refine k_ai (wr := []) (w2 := [(r0, .inl (g 0, 748, .inl rw))]) (va_runS (As := [.ref r0, .int 0, .int (nI pa)]) (rest := []) ⟨hx, hb, hml, hown, hts⟩ (c_X8_hasContract l D g r0 H.size rw 0 pa (by omega) (by omega)) (va_cwS 3 hts gX8_ends_X8_hasContract rfl rfl rfl (by decide +kernel) (k_lvl (by omega) (by decide))) (kPS hP hD hK hS hA hE [0] rfl (by decide)) rfl rfl hl.1 rfl (lv_room (Nat.le_of_ble_eq_true rfl)) dX8_ends_38 ⟨Nat.le_of_ble_eq_true rfl, Nat.le_of_ble_eq_true rfl⟩) hP hD hS hA [0] [] [0] rfl rfl (by decide) (by decide) rfl (by decide) (fun H locs hP hD hS => ?_)
      refine lv_if_eq (tgt := 48) hx hb dX8_ends_41 (by decide) (fun c_3 => ?_) (fun c_3 => ?_)
      · refine lv_iconst (v := 2) hx hb dX8_ends_48 (by decide) ?_
        refine lv_istore (lv' := [(5, .int 2), (4, .int (nI (kSide caller))), (0, .ref r0), (1, .int caller), (2, .int (nI pa)), (3, .int x)]) hx hb dX8_ends_49 hl (by decide) rfl (fun ls hl => ?_)
        refine lv_iload hx hb dX8_ends_51 (lv_at hl 0 rfl) ?_
        refine lv_if_le (tgt := 65) hx hb dX8_ends_53 (by decide) (fun c_4 => absurd c_4 (by decide)) (fun _ => ?_)
        refine lv_aload_n hx hb dX8_ends_56 rfl (lv_at hl 2 rfl) ?_
        refine lv_iload hx hb dX8_ends_57 (lv_at hl 0 rfl) ?_
        refine lv_iload_n hx hb dX8_ends_59 rfl (lv_at hl 3 rfl) ?_
        refine lv_iload_n hx hb dX8_ends_60 rfl (lv_at hl 4 rfl) ?_
        refine lv_iload_n hx hb dX8_ends_61 rfl (lv_at hl 5 rfl) ?_
        refine k_av (wr := []) (w2 := [(r0, .inl (g 0, 748, .inl (f_X8_arise rw 2 caller pa x)))]) (va_runS (As := [.ref r0, .int 2, .int caller, .int (nI pa), .int x]) (rest := []) ⟨hx, hb, hml, hown, hts⟩ (c_X8_arise l D g r0 H.size rw 2 caller pa x (by omega) hca9) (va_cwS 5 hts gX8_ends_X8_arise rfl rfl rfl (by decide +kernel) (k_lvl (by omega) (by decide))) (kPS hP hD hK hS hA hE [0] rfl (by decide)) rfl rfl hl.1 rfl (lv_room (Nat.le_of_ble_eq_true rfl)) dX8_ends_62 ⟨Nat.le_of_ble_eq_true rfl, Nat.le_of_ble_eq_true rfl⟩) hP hD hS hA [0] [] [0] rfl rfl (by decide) (by decide) rfl (by decide) (fun H locs hP hD hS => ?_)
        refine lv_iload hx hb dX8_ends_65 (lv_at hl 0 rfl) ?_
        have hE2 : (f_X8_ends rw caller pa x) = (2, (f_X8_arise rw 2 caller pa x)) := by
          exact (if_neg c_1).trans ((if_pos c_2).trans ((if_pos c_3).trans (rfl)))
        subst hQ
        exact k_ri hx hb hr hlocks hP hD hS dX8_ends_67 (by rw [hE2]) (by rw [hE2])
      · refine lv_iconst (v := 3) hx hb dX8_ends_44 (by decide) ?_
        refine lv_goto (tgt := 49) hx hb dX8_ends_45 (by decide) ?_
        refine lv_istore (lv' := [(5, .int 3), (4, .int (nI (kSide caller))), (0, .ref r0), (1, .int caller), (2, .int (nI pa)), (3, .int x)]) hx hb dX8_ends_49 hl (by decide) rfl (fun ls hl => ?_)
        refine lv_iload hx hb dX8_ends_51 (lv_at hl 0 rfl) ?_
        refine lv_if_le (tgt := 65) hx hb dX8_ends_53 (by decide) (fun c_5 => absurd c_5 (by decide)) (fun _ => ?_)
        refine lv_aload_n hx hb dX8_ends_56 rfl (lv_at hl 2 rfl) ?_
        refine lv_iload hx hb dX8_ends_57 (lv_at hl 0 rfl) ?_
        refine lv_iload_n hx hb dX8_ends_59 rfl (lv_at hl 3 rfl) ?_
        refine lv_iload_n hx hb dX8_ends_60 rfl (lv_at hl 4 rfl) ?_
        refine lv_iload_n hx hb dX8_ends_61 rfl (lv_at hl 5 rfl) ?_
        refine k_av (wr := []) (w2 := [(r0, .inl (g 0, 748, .inl (f_X8_arise rw 3 caller pa x)))]) (va_runS (As := [.ref r0, .int 3, .int caller, .int (nI pa), .int x]) (rest := []) ⟨hx, hb, hml, hown, hts⟩ (c_X8_arise l D g r0 H.size rw 3 caller pa x (by omega) hca9) (va_cwS 5 hts gX8_ends_X8_arise rfl rfl rfl (by decide +kernel) (k_lvl (by omega) (by decide))) (kPS hP hD hK hS hA hE [0] rfl (by decide)) rfl rfl hl.1 rfl (lv_room (Nat.le_of_ble_eq_true rfl)) dX8_ends_62 ⟨Nat.le_of_ble_eq_true rfl, Nat.le_of_ble_eq_true rfl⟩) hP hD hS hA [0] [] [0] rfl rfl (by decide) (by decide) rfl (by decide) (fun H locs hP hD hS => ?_)
        refine lv_iload hx hb dX8_ends_65 (lv_at hl 0 rfl) ?_
        have hE2 : (f_X8_ends rw caller pa x) = (3, (f_X8_arise rw 3 caller pa x)) := by
          exact (if_neg c_1).trans ((if_pos c_2).trans ((if_neg c_3).trans (rfl)))
        subst hQ
        exact k_ri hx hb hr hlocks hP hD hS dX8_ends_67 (by rw [hE2]) (by rw [hE2])
    · refine lv_iconst (v := 0) hx hb dX8_ends_31 (by decide) ?_
      refine lv_goto (tgt := 49) hx hb dX8_ends_32 (by decide) ?_
      refine lv_istore (lv' := [(5, .int 0), (4, .int (nI (kSide caller))), (0, .ref r0), (1, .int caller), (2, .int (nI pa)), (3, .int x)]) hx hb dX8_ends_49 hl (by decide) rfl (fun ls hl => ?_)
      refine lv_iload hx hb dX8_ends_51 (lv_at hl 0 rfl) ?_
      refine lv_if_le (tgt := 65) hx hb dX8_ends_53 (by decide) (fun _ => ?_) (fun c_6 => absurd c_6 (by decide))
      refine lv_iload hx hb dX8_ends_65 (lv_at hl 0 rfl) ?_
      have hE2 : (f_X8_ends rw caller pa x) = (0, rw) := by
        exact (if_neg c_1).trans ((if_neg c_2).trans (rfl))
      subst hQ
      exact k_ri hx hb hr hlocks hP hD hS dX8_ends_67 (by rw [hE2]) (by rw [hE2])
  · refine lv_iconst (v := 2) hx hb dX8_ends_16 (by decide) ?_
    refine lv_goto (tgt := 49) hx hb dX8_ends_17 (by decide) ?_
    refine lv_istore (lv' := [(5, .int 2), (4, .int (nI (kSide caller))), (0, .ref r0), (1, .int caller), (2, .int (nI pa)), (3, .int x)]) hx hb dX8_ends_49 hl (by decide) rfl (fun ls hl => ?_)
    refine lv_iload hx hb dX8_ends_51 (lv_at hl 0 rfl) ?_
    refine lv_if_le (tgt := 65) hx hb dX8_ends_53 (by decide) (fun c_7 => absurd c_7 (by decide)) (fun _ => ?_)
    refine lv_aload_n hx hb dX8_ends_56 rfl (lv_at hl 2 rfl) ?_
    refine lv_iload hx hb dX8_ends_57 (lv_at hl 0 rfl) ?_
    refine lv_iload_n hx hb dX8_ends_59 rfl (lv_at hl 3 rfl) ?_
    refine lv_iload_n hx hb dX8_ends_60 rfl (lv_at hl 4 rfl) ?_
    refine lv_iload_n hx hb dX8_ends_61 rfl (lv_at hl 5 rfl) ?_
    refine k_av (wr := []) (w2 := [(r0, .inl (g 0, 748, .inl (f_X8_arise rw 2 caller pa x)))]) (va_runS (As := [.ref r0, .int 2, .int caller, .int (nI pa), .int x]) (rest := []) ⟨hx, hb, hml, hown, hts⟩ (c_X8_arise l D g r0 H.size rw 2 caller pa x (by omega) hca9) (va_cwS 5 hts gX8_ends_X8_arise rfl rfl rfl (by decide +kernel) (k_lvl (by omega) (by decide))) (kPS hP hD hK hS hA hE [0] rfl (by decide)) rfl rfl hl.1 rfl (lv_room (Nat.le_of_ble_eq_true rfl)) dX8_ends_62 ⟨Nat.le_of_ble_eq_true rfl, Nat.le_of_ble_eq_true rfl⟩) hP hD hS hA [0] [] [0] rfl rfl (by decide) (by decide) rfl (by decide) (fun H locs hP hD hS => ?_)
    refine lv_iload hx hb dX8_ends_65 (lv_at hl 0 rfl) ?_
    have hE2 : (f_X8_ends rw caller pa x) = (2, (f_X8_arise rw 2 caller pa x)) := by
      exact (if_pos c_1).trans (rfl)
    subst hQ
    exact k_ri hx hb hr hlocks hP hD hS dX8_ends_67 (by rw [hE2]) (by rw [hE2])
