/-- the signs behind a command's letter: the place of the first one that does not fit -/
def feIn (ln : Nat) (sg : Nat → Int32) (sh : Nat) : Nat → Nat → Nat → Option Nat
  | 0, _, _ => none
  | f + 1, k, b => if f_X6_fits (f_X6_codeAt ln sg b) (kCh sh k) = 0 then some b else feIn ln sg sh f (k + 1) (b + 1)
/-- the commands from a place on: the first place that is not allowed -/
def feOut (ln : Nat) (sg : Nat → Int32) : Nat → Nat → Int32
  | 0, _ => -10000
  | f + 1, a => if a < ln then (if f_J0_isEmpty_aae02 (fShape (f_X6_codeAt ln sg a)) = 0 then (match feIn ln sg (fShape (f_X6_codeAt ln sg a)) (kLen.getD (fShape (f_X6_codeAt ln sg a)) 0) 0 (a + 1) with
      | some e => nI e
      | none => feOut ln sg f (a + 1 + kLen.getD (fShape (f_X6_codeAt ln sg a)) 0)) else nI a) else -10000
theorem feOut_out {ln : Nat} {sg : Nat → Int32} {fu a : Nat} (h : ¬ a < ln) : feOut ln sg fu a = -10000 := by
  cases fu with
  | zero => rfl
  | succ f => rw [feOut, if_neg h]
theorem feOut_emp {ln : Nat} {sg : Nat → Int32} {fu a : Nat} (h : a < ln) (hf : ln < a + fu) (he : ¬ f_J0_isEmpty_aae02 (fShape (f_X6_codeAt ln sg a)) = 0) : feOut ln sg fu a = nI a := by
  obtain ⟨f, rfl⟩ : ∃ f, fu = f + 1 := ⟨fu - 1, by omega⟩
  rw [feOut, if_pos h, if_neg he]
theorem feOut_err {ln : Nat} {sg : Nat → Int32} {fu a e : Nat} (h : a < ln) (hf : ln < a + fu) (he : f_J0_isEmpty_aae02 (fShape (f_X6_codeAt ln sg a)) = 0) (hi : feIn ln sg (fShape (f_X6_codeAt ln sg a)) (kLen.getD (fShape (f_X6_codeAt ln sg a)) 0) 0 (a + 1) = some e) : feOut ln sg fu a = nI e := by
  obtain ⟨f, rfl⟩ : ∃ f, fu = f + 1 := ⟨fu - 1, by omega⟩
  rw [feOut, if_pos h, if_pos he, hi]
theorem feOut_go {ln : Nat} {sg : Nat → Int32} {fu a b : Nat} (h : a < ln) (hf : ln < a + fu) (he : f_J0_isEmpty_aae02 (fShape (f_X6_codeAt ln sg a)) = 0) (hi : feIn ln sg (fShape (f_X6_codeAt ln sg a)) (kLen.getD (fShape (f_X6_codeAt ln sg a)) 0) 0 (a + 1) = none) (hb : b = a + 1 + kLen.getD (fShape (f_X6_codeAt ln sg a)) 0) : feOut ln sg (fu - 1) b = feOut ln sg fu a := by
  obtain ⟨f, rfl⟩ : ∃ f, fu = f + 1 := ⟨fu - 1, by omega⟩
  rw [feOut, if_pos h, if_pos he, hi, hb]
  rfl
theorem feIn_err {ln : Nat} {sg : Nat → Int32} {sh len k b : Nat} (h : ¬ len ≤ k) (hc : f_X6_fits (f_X6_codeAt ln sg b) (kCh sh k) = 0) : feIn ln sg sh (len - k) k b = some b := by
  obtain ⟨f, e⟩ : ∃ f, len - k = f + 1 := ⟨len - k - 1, by omega⟩
  rw [e, feIn, if_pos hc]
theorem feIn_step {ln : Nat} {sg : Nat → Int32} {sh len k b : Nat} (h : ¬ len ≤ k) (hc : ¬ f_X6_fits (f_X6_codeAt ln sg b) (kCh sh k) = 0) : feIn ln sg sh (len - (k + 1)) (k + 1) (b + 1) = feIn ln sg sh (len - k) k b := by
  obtain ⟨f, e⟩ : ∃ f, len - k = f + 1 := ⟨len - k - 1, by omega⟩
  rw [e, feIn, if_neg hc, show len - (k + 1) = f by omega]
theorem feIn_end {ln : Nat} {sg : Nat → Int32} {sh len k b : Nat} (h : len ≤ k) : feIn ln sg sh (len - k) k b = none := by
  rw [show len - k = 0 by omega, feIn]
theorem qX6_firstError_0 : Cond.fieldLink RX6 15 "BlameChains$Text" "length" "I" ∈ wsX6_firstError := (List.mem_cons_of_mem _ (List.mem_append_left _ (List.mem_append_left _ (List.mem_of_getElem? (i := 0) rfl))))
set_option maxHeartbeats 4000000 in
set_option maxRecDepth 100000 in
theorem c_X6_firstError (l : Launch) (D : va_G) (g : Nat → Nat) (t0 t1 : Nat) (sz : Nat) (ln : Nat) (sg : Nat → Int32) (hln : ln ≤ 120) : kMi l D g yX6_firstError wsX6_firstError 6 0 0 [.ref t0] [(t0, .inr (6, [.ref t1, .int (nI ln)])), (t1, .inl (g 1, 120, .inl sg))] sz (if f_X6_codeAt ln sg 0 = 67 then feOut ln sg ln 1 else 0) [(t0, .inr (6, [.ref t1, .int (nI ln)])), (t1, .inl (g 1, 120, .inl sg))] := by
  refine k_enter (nm := "firstError") (own := RX6) (bytes := cX6_firstError) (maxL := 4) (ret := (some .int)) (Qf := fun A => kQi D [(t0, .inr (6, [.ref t1, .int (nI ln)])), (t1, .inl (g 1, 120, .inl sg))] A (if f_X6_codeAt ln sg 0 = 67 then feOut ln sg ln 1 else 0)) (by decide) rfl rfl rfl (Nat.le_of_ble_eq_true rfl) ?_
  rintro pp ee s mm below meth cc A ls args Q H locs hQ ⟨hx, hb, hr, hml, hown, hts, hlocks, hin⟩ hP hK hD hA hS hE hl
  have hl : lv_has ls 4 [(0, .ref t0)] := hl
  refine lv_aload_n hx hb dX6_firstError_0 rfl (lv_at hl 0 rfl) ?_
  refine lv_iconst (v := 0) hx hb dX6_firstError_1 (by decide) ?_
  refine k_ai (wr := []) (w2 := [(t0, .inr (6, [.ref t1, .int (nI ln)])), (t1, .inl (g 1, 120, .inl sg))]) (va_runV (As := [.int 0]) (rest := []) ⟨hx, hb, hml, hown, hts⟩ (c_X6_codeAt l D g t0 t1 H.size ln sg 0 (by omega) (by omega)) (cwV 1 hts gX6_firstError_X6_codeAt rfl rfl rfl (by decide +kernel) (k_lvl (by omega) (by decide))) (kPV hP hD hK hS hA hE [0, 1] rfl (by decide) 0 6 rfl rfl rfl) rfl rfl hl.1 rfl (lv_room (Nat.le_of_ble_eq_true rfl)) dX6_firstError_2 ⟨Nat.le_of_ble_eq_true rfl, Nat.le_of_ble_eq_true rfl⟩) hP hD hS hA [0, 1] [] [0, 1] rfl rfl (by decide) (by decide) rfl (by decide) (fun H locs hP hD hS => ?_)
  refine lv_bipush (v := 67) hx hb dX6_firstError_5 (by decide) ?_
  refine lv_icmp_eq (tgt := 12) hx hb dX6_firstError_7 (by decide) (fun c_1 => ?_) (fun c_1 => ?_)
  · refine lv_iconst (v := 1) hx hb dX6_firstError_12 (by decide) ?_
    refine lv_istore_n (lv' := [(1, .int 1), (0, .ref t0)]) hx hb dX6_firstError_13 rfl hl (by decide) rfl (fun ls hl => ?_)
    have hloop_14 : ∀ (nn_14 : Nat) (fu : Nat) (a : Nat), fu < nn_14 → ∀ (hf : ln < a + fu) (ha : a ≤ 200) (hr9 : feOut ln sg fu a = (if f_X6_codeAt ln sg 0 = 67 then feOut ln sg ln 1 else 0)) (H : Heap) (locs : List Loc) (ls : Array Slot), va_P D vwCl [(t0, .inr (6, [.ref t1, .int (nI ln)])), (t1, .inl (g 1, 120, .inl sg))] H → va_D A [(t0, .inr (6, [.ref t1, .int (nI ln)])), (t1, .inl (g 1, 120, .inl sg))] → va_S A s.heap H locs → lv_has ls 4 [(1, .int (nI a)), (0, .ref t0)] → W pp l ee (kR 6 0 0) s mm args below meth cc H locs 0 0 Q (F0 mm 14 ls []) := by
      intro nn_14
      induction nn_14 with
      | zero => intro fu a hm9; exact absurd hm9 (Nat.not_lt_zero _)
      | succ nn_14 ih_14 =>
        intro fu a hm_14 hf ha hr9 H locs ls hP hD hS hl
        refine lv_iload_n hx hb dX6_firstError_14 rfl (lv_at hl 0 rfl) ?_
        refine lv_aload_n hx hb dX6_firstError_15 rfl (lv_at hl 1 rfl) ?_
        refine va_get (D := D) (ci := 6) (v := .int (nI ln)) (C := RX6) (T := TX6) (N := 2) hx hb hts (fun w h => (List.mem_cons_of_mem _ (List.mem_append_right _ h))) hown hK hP 0 rfl rfl 1 (by decide) (hts _ qX6_firstError_0) (fun _ h9 => h9) rfl dX6_firstError_16 ?_
        refine lv_icmp_ge (tgt := 83) hx hb dX6_firstError_19 (by decide) (fun c_2 => ?_) (fun c_2 => ?_)
        · have c_2 : ln ≤ a := (nI_leI (a := ln) (b := a) (by omega) (by omega)).mp c_2
          refine lv_sipush (v := (-10000)) hx hb dX6_firstError_83 (by decide) ?_
          subst hQ
          exact k_ri hx hb hr hlocks hP hD hS dX6_firstError_86 (by rw [← hr9, feOut_out (show ¬ a < ln by omega)]) (rfl)
        · have c_2 : ¬ (ln ≤ a) := fun h9 => c_2 ((nI_leI (a := ln) (b := a) (by omega) (by omega)).mpr h9)
          refine lv_aload_n hx hb dX6_firstError_22 rfl (lv_at hl 1 rfl) ?_
          refine lv_iload_n hx hb dX6_firstError_23 rfl (lv_at hl 0 rfl) ?_
          refine k_ai (wr := []) (w2 := [(t0, .inr (6, [.ref t1, .int (nI ln)])), (t1, .inl (g 1, 120, .inl sg))]) (va_runV (As := [.int (nI a)]) (rest := []) ⟨hx, hb, hml, hown, hts⟩ (c_X6_codeAt l D g t0 t1 H.size ln sg a (by omega) (by omega)) (cwV 1 hts gX6_firstError_X6_codeAt rfl rfl rfl (by decide +kernel) (k_lvl (by omega) (by decide))) (kPV hP hD hK hS hA hE [0, 1] rfl (by decide) 0 6 rfl rfl rfl) rfl rfl hl.1 rfl (lv_room (Nat.le_of_ble_eq_true rfl)) dX6_firstError_24 ⟨Nat.le_of_ble_eq_true rfl, Nat.le_of_ble_eq_true rfl⟩) hP hD hS hA [0, 1] [] [0, 1] rfl rfl (by decide) (by decide) rfl (by decide) (fun H locs hP hD hS => ?_)
          refine k_ar (wr := [(t0, .inr (6, [.ref t1, .int (nI ln)])), (t1, .inl (g 1, 120, .inl sg))]) (w2 := [(t0, .inr (6, [.ref t1, .int (nI ln)])), (t1, .inl (g 1, 120, .inl sg))]) (va_runS (As := [.int (f_X6_codeAt ln sg a)]) (rest := []) ⟨hx, hb, hml, hown, hts⟩ (c_X6_shapeAfter l D g H.size (f_X6_codeAt ln sg a)) (va_cwS 1 hts gX6_firstError_X6_shapeAfter rfl rfl rfl (by decide +kernel) (k_lvl (by omega) (by decide))) (kPS hP hD hK hS hA hE [] rfl (by decide)) rfl rfl hl.1 rfl (lv_room (Nat.le_of_ble_eq_true rfl)) dX6_firstError_27 ⟨Nat.le_of_ble_eq_true rfl, Nat.le_of_ble_eq_true rfl⟩) hP hD hS hA [] [0, 1] [0, 1] rfl rfl (by decide) (by decide) rfl (by decide) (fun H locs hP hD hS => ?_)
          refine lv_astore_n (lv' := [(2, .ref (g (10 + fShape (f_X6_codeAt ln sg a)))), (1, .int (nI a)), (0, .ref t0)]) hx hb dX6_firstError_30 rfl hl (by decide) rfl (fun ls hl => ?_)
          refine lv_aload_n hx hb dX6_firstError_31 rfl (lv_at hl 0 rfl) ?_
          refine k_ai (wr := [(t0, .inr (6, [.ref t1, .int (nI ln)])), (t1, .inl (g 1, 120, .inl sg))]) (w2 := [(t0, .inr (6, [.ref t1, .int (nI ln)])), (t1, .inl (g 1, 120, .inl sg))]) (va_runV (As := []) (rest := []) ⟨hx, hb, hml, hown, hts⟩ (c_J0_isEmpty_aae02 l D g H.size (fShape (f_X6_codeAt ln sg a)) (fShape_lt _)) (cwV 0 hts gX6_firstError_J0_isEmpty_aae02 rfl rfl rfl (by decide +kernel) (k_lvl (by omega) (by decide))) (kPVr hP hD hK hS hA hE [] rfl (by decide) (vk_recv (i := fShape (f_X6_codeAt ln sg a)) hE.2.2.1 (fShape_lt _) hS)) rfl rfl hl.1 rfl (lv_room (Nat.le_of_ble_eq_true rfl)) dX6_firstError_32 ⟨Nat.le_of_ble_eq_true rfl, Nat.le_of_ble_eq_true rfl⟩) hP hD hS hA [] [0, 1] [0, 1] rfl rfl (by decide) (by decide) rfl (by decide) (fun H locs hP hD hS => ?_)
          refine lv_if_eq (tgt := 40) hx hb dX6_firstError_35 (by decide) (fun c_3 => ?_) (fun c_3 => ?_)
          · refine lv_iinc (v := (nI (a + 1))) (lv' := [(1, .int (nI (a + 1))), (2, .ref (g (10 + fShape (f_X6_codeAt ln sg a)))), (0, .ref t0)]) hx hb dX6_firstError_40 hl (k := 1) rfl (nI_1 _) (by decide) rfl (fun ls hl => ?_)
            refine lv_iconst (v := 0) hx hb dX6_firstError_43 (by decide) ?_
            refine lv_istore_n (lv' := [(3, .int 0), (1, .int (nI (a + 1))), (2, .ref (g (10 + fShape (f_X6_codeAt ln sg a)))), (0, .ref t0)]) hx hb dX6_firstError_44 rfl hl (by decide) rfl (fun ls hl => ?_)
            have hloop_45 : ∀ (nn_45 : Nat) (k : Nat) (b : Nat), kLen.getD (fShape (f_X6_codeAt ln sg a)) 0 - k < nn_45 → ∀ (hk : k ≤ kLen.getD (fShape (f_X6_codeAt ln sg a)) 0) (hb9 : b = a + 1 + k) (hi9 : feIn ln sg (fShape (f_X6_codeAt ln sg a)) (kLen.getD (fShape (f_X6_codeAt ln sg a)) 0 - k) k b = feIn ln sg (fShape (f_X6_codeAt ln sg a)) (kLen.getD (fShape (f_X6_codeAt ln sg a)) 0) 0 (a + 1)) (H : Heap) (locs : List Loc) (ls : Array Slot), va_P D vwCl [(t0, .inr (6, [.ref t1, .int (nI ln)])), (t1, .inl (g 1, 120, .inl sg))] H → va_D A [(t0, .inr (6, [.ref t1, .int (nI ln)])), (t1, .inl (g 1, 120, .inl sg))] → va_S A s.heap H locs → lv_has ls 4 [(3, .int (nI k)), (1, .int (nI b)), (2, .ref (g (10 + (fShape (f_X6_codeAt ln sg a))))), (0, .ref t0)] → W pp l ee (kR 6 0 0) s mm args below meth cc H locs 0 0 Q (F0 mm 45 ls []) := by
              intro nn_45
              induction nn_45 with
              | zero => intro k b hm9; exact absurd hm9 (Nat.not_lt_zero _)
              | succ nn_45 ih_45 =>
                intro k b hm_45 hk hb9 hi9 H locs ls hP hD hS hl
                have hsm := kLen_small (fShape (f_X6_codeAt ln sg a))
                refine lv_iload_n hx hb dX6_firstError_45 rfl (lv_at hl 0 rfl) ?_
                refine lv_aload_n hx hb dX6_firstError_46 rfl (lv_at hl 2 rfl) ?_
                refine k_ai (wr := [(t0, .inr (6, [.ref t1, .int (nI ln)])), (t1, .inl (g 1, 120, .inl sg))]) (w2 := [(t0, .inr (6, [.ref t1, .int (nI ln)])), (t1, .inl (g 1, 120, .inl sg))]) (va_runV (As := []) (rest := [.int (nI k)]) ⟨hx, hb, hml, hown, hts⟩ (c_J0_length_8abf5 l D g H.size (fShape (f_X6_codeAt ln sg a)) (fShape_lt _)) (cwV 0 hts gX6_firstError_J0_length_8abf5 rfl rfl rfl (by decide +kernel) (k_lvl (by omega) (by decide))) (kPVr hP hD hK hS hA hE [] rfl (by decide) (vk_recv (i := (fShape (f_X6_codeAt ln sg a))) hE.2.2.1 (fShape_lt _) hS)) rfl rfl hl.1 rfl (lv_room (Nat.le_of_ble_eq_true rfl)) dX6_firstError_47 ⟨Nat.le_of_ble_eq_true rfl, Nat.le_of_ble_eq_true rfl⟩) hP hD hS hA [] [0, 1] [0, 1] rfl rfl (by decide) (by decide) rfl (by decide) (fun H locs hP hD hS => ?_)
                refine lv_icmp_ge (tgt := 80) hx hb dX6_firstError_50 (by decide) (fun c_4 => ?_) (fun c_4 => ?_)
                · have c_4 : (kLen.getD (fShape (f_X6_codeAt ln sg a)) 0) ≤ k := (nI_leI (a := (kLen.getD (fShape (f_X6_codeAt ln sg a)) 0)) (b := k) (by omega) (by omega)).mp c_4
                  refine lv_goto (tgt := 14) hx hb dX6_firstError_80 (by decide) ?_
                  exact ih_14 (fu - 1) b (by omega) (by omega) (by have h7 := kLen_small (fShape (f_X6_codeAt ln sg a)); omega) ((feOut_go (show a < ln by omega) hf c_3 (hi9.symm.trans (feIn_end c_4)) (by omega)).trans hr9) H locs ls hP hD hS (lv_sub hl [1, 3] rfl)
                · have c_4 : ¬ ((kLen.getD (fShape (f_X6_codeAt ln sg a)) 0) ≤ k) := fun h9 => c_4 ((nI_leI (a := (kLen.getD (fShape (f_X6_codeAt ln sg a)) 0)) (b := k) (by omega) (by omega)).mpr h9)
                  refine lv_aload_n hx hb dX6_firstError_53 rfl (lv_at hl 3 rfl) ?_
                  refine lv_iload_n hx hb dX6_firstError_54 rfl (lv_at hl 1 rfl) ?_
                  refine k_ai (wr := []) (w2 := [(t0, .inr (6, [.ref t1, .int (nI ln)])), (t1, .inl (g 1, 120, .inl sg))]) (va_runV (As := [.int (nI b)]) (rest := []) ⟨hx, hb, hml, hown, hts⟩ (c_X6_codeAt l D g t0 t1 H.size ln sg b (by omega) (by omega)) (cwV 1 hts gX6_firstError_X6_codeAt rfl rfl rfl (by decide +kernel) (k_lvl (by omega) (by decide))) (kPV hP hD hK hS hA hE [0, 1] rfl (by decide) 0 6 rfl rfl rfl) rfl rfl hl.1 rfl (lv_room (Nat.le_of_ble_eq_true rfl)) dX6_firstError_55 ⟨Nat.le_of_ble_eq_true rfl, Nat.le_of_ble_eq_true rfl⟩) hP hD hS hA [0, 1] [] [0, 1] rfl rfl (by decide) (by decide) rfl (by decide) (fun H locs hP hD hS => ?_)
                  refine lv_aload_n hx hb dX6_firstError_58 rfl (lv_at hl 2 rfl) ?_
                  refine lv_iload_n hx hb dX6_firstError_59 rfl (lv_at hl 0 rfl) ?_
                  refine k_ai (wr := [(t0, .inr (6, [.ref t1, .int (nI ln)])), (t1, .inl (g 1, 120, .inl sg))]) (w2 := [(t0, .inr (6, [.ref t1, .int (nI ln)])), (t1, .inl (g 1, 120, .inl sg))]) (va_runV (As := [.int (nI k)]) (rest := [.int (f_X6_codeAt ln sg b)]) ⟨hx, hb, hml, hown, hts⟩ (c_J0_charAt_5068e l D g H.size (fShape (f_X6_codeAt ln sg a)) k (fShape_lt _) (by omega)) (cwV 1 hts gX6_firstError_J0_charAt_5068e rfl rfl rfl (by decide +kernel) (k_lvl (by omega) (by decide))) (kPVr hP hD hK hS hA hE [] rfl (by decide) (vk_recv (i := (fShape (f_X6_codeAt ln sg a))) hE.2.2.1 (fShape_lt _) hS)) rfl rfl hl.1 rfl (lv_room (Nat.le_of_ble_eq_true rfl)) dX6_firstError_60 ⟨Nat.le_of_ble_eq_true rfl, Nat.le_of_ble_eq_true rfl⟩) hP hD hS hA [] [0, 1] [0, 1] rfl rfl (by decide) (by decide) rfl (by decide) (fun H locs hP hD hS => ?_)
                  refine k_ai (wr := [(t0, .inr (6, [.ref t1, .int (nI ln)])), (t1, .inl (g 1, 120, .inl sg))]) (w2 := [(t0, .inr (6, [.ref t1, .int (nI ln)])), (t1, .inl (g 1, 120, .inl sg))]) (va_runS (As := [.int (f_X6_codeAt ln sg b), .int (kCh (fShape (f_X6_codeAt ln sg a)) k)]) (rest := []) ⟨hx, hb, hml, hown, hts⟩ (c_X6_fits l D g H.size (f_X6_codeAt ln sg b) (kCh (fShape (f_X6_codeAt ln sg a)) k)) (va_cwS 2 hts gX6_firstError_X6_fits rfl rfl rfl (by decide +kernel) (k_lvl (by omega) (by decide))) (kPS hP hD hK hS hA hE [] rfl (by decide)) rfl rfl hl.1 rfl (lv_room (Nat.le_of_ble_eq_true rfl)) dX6_firstError_63 ⟨Nat.le_of_ble_eq_true rfl, Nat.le_of_ble_eq_true rfl⟩) hP hD hS hA [] [0, 1] [0, 1] rfl rfl (by decide) (by decide) rfl (by decide) (fun H locs hP hD hS => ?_)
                  refine lv_if_ne (tgt := 71) hx hb dX6_firstError_66 (by decide) (fun c_5 => ?_) (fun c_5 => ?_)
                  · refine lv_iinc (v := (nI (b + 1))) (lv' := [(1, .int (nI (b + 1))), (3, .int (nI k)), (2, .ref (g (10 + (fShape (f_X6_codeAt ln sg a))))), (0, .ref t0)]) hx hb dX6_firstError_71 hl (k := 1) rfl (nI_1 _) (by decide) rfl (fun ls hl => ?_)
                    refine lv_iinc (v := (nI (k + 1))) (lv' := [(3, .int (nI (k + 1))), (1, .int (nI (b + 1))), (2, .ref (g (10 + (fShape (f_X6_codeAt ln sg a))))), (0, .ref t0)]) hx hb dX6_firstError_74 hl (k := 1) rfl (nI_1 _) (by decide) rfl (fun ls hl => ?_)
                    refine lv_goto (tgt := 45) hx hb dX6_firstError_77 (by decide) ?_
                    exact ih_45 (k + 1) (b + 1) (by omega) (by omega) (by omega) ((feIn_step c_4 c_5).trans hi9) H locs ls hP hD hS (lv_sub hl [0, 1, 2, 3] rfl)
                  · refine lv_iload_n hx hb dX6_firstError_69 rfl (lv_at hl 1 rfl) ?_
                    subst hQ
                    exact k_ri hx hb hr hlocks hP hD hS dX6_firstError_70 (by rw [← hr9, feOut_err (show a < ln by omega) hf c_3 (hi9.symm.trans (feIn_err c_4 c_5))]) (rfl)
            exact hloop_45 ((kLen.getD (fShape (f_X6_codeAt ln sg a)) 0 - 0) + 1) 0 (a + 1) (Nat.lt_succ_self _) (by omega) (by omega) rfl H locs ls hP hD hS (lv_sub hl [0, 1, 2, 3] rfl)
          · refine lv_iload_n hx hb dX6_firstError_38 rfl (lv_at hl 1 rfl) ?_
            subst hQ
            exact k_ri hx hb hr hlocks hP hD hS dX6_firstError_39 (by rw [← hr9, feOut_emp (show a < ln by omega) hf c_3]) (rfl)
    exact hloop_14 (ln + 1) ln 1 (Nat.lt_succ_self _) (by omega) (by omega) (by rw [if_pos c_1]) H locs ls hP hD hS (lv_sub hl [0, 1] rfl)
  · refine lv_iconst (v := 0) hx hb dX6_firstError_10 (by decide) ?_
    subst hQ
    exact k_ri hx hb hr hlocks hP hD hS dX6_firstError_11 (by rw [if_neg c_1]) (rfl)
