-- MODULE: the reference, its methods, 5
noncomputable section
/-- the kind of the newest blame -/
def kOk (rw : Nat → Int32) : Prop := rw 688 = 1 ∨ rw 688 = 2 ∨ rw 688 = 3
theorem arise_688 {rw : Nat → Int32} {kind caller x : Int32} {pa : Nat} (hp : pa < 10) (hc : caller.toNatClampNeg < 10) : f_X8_arise rw kind caller pa x 688 = kind := by
  unfold f_X8_arise
  repeat' split
  all_goals first | (rw [pk_un (by omega), pk_un (by omega), pk_un (by omega), pk_un (by omega), pk_un (by omega), pk_un (by omega), pk_un (by omega), pk_un (by omega)]; exact pk_us) | (rw [pk_un (by omega), pk_un (by omega), pk_un (by omega), pk_un (by omega), pk_un (by omega), pk_un (by omega), pk_un (by omega), pk_un (by omega), pk_un (by omega)]; exact pk_us)
theorem begins_k {rw : Nat → Int32} {caller x : Int32} {pa : Nat} (hp : pa < 10) (hc : caller.toNatClampNeg < 10) (h : ¬ (f_X8_begins rw caller pa x).1 ≤ 0) : kOk (f_X8_begins rw caller pa x).2 := by
  unfold f_X8_begins at h ⊢
  repeat' split
  · exact Or.inl (arise_688 hp hc)
  · exact Or.inl (arise_688 hp hc)
  · exact Or.inr (Or.inr (arise_688 hp hc))
  · rename_i h1 h2
    rw [if_neg h1, if_neg h2] at h
    exact absurd (show (0 : Int32) ≤ 0 by decide) h
theorem ends_k {rw : Nat → Int32} {caller x : Int32} {pa : Nat} (hp : pa < 10) (hc : caller.toNatClampNeg < 10) (h : ¬ (f_X8_ends rw caller pa x).1 ≤ 0) : kOk (f_X8_ends rw caller pa x).2 := by
  unfold f_X8_ends at h ⊢
  repeat' split
  · exact Or.inr (Or.inl (arise_688 hp hc))
  · exact Or.inr (Or.inl (arise_688 hp hc))
  · exact Or.inr (Or.inr (arise_688 hp hc))
  · rename_i h1 h2
    rw [if_neg h1, if_neg h2] at h
    exact absurd (show (0 : Int32) ≤ 0 by decide) h
theorem kOk_if {r : Int32 × (Nat → Int32)} (h : ¬ r.1 ≤ 0 → kOk r.2) : (if r.1 ≤ 0 then (0 : Int32) else 1) = 0 ∨ kOk r.2 := by
  by_cases c : r.1 ≤ 0
  · rw [if_pos c]; exact Or.inl rfl
  · exact Or.inr (h c)
theorem rDn_k : ∀ (f : Nat) (rw0 rw : Nat → Int32) (lv : Nat) (cp cn : Nat → Int32) (b : Int32), rNx rw0 → kSame rw0 rw → rOk lv cp → (b = 0 ∨ kOk rw) → (rDn f rw lv cp cn b).2.2.2.2 = 0 ∨ kOk (rDn f rw lv cp cn b).1 := by
  intro f
  induction f with
  | zero => intro rw0 rw lv cp cn b h1 h2 h3 h4; exact h4
  | succ f ih =>
    intro rw0 rw lv cp cn b h1 h2 h3 h4
    rw [rDn]
    by_cases hb : b = 0
    · rw [if_pos hb]
      by_cases hn : f_X8_next rw (cp lv).toNatClampNeg < 0
      · rw [if_pos hn]; exact h4
      · rw [if_neg hn]
        have h5 := h3.2
        have hl := next_lt (rNx_same h2 h1) (by omega) hn
        have h6 : (nI (cp lv).toNatClampNeg).toNatClampNeg < 10 := by rw [nI_clamp (by omega)]; omega
        exact ih rw0 _ _ _ _ _ h1 (h2.trans (f_X8_begins_same (by omega) (Or.inr ⟨nI_pos (by omega), fun h => by have := (nI_leI (a := 10) (by omega) (by omega)).mp h; omega⟩))) (rOk_s h3 hn hl) (kOk_if (begins_k (by omega) h6))
    · rw [if_neg hb]; exact h4
theorem rDN_k {fu : Nat} {rw cp cn : Nat → Int32} {pa : Nat} {x : Int32} (hR : rNx rw) (hp : pa < 10) : (rDN fu rw cp cn pa x).2.2.2.2 = 0 ∨ kOk (rDN fu rw cp cn pa x).1 := by
  have h0 : kSame rw (upd rw 682 (rw 682 + 1)) := kSame.rf.upd (by unfold kFix; omega)
  exact rDn_k fu rw _ _ _ _ _ hR (h0.trans (f_X8_begins_same hp (Or.inl rfl))) (rOk_0 hp) (kOk_if (begins_k hp (by decide)))
theorem kOk_upd {rw : Nat → Int32} {i : Nat} {x : Int32} (hi : 688 ≠ i) (h : kOk rw) : kOk (upd rw i x) := by
  unfold kOk
  rw [pk_un hi]
  exact h
theorem reckon_ne (rw : Nat → Int32) (p : Nat) (z : Int32) : ¬ f_X8_reckon rw p z = -10000 := by
  unfold f_X8_reckon
  repeat' split
  · rename_i h1 h2
    intro h3
    rw [h3] at h2
    exact absurd h2 (by decide)
  · decide
  · decide
theorem rEnd_k {cp : Nat → Int32} {lv u : Nat} {rw : Nat → Int32} {v : Int32} (h : rOk lv cp) (hu : u ≤ lv) (hv : ¬ v = -10000) : ((rEnd cp u rw v).2.2 = 0 ∨ kOk (rEnd cp u rw v).1) ∧ ((rEnd cp u rw v).2.2 = 0 → ¬ (rEnd cp u rw v).2.1 = -10000) := by
  have hp := (h.1 u hu).2
  exact ⟨kOk_if (ends_k (by omega) (cl10 (callerAt_ok h hu))), fun _ => hv⟩
theorem rStep_k {lv u : Nat} {cp cn rw : Nat → Int32} {v b : Int32} (h : rOk lv cp) (hu : u ≤ lv) (h1 : b = 0 ∨ kOk rw) (h2 : b = 0 → ¬ v = -10000) : ((rStep lv cp cn u rw v b).2.2 = 0 ∨ kOk (rStep lv cp cn u rw v b).1) ∧ ((rStep lv cp cn u rw v b).2.2 = 0 → ¬ (rStep lv cp cn u rw v b).2.1 = -10000) := by
  unfold rStep
  by_cases hb : b = 0
  · rw [if_pos hb]
    by_cases hl : u = lv
    · rw [if_pos hl]; exact rEnd_k h hu (reckon_ne _ _ _)
    · rw [if_neg hl]; exact rEnd_k h hu (reckon_ne _ _ _)
  · rw [if_neg hb]
    have hk := h1.resolve_left hb
    by_cases hl : u = lv
    · rw [if_pos hl]; exact ⟨Or.inr (kOk_upd (by decide) hk), fun q => absurd q hb⟩
    · rw [if_neg hl]
      by_cases hn : rw (1 + 8 * (cp u).toNatClampNeg + 4) = -10000
      · rw [if_pos hn]; exact ⟨Or.inr (kOk_upd (by decide) hk), fun q => absurd q hb⟩
      · rw [if_neg hn]; exact rEnd_k h hu hn
theorem rUp_k {lv : Nat} {cp cn : Nat → Int32} (h : rOk lv cp) : ∀ (u : Nat) (rw : Nat → Int32) (v b : Int32), u ≤ lv + 1 → (b = 0 ∨ kOk rw) → (b = 0 → ¬ v = -10000) → ((rUp lv cp cn u rw v b).2.2 = 0 ∨ kOk (rUp lv cp cn u rw v b).1) ∧ ((rUp lv cp cn u rw v b).2.2 = 0 → ¬ (rUp lv cp cn u rw v b).2.1 = -10000) := by
  intro u
  induction u with
  | zero => intro rw v b _ h1 h2; exact ⟨h1, h2⟩
  | succ u ih =>
    intro rw v b hu h1 h2
    rw [rUp]
    obtain ⟨k1, k2⟩ := rStep_k (cn := cn) h (show u ≤ lv by omega) h1 h2
    exact ih _ _ _ (by omega) k1 k2
theorem callIn_none {cp cn rw : Nat → Int32} {pa : Nat} {x : Int32} (hR : rNx rw) (hp : pa < 10) (h : (h_X8_callIn cp cn rw pa x).1 = -10000) : kOk (h_X8_callIn cp cn rw pa x).2.1 := by
  rw [h_X8_callIn_eq] at h ⊢
  obtain ⟨h1, h2⟩ := rDN_ok (fu := 10) (cp := cp) (cn := cn) (x := x) hR hp
  obtain ⟨k1, k2⟩ := rUp_k (cn := (rDN 10 rw cp cn pa x).2.2.2.1) h2 _ (rDN 10 rw cp cn pa x).1 0 (rDN 10 rw cp cn pa x).2.2.2.2 (Nat.le_refl _) (rDN_k hR hp) (fun _ => by decide)
  unfold f_X8_callIn at h ⊢
  clear h1 h2
  generalize rDN 10 rw cp cn pa x = d at *
  generalize rUp d.2.1 d.2.2.1 d.2.2.2.1 (d.2.1 + 1) d.1 0 d.2.2.2.2 = r at *
  by_cases c : r.2.2 = 0
  · rw [if_pos c] at h
    exact absurd h (k2 c)
  · rw [if_neg c]
    exact kOk_upd (by decide) (k1.resolve_left c)
theorem kOk_N {rw : Nat → Int32} (h : kOk rw) : rw 688 = nI (rw 688).toNatClampNeg ∧ (rw 688).toNatClampNeg ≤ 3 := by
  rcases h with h | h | h <;> rw [h] <;> decide
/-- what would answers before it does anything: 0, or which of its exceptions is thrown -/
def kc_X8_would (nw : Nat → Int32) (pa : Int32) (x : Int32) (what : Int32) : Int32 :=
  if (f_X8_isPart nw pa) = 0 then
    1
  else
    if (f_X8_isNumber x) = 0 then
      2
    else
      if (f_X8_in (Int32.toInt64 what) 0 4) = 0 then
        2
      else
        0
def f_X8_would (nw : Nat → Int32) (cp : Nat → Int32) (cn : Nat → Int32) (pa : Int32) (x : Int32) (what : Int32) : Int32 × (Nat → Int32) × (Nat → Int32) × (Nat → Int32) :=
  let mn_0 := (nw 0).toNatClampNeg
  let pa_0 := pa.toNatClampNeg
  let what_0 := what.toNatClampNeg
  let v_5 := (h_X8_callIn cp cn nw pa_0 x)
  let l_99 := (v_5.2.1 688).toNatClampNeg
  if v_5.1 = (-10000) then
    if what_0 = 0 then
      (v_5.1, v_5.2.1, v_5.2.2.1, v_5.2.2.2)
    else
      if what_0 = 1 then
        ((v_5.2.1 688), v_5.2.1, v_5.2.2.1, v_5.2.2.2)
      else
        if what_0 = 2 then
          if (v_5.2.1 688) = 3 then
            ((-10000), v_5.2.1, v_5.2.2.1, v_5.2.2.2)
          else
            ((v_5.2.1 (688 + l_99)), v_5.2.1, v_5.2.2.1, v_5.2.2.2)
        else
          if what_0 = 3 then
            ((v_5.2.1 692), v_5.2.1, v_5.2.2.1, v_5.2.2.2)
          else
            (((v_5.2.1 685) - (nw 685)), v_5.2.1, v_5.2.2.1, v_5.2.2.2)
  else
    if what_0 = 0 then
      (v_5.1, v_5.2.1, v_5.2.2.1, v_5.2.2.2)
    else
      if what_0 = 1 then
        (0, v_5.2.1, v_5.2.2.1, v_5.2.2.2)
      else
        if what_0 = 2 then
          ((-10000), v_5.2.1, v_5.2.2.1, v_5.2.2.2)
        else
          if what_0 = 3 then
            (0, v_5.2.1, v_5.2.2.1, v_5.2.2.2)
          else
            (((v_5.2.1 685) - (nw 685)), v_5.2.1, v_5.2.2.1, v_5.2.2.2)
theorem qX8_would_0 : Cond.constantLong RX8 232 (4) ∈ wsX8_would := (List.mem_cons_of_mem _ (List.mem_append_left _ (List.mem_append_left _ (List.mem_of_getElem? (i := 0) rfl))))
theorem qX8_would_1 : Cond.fieldLink RX8 19 "BlameChainsModel" "trial" "[I" ∈ wsX8_would := (List.mem_cons_of_mem _ (List.mem_append_left _ (List.mem_append_left _ (List.mem_of_getElem? (i := 1) rfl))))
theorem qX8_would_2 : Cond.fieldLink RX8 16 "BlameChainsModel" "now" "[I" ∈ wsX8_would := (List.mem_cons_of_mem _ (List.mem_append_left _ (List.mem_append_left _ (List.mem_of_getElem? (i := 2) rfl))))
set_option maxHeartbeats 4000000 in
set_option maxRecDepth 100000 in
theorem c_X8_would (l : Launch) (D : va_G) (g : Nat → Nat) (m0 sc0 rd0 nw0 tr0 di0 ke0 ik0 cp0 cn0 be0 : Nat) (sz : Nat) (rf : Int32) (ss : Nat) (sp : Nat) (ig : Int32) (lo : Int32) (ac : Nat) (nw : Nat → Int32) (tr : Nat → Int32) (cp : Nat → Int32) (cn : Nat → Int32) (pa : Int32) (x : Int32) (what : Int32) (hO : rdOk nw) (hk : (kc_X8_would nw pa x what) = 0) : kMi l D g yX8_would wsX8_would 6 0 0 [.ref m0, .int pa, .int x, .int what] [(m0, .inr (8, [.int rf, .ref sc0, .int (nI ss), .int (nI sp), .int ig, .int lo, .ref rd0, .ref nw0, .ref tr0, .ref di0, .int (nI ac), .ref ke0, .ref ik0, .ref cp0, .ref cn0, .ref be0])), (nw0, .inl (g 0, 748, .inl nw)), (tr0, .inl (g 0, 748, .inl tr)), (cp0, .inl (g 0, 10, .inl cp)), (cn0, .inl (g 0, 10, .inl cn))] sz ((f_X8_would nw cp cn pa x what).1) [(m0, .inr (8, [.int 0, .ref sc0, .int (nI ss), .int (nI sp), .int ig, .int lo, .ref rd0, .ref nw0, .ref tr0, .ref di0, .int (nI ac), .ref ke0, .ref ik0, .ref cp0, .ref cn0, .ref be0])), (nw0, .inl (g 0, 748, .inl nw)), (tr0, .inl (g 0, 748, .inl ((f_X8_would nw cp cn pa x what).2.1))), (cp0, .inl (g 0, 10, .inl ((f_X8_would nw cp cn pa x what).2.2.1))), (cn0, .inl (g 0, 10, .inl ((f_X8_would nw cp cn pa x what).2.2.2)))] := by
  refine k_enter (nm := "would") (own := RX8) (bytes := cX8_would) (maxL := 6) (ret := (some .int)) (Qf := fun A => kQi D [(m0, .inr (8, [.int 0, .ref sc0, .int (nI ss), .int (nI sp), .int ig, .int lo, .ref rd0, .ref nw0, .ref tr0, .ref di0, .int (nI ac), .ref ke0, .ref ik0, .ref cp0, .ref cn0, .ref be0])), (nw0, .inl (g 0, 748, .inl nw)), (tr0, .inl (g 0, 748, .inl ((f_X8_would nw cp cn pa x what).2.1))), (cp0, .inl (g 0, 10, .inl ((f_X8_would nw cp cn pa x what).2.2.1))), (cn0, .inl (g 0, 10, .inl ((f_X8_would nw cp cn pa x what).2.2.2)))] A ((f_X8_would nw cp cn pa x what).1)) (by decide) rfl rfl rfl (Nat.le_of_ble_eq_true rfl) ?_
  rintro pp ee s mm below meth cc A ls args Q H locs hQ ⟨hx, hb, hr, hml, hown, hts, hlocks, hin⟩ hP hK hD hA hS hE hl
  have hl : lv_has ls 6 [(0, .ref m0), (1, .int pa), (2, .int x), (3, .int what)] := hl
  obtain ⟨mn_0, emn_0⟩ : ∃ z, z = (nw 0).toNatClampNeg := ⟨_, rfl⟩
  have hmn : nw 0 = nI mn_0 := by rw [emn_0]; exact (rdOk_mn hO).1
  have hm9 : mn_0 ≤ 10 := by rw [emn_0]; exact (rdOk_mn hO).2
  have kemn_0 : kEq mn_0 (nw 0).toNatClampNeg := emn_0
  clear emn_0
  refine lv_aload_n hx hb dX8_would_0 rfl (lv_at hl 0 rfl) ?_
  refine lv_aload_n hx hb dX8_would_1 rfl (lv_at hl 0 rfl) ?_
  refine lv_iload_n hx hb dX8_would_2 rfl (lv_at hl 1 rfl) ?_
  refine k_ai (wr := [(tr0, .inl (g 0, 748, .inl tr)), (cp0, .inl (g 0, 10, .inl cp)), (cn0, .inl (g 0, 10, .inl cn))]) (w2 := [(m0, .inr (8, [.int rf, .ref sc0, .int (nI ss), .int (nI sp), .int ig, .int lo, .ref rd0, .ref nw0, .ref tr0, .ref di0, .int (nI ac), .ref ke0, .ref ik0, .ref cp0, .ref cn0, .ref be0])), (nw0, .inl (g 0, 748, .inl nw)), (tr0, .inl (g 0, 748, .inl tr)), (cp0, .inl (g 0, 10, .inl cp)), (cn0, .inl (g 0, 10, .inl cn))]) (va_runV (As := [.int pa]) (rest := [.ref m0]) ⟨hx, hb, hml, hown, hts⟩ (c_X8_isPart l D g m0 sc0 rd0 nw0 tr0 di0 ke0 ik0 cp0 cn0 be0 H.size rf ss sp ig lo ac nw pa) (cwV 1 hts gX8_would_X8_isPart rfl rfl rfl (by decide +kernel) (k_lvl (by omega) (by decide))) (kPV hP hD hK hS hA hE [0, 1] rfl (by decide) 0 8 rfl rfl rfl) rfl rfl hl.1 rfl (lv_room (Nat.le_of_ble_eq_true rfl)) dX8_would_3 ⟨Nat.le_of_ble_eq_true rfl, Nat.le_of_ble_eq_true rfl⟩) hP hD hS hA [0, 1] [2, 3, 4] [3, 4, 0, 1, 2] rfl rfl (by decide) (by decide) rfl (by decide) (fun H locs hP hD hS => ?_)
  refine lv_if_ne (tgt := 13) hx hb dX8_would_6 (by decide) (fun c_1 => ?_) (fun c_1 => ?_)
  · refine lv_iload_n hx hb dX8_would_13 rfl (lv_at hl 2 rfl) ?_
    refine k_ai (wr := [(m0, .inr (8, [.int rf, .ref sc0, .int (nI ss), .int (nI sp), .int ig, .int lo, .ref rd0, .ref nw0, .ref tr0, .ref di0, .int (nI ac), .ref ke0, .ref ik0, .ref cp0, .ref cn0, .ref be0])), (nw0, .inl (g 0, 748, .inl nw)), (tr0, .inl (g 0, 748, .inl tr)), (cp0, .inl (g 0, 10, .inl cp)), (cn0, .inl (g 0, 10, .inl cn))]) (w2 := [(m0, .inr (8, [.int rf, .ref sc0, .int (nI ss), .int (nI sp), .int ig, .int lo, .ref rd0, .ref nw0, .ref tr0, .ref di0, .int (nI ac), .ref ke0, .ref ik0, .ref cp0, .ref cn0, .ref be0])), (nw0, .inl (g 0, 748, .inl nw)), (tr0, .inl (g 0, 748, .inl tr)), (cp0, .inl (g 0, 10, .inl cp)), (cn0, .inl (g 0, 10, .inl cn))]) (va_runS (As := [.int x]) (rest := [.ref m0]) ⟨hx, hb, hml, hown, hts⟩ (c_X8_isNumber l D g H.size x) (va_cwS 1 hts gX8_would_X8_isNumber rfl rfl rfl (by decide +kernel) (k_lvl (by omega) (by decide))) (kPS hP hD hK hS hA hE [] rfl (by decide)) rfl rfl hl.1 rfl (lv_room (Nat.le_of_ble_eq_true rfl)) dX8_would_14 ⟨Nat.le_of_ble_eq_true rfl, Nat.le_of_ble_eq_true rfl⟩) hP hD hS hA [] [0, 1, 2, 3, 4] [0, 1, 2, 3, 4] rfl rfl (by decide) (by decide) rfl (by decide) (fun H locs hP hD hS => ?_)
    refine lv_if_eq (tgt := 36) hx hb dX8_would_17 (by decide) (fun c_2 => ?_) (fun c_2 => ?_)
    · refine lv_iconst (v := 2) hx hb dX8_would_36 (by decide) ?_
      have emn_0 : (nw 0).toNatClampNeg = mn_0 := Eq.symm kemn_0
      subst emn_0
      have h9 : (kc_X8_would nw pa x what) = 2 := (if_neg c_1).trans ((if_pos c_2).trans (rfl))
      rw [hk] at h9
      exact absurd h9 (by decide)
    · refine lv_iload_n hx hb dX8_would_20 rfl (lv_at hl 3 rfl) ?_
      refine lv_i2l (v := (Int32.toInt64 what)) hx hb dX8_would_21 rfl ?_
      refine lv_lconst (v := 0) hx hb dX8_would_22 (by decide) ?_
      refine lv_ldc2 hx hb hown (hts _ qX8_would_0) dX8_would_23 ?_
      refine k_ai (wr := [(m0, .inr (8, [.int rf, .ref sc0, .int (nI ss), .int (nI sp), .int ig, .int lo, .ref rd0, .ref nw0, .ref tr0, .ref di0, .int (nI ac), .ref ke0, .ref ik0, .ref cp0, .ref cn0, .ref be0])), (nw0, .inl (g 0, 748, .inl nw)), (tr0, .inl (g 0, 748, .inl tr)), (cp0, .inl (g 0, 10, .inl cp)), (cn0, .inl (g 0, 10, .inl cn))]) (w2 := [(m0, .inr (8, [.int rf, .ref sc0, .int (nI ss), .int (nI sp), .int ig, .int lo, .ref rd0, .ref nw0, .ref tr0, .ref di0, .int (nI ac), .ref ke0, .ref ik0, .ref cp0, .ref cn0, .ref be0])), (nw0, .inl (g 0, 748, .inl nw)), (tr0, .inl (g 0, 748, .inl tr)), (cp0, .inl (g 0, 10, .inl cp)), (cn0, .inl (g 0, 10, .inl cn))]) (va_runS (As := [.long (Int32.toInt64 what), .long 0, .long 4]) (rest := [.ref m0]) ⟨hx, hb, hml, hown, hts⟩ (c_X8_in l D g H.size (Int32.toInt64 what) 0 4) (va_cwS 3 hts gX8_would_X8_in rfl rfl rfl (by decide +kernel) (k_lvl (by omega) (by decide))) (kPS hP hD hK hS hA hE [] rfl (by decide)) rfl rfl hl.1 rfl (lv_room (Nat.le_of_ble_eq_true rfl)) dX8_would_26 ⟨Nat.le_of_ble_eq_true rfl, Nat.le_of_ble_eq_true rfl⟩) hP hD hS hA [] [0, 1, 2, 3, 4] [0, 1, 2, 3, 4] rfl rfl (by decide) (by decide) rfl (by decide) (fun H locs hP hD hS => ?_)
      refine lv_if_eq (tgt := 36) hx hb dX8_would_29 (by decide) (fun c_3 => ?_) (fun c_3 => ?_)
      · refine lv_iconst (v := 2) hx hb dX8_would_36 (by decide) ?_
        have emn_0 : (nw 0).toNatClampNeg = mn_0 := Eq.symm kemn_0
        subst emn_0
        have h9 : (kc_X8_would nw pa x what) = 2 := (if_neg c_1).trans ((if_neg c_2).trans ((if_pos c_3).trans (rfl)))
        rw [hk] at h9
        exact absurd h9 (by decide)
      · refine lv_iconst (v := 0) hx hb dX8_would_32 (by decide) ?_
        refine lv_goto (tgt := 37) hx hb dX8_would_33 (by decide) ?_
        refine k_ai (wr := [(nw0, .inl (g 0, 748, .inl nw)), (tr0, .inl (g 0, 748, .inl tr)), (cp0, .inl (g 0, 10, .inl cp)), (cn0, .inl (g 0, 10, .inl cn))]) (w2 := [(m0, .inr (8, [.int 0, .ref sc0, .int (nI ss), .int (nI sp), .int ig, .int lo, .ref rd0, .ref nw0, .ref tr0, .ref di0, .int (nI ac), .ref ke0, .ref ik0, .ref cp0, .ref cn0, .ref be0])), (nw0, .inl (g 0, 748, .inl nw)), (tr0, .inl (g 0, 748, .inl tr)), (cp0, .inl (g 0, 10, .inl cp)), (cn0, .inl (g 0, 10, .inl cn))]) (va_runV (As := [.int 0]) (rest := []) ⟨hx, hb, hml, hown, hts⟩ (c_X8_refused0 l D g m0 sc0 rd0 nw0 tr0 di0 ke0 ik0 cp0 cn0 be0 H.size rf ss sp ig lo ac) (cwV 1 hts gX8_would_X8_refused rfl rfl rfl (by decide +kernel) (k_lvl (by omega) (by decide))) (kPV hP hD hK hS hA hE [0] rfl (by decide) 0 8 rfl rfl rfl) rfl rfl hl.1 rfl (lv_room (Nat.le_of_ble_eq_true rfl)) dX8_would_37 ⟨Nat.le_of_ble_eq_true rfl, Nat.le_of_ble_eq_true rfl⟩) hP hD hS hA [0] [1, 2, 3, 4] [4, 0, 1, 2, 3] rfl rfl (by decide) (by decide) rfl (by decide) (fun H locs hP hD hS => ?_)
        refine lv_if_eq (tgt := 45) hx hb dX8_would_40 (by decide) (fun _ => ?_) (fun c_4 => absurd c_4 (by decide))
        obtain ⟨pa_0, epa_0⟩ : ∃ z, z = pa.toNatClampNeg := ⟨_, rfl⟩
        have qpa_0 : pa = nI pa_0 := by rw [epa_0]; exact (isPart_N c_1 hmn hm9).1
        have bpa_0 : pa_0 < mn_0 := by rw [epa_0]; exact (isPart_N c_1 hmn hm9).2
        have kepa_0 : kEq pa_0 pa.toNatClampNeg := epa_0
        clear epa_0
        have hl : lv_has ls 6 [(0, .ref m0), (1, .int (nI pa_0)), (2, .int x), (3, .int what)] := by
          have h9 := hl
          rw [qpa_0] at h9
          exact h9
        obtain ⟨what_0, ewhat_0⟩ : ∃ z, z = what.toNatClampNeg := ⟨_, rfl⟩
        have qwhat_0 : what = nI what_0 := by rw [ewhat_0]; exact (in_N (K := 4) (by decide) c_3).1
        have bwhat_0 : what_0 ≤ 4 := by rw [ewhat_0]; exact (in_N (K := 4) (by decide) c_3).2
        have kewhat_0 : kEq what_0 what.toNatClampNeg := ewhat_0
        clear ewhat_0
        have hl : lv_has ls 6 [(0, .ref m0), (1, .int (nI pa_0)), (2, .int x), (3, .int (nI what_0))] := by
          have h9 := hl
          rw [qwhat_0] at h9
          exact h9
        refine lv_aload_n hx hb dX8_would_45 rfl (lv_at hl 0 rfl) ?_
        refine k_av (wr := [(cp0, .inl (g 0, 10, .inl cp)), (cn0, .inl (g 0, 10, .inl cn))]) (w2 := [(m0, .inr (8, [.int 0, .ref sc0, .int (nI ss), .int (nI sp), .int ig, .int lo, .ref rd0, .ref nw0, .ref tr0, .ref di0, .int (nI ac), .ref ke0, .ref ik0, .ref cp0, .ref cn0, .ref be0])), (nw0, .inl (g 0, 748, .inl nw)), (tr0, .inl (g 0, 748, .inl nw)), (cp0, .inl (g 0, 10, .inl cp)), (cn0, .inl (g 0, 10, .inl cn))]) (va_runV (As := []) (rest := []) ⟨hx, hb, hml, hown, hts⟩ (c_X8_tryIt l D g m0 sc0 rd0 nw0 tr0 di0 ke0 ik0 cp0 cn0 be0 H.size 0 ss sp ig lo ac nw tr) (cwV 0 hts gX8_would_X8_tryIt rfl rfl rfl (by decide +kernel) (k_lvl (by omega) (by decide))) (kPV hP hD hK hS hA hE [0, 1, 2] rfl (by decide) 0 8 rfl rfl rfl) rfl rfl hl.1 rfl (lv_room (Nat.le_of_ble_eq_true rfl)) dX8_would_46 ⟨Nat.le_of_ble_eq_true rfl, Nat.le_of_ble_eq_true rfl⟩) hP hD hS hA [0, 1, 2] [3, 4] [2, 3, 4, 0, 1] rfl rfl (by decide) (by decide) rfl (by decide) (fun H locs hP hD hS => ?_)
        refine lv_aload_n hx hb dX8_would_49 rfl (lv_at hl 0 rfl) ?_
        refine lv_aload_n hx hb dX8_would_50 rfl (lv_at hl 0 rfl) ?_
        refine va_get (D := D) (ci := 8) (v := .ref tr0) (C := RX8) (T := TX8) (N := 16) hx hb hts (fun w h => (List.mem_cons_of_mem _ (List.mem_append_right _ h))) hown hK hP 0 rfl rfl 8 (by decide) (hts _ qX8_would_1) (fun _ h9 => h9) rfl dX8_would_51 ?_
        refine lv_iload_n hx hb dX8_would_54 rfl (lv_at hl 1 rfl) ?_
        refine lv_iload_n hx hb dX8_would_55 rfl (lv_at hl 2 rfl) ?_
        have hC := c_X8_callInH l D g m0 tr0 sc0 rd0 nw0 tr0 di0 ke0 ik0 cp0 cn0 be0 H.size 0 ss sp ig lo ac cp cn nw pa_0 x (by omega) hO.2
        obtain ⟨v_5, ev_5⟩ : ∃ z, z = (h_X8_callIn cp cn nw pa_0 x) := ⟨_, rfl⟩
        rw [← ev_5] at hC
        have kev_5 : kEq v_5 (h_X8_callIn cp cn nw pa_0 x) := ev_5
        clear ev_5
        refine k_ai (wr := [(nw0, .inl (g 0, 748, .inl nw))]) (w2 := [(m0, .inr (8, [.int 0, .ref sc0, .int (nI ss), .int (nI sp), .int ig, .int lo, .ref rd0, .ref nw0, .ref tr0, .ref di0, .int (nI ac), .ref ke0, .ref ik0, .ref cp0, .ref cn0, .ref be0])), (nw0, .inl (g 0, 748, .inl nw)), (tr0, .inl (g 0, 748, .inl v_5.2.1)), (cp0, .inl (g 0, 10, .inl v_5.2.2.1)), (cn0, .inl (g 0, 10, .inl v_5.2.2.2))]) (va_runV (As := [.ref tr0, .int (nI pa_0), .int x]) (rest := []) ⟨hx, hb, hml, hown, hts⟩ hC (cwV 3 hts gX8_would_X8_callIn rfl rfl rfl (by decide +kernel) (k_lvl (by omega) (by decide))) (kPV hP hD hK hS hA hE [0, 3, 4, 2] rfl (by decide) 0 8 rfl rfl rfl) rfl rfl hl.1 rfl (lv_room (Nat.le_of_ble_eq_true rfl)) dX8_would_56 ⟨Nat.le_of_ble_eq_true rfl, Nat.le_of_ble_eq_true rfl⟩) hP hD hS hA [0, 3, 4, 2] [1] [1, 0, 4, 2, 3] rfl rfl (by decide) (by decide) rfl (by decide) (fun H locs hP hD hS => ?_)
        refine lv_istore (lv' := [(4, .int v_5.1), (0, .ref m0), (1, .int (nI pa_0)), (2, .int x), (3, .int (nI what_0))]) hx hb dX8_would_59 hl (by decide) rfl (fun ls hl => ?_)
        refine lv_iload hx hb dX8_would_61 (lv_at hl 0 rfl) ?_
        refine lv_sipush (v := (-10000)) hx hb dX8_would_63 (by decide) ?_
        refine lv_icmp_ne (tgt := 73) hx hb dX8_would_66 (by decide) (fun c_6 => ?_) (fun c_6 => ?_)
        · refine lv_iconst (v := 0) hx hb dX8_would_73 (by decide) ?_
          refine lv_istore (lv' := [(5, .int 0), (4, .int v_5.1), (0, .ref m0), (1, .int (nI pa_0)), (2, .int x), (3, .int (nI what_0))]) hx hb dX8_would_74 hl (by decide) rfl (fun ls hl => ?_)
          refine lv_iload_n hx hb dX8_would_76 rfl (lv_at hl 5 rfl) ?_
          by_cases c_7 : what_0 = 0
          · refine k_tabIn (v := 0) (off := 31) (tgt := 108) hx hb dX8_would_77 (congrArg nI c_7) (by decide) (by decide) rfl (by decide) ?_
            refine lv_iload hx hb dX8_would_108 (lv_at hl 1 rfl) ?_
            have ev_5 : (h_X8_callIn cp cn nw pa_0 x) = v_5 := Eq.symm kev_5
            have ewhat_0 : what.toNatClampNeg = what_0 := Eq.symm kewhat_0
            have epa_0 : pa.toNatClampNeg = pa_0 := Eq.symm kepa_0
            have emn_0 : (nw 0).toNatClampNeg = mn_0 := Eq.symm kemn_0
            have hE2 : (f_X8_would nw cp cn pa x what) = (v_5.1, v_5.2.1, v_5.2.2.1, v_5.2.2.2) := by
              subst ev_5
              subst ewhat_0
              subst epa_0
              subst emn_0
              exact (if_neg c_6).trans ((if_pos c_7).trans (rfl))
            subst hQ
            exact k_ri hx hb hr hlocks hP hD hS dX8_would_110 (by rw [hE2]) (by rw [hE2])
          by_cases c_8 : what_0 = 1
          · refine k_tabIn (v := 1) (off := 34) (tgt := 111) hx hb dX8_would_77 (congrArg nI c_8) (by decide) (by decide) rfl (by decide) ?_
            refine lv_iload hx hb dX8_would_111 (lv_at hl 0 rfl) ?_
            refine lv_if_eq (tgt := 127) hx hb dX8_would_113 (by decide) (fun _ => ?_) (fun c_9 => absurd c_9 (by decide))
            refine lv_iconst (v := 0) hx hb dX8_would_127 (by decide) ?_
            have ev_5 : (h_X8_callIn cp cn nw pa_0 x) = v_5 := Eq.symm kev_5
            have ewhat_0 : what.toNatClampNeg = what_0 := Eq.symm kewhat_0
            have epa_0 : pa.toNatClampNeg = pa_0 := Eq.symm kepa_0
            have emn_0 : (nw 0).toNatClampNeg = mn_0 := Eq.symm kemn_0
            have hE2 : (f_X8_would nw cp cn pa x what) = (0, v_5.2.1, v_5.2.2.1, v_5.2.2.2) := by
              subst ev_5
              subst ewhat_0
              subst epa_0
              subst emn_0
              exact (if_neg c_6).trans ((if_neg c_7).trans ((if_pos c_8).trans (rfl)))
            subst hQ
            exact k_ri hx hb hr hlocks hP hD hS dX8_would_128 (by rw [hE2]) (by rw [hE2])
          by_cases c_10 : what_0 = 2
          · refine k_tabIn (v := 2) (off := 52) (tgt := 129) hx hb dX8_would_77 (congrArg nI c_10) (by decide) (by decide) rfl (by decide) ?_
            refine lv_iload hx hb dX8_would_129 (lv_at hl 0 rfl) ?_
            refine lv_if_eq (tgt := 146) hx hb dX8_would_131 (by decide) (fun _ => ?_) (fun c_11 => absurd c_11 (by decide))
            refine lv_sipush (v := (-10000)) hx hb dX8_would_146 (by decide) ?_
            refine lv_goto (tgt := 169) hx hb dX8_would_149 (by decide) ?_
            have ev_5 : (h_X8_callIn cp cn nw pa_0 x) = v_5 := Eq.symm kev_5
            have ewhat_0 : what.toNatClampNeg = what_0 := Eq.symm kewhat_0
            have epa_0 : pa.toNatClampNeg = pa_0 := Eq.symm kepa_0
            have emn_0 : (nw 0).toNatClampNeg = mn_0 := Eq.symm kemn_0
            have hE2 : (f_X8_would nw cp cn pa x what) = ((-10000), v_5.2.1, v_5.2.2.1, v_5.2.2.2) := by
              subst ev_5
              subst ewhat_0
              subst epa_0
              subst emn_0
              exact (if_neg c_6).trans ((if_neg c_7).trans ((if_neg c_8).trans ((if_pos c_10).trans (rfl))))
            subst hQ
            exact k_ri hx hb hr hlocks hP hD hS dX8_would_169 (by rw [hE2]) (by rw [hE2])
          by_cases c_12 : what_0 = 3
          · refine k_tabIn (v := 3) (off := 93) (tgt := 170) hx hb dX8_would_77 (congrArg nI c_12) (by decide) (by decide) rfl (by decide) ?_
            refine lv_iload hx hb dX8_would_170 (lv_at hl 0 rfl) ?_
            refine lv_if_eq (tgt := 186) hx hb dX8_would_172 (by decide) (fun _ => ?_) (fun c_13 => absurd c_13 (by decide))
            refine lv_iconst (v := 0) hx hb dX8_would_186 (by decide) ?_
            have ev_5 : (h_X8_callIn cp cn nw pa_0 x) = v_5 := Eq.symm kev_5
            have ewhat_0 : what.toNatClampNeg = what_0 := Eq.symm kewhat_0
            have epa_0 : pa.toNatClampNeg = pa_0 := Eq.symm kepa_0
            have emn_0 : (nw 0).toNatClampNeg = mn_0 := Eq.symm kemn_0
            have hE2 : (f_X8_would nw cp cn pa x what) = (0, v_5.2.1, v_5.2.2.1, v_5.2.2.2) := by
              subst ev_5
              subst ewhat_0
              subst epa_0
              subst emn_0
              exact (if_neg c_6).trans ((if_neg c_7).trans ((if_neg c_8).trans ((if_neg c_10).trans ((if_pos c_12).trans (rfl)))))
            subst hQ
            exact k_ri hx hb hr hlocks hP hD hS dX8_would_187 (by rw [hE2]) (by rw [hE2])
          refine k_tabDef (tgt := 188) hx hb dX8_would_77 ?_ (by decide) ?_
          · intro v h1 h2 q
            rcases k_rng h1 with h3 | h1
            · subst h3; exact (c_7 ((nI_eq (by omega) (by omega)).mp (k_ti (k := nI 0) (by decide) q))).elim
            rcases k_rng h1 with h3 | h1
            · subst h3; exact (c_8 ((nI_eq (by omega) (by omega)).mp (k_ti (k := nI 1) (by decide) q))).elim
            rcases k_rng h1 with h3 | h1
            · subst h3; exact (c_10 ((nI_eq (by omega) (by omega)).mp (k_ti (k := nI 2) (by decide) q))).elim
            rcases k_rng h1 with h3 | h1
            · subst h3; exact (c_12 ((nI_eq (by omega) (by omega)).mp (k_ti (k := nI 3) (by decide) q))).elim
            exfalso; omega
          refine lv_aload_n hx hb dX8_would_188 rfl (lv_at hl 2 rfl) ?_
          refine va_get (D := D) (ci := 8) (v := .ref tr0) (C := RX8) (T := TX8) (N := 16) hx hb hts (fun w h => (List.mem_cons_of_mem _ (List.mem_append_right _ h))) hown hK hP 0 rfl rfl 8 (by decide) (hts _ qX8_would_1) (fun _ h9 => h9) rfl dX8_would_189 ?_
          refine lv_sipush (v := 685) hx hb dX8_would_192 (by decide) ?_
          refine va_iald (i := 685) hx hb hK hP 2 0 rfl rfl (vp_in_nI (n := 685) (by decide) (by decide)) dX8_would_195 ?_
          refine k_top (y := (v_5.2.1 685)) rfl ?_
          refine lv_aload_n hx hb dX8_would_196 rfl (lv_at hl 2 rfl) ?_
          refine va_get (D := D) (ci := 8) (v := .ref nw0) (C := RX8) (T := TX8) (N := 16) hx hb hts (fun w h => (List.mem_cons_of_mem _ (List.mem_append_right _ h))) hown hK hP 0 rfl rfl 7 (by decide) (hts _ qX8_would_2) (fun _ h9 => h9) rfl dX8_would_197 ?_
          refine lv_sipush (v := 685) hx hb dX8_would_200 (by decide) ?_
          refine va_iald (i := 685) hx hb hK hP 1 0 rfl rfl (vp_in_nI (n := 685) (by decide) (by decide)) dX8_would_203 ?_
          refine k_top (y := (nw 685)) rfl ?_
          refine lv_isub hx hb dX8_would_204 ?_
          have ev_5 : (h_X8_callIn cp cn nw pa_0 x) = v_5 := Eq.symm kev_5
          have ewhat_0 : what.toNatClampNeg = what_0 := Eq.symm kewhat_0
          have epa_0 : pa.toNatClampNeg = pa_0 := Eq.symm kepa_0
          have emn_0 : (nw 0).toNatClampNeg = mn_0 := Eq.symm kemn_0
          have hE2 : (f_X8_would nw cp cn pa x what) = (((v_5.2.1 685) - (nw 685)), v_5.2.1, v_5.2.2.1, v_5.2.2.2) := by
            subst ev_5
            subst ewhat_0
            subst epa_0
            subst emn_0
            exact (if_neg c_6).trans ((if_neg c_7).trans ((if_neg c_8).trans ((if_neg c_10).trans ((if_neg c_12).trans (rfl)))))
          subst hQ
          exact k_ri hx hb hr hlocks hP hD hS dX8_would_205 (by rw [hE2]) (by rw [hE2])
        · refine lv_iconst (v := 1) hx hb dX8_would_69 (by decide) ?_
          refine lv_goto (tgt := 74) hx hb dX8_would_70 (by decide) ?_
          refine lv_istore (lv' := [(5, .int 1), (4, .int v_5.1), (0, .ref m0), (1, .int (nI pa_0)), (2, .int x), (3, .int (nI what_0))]) hx hb dX8_would_74 hl (by decide) rfl (fun ls hl => ?_)
          refine lv_iload_n hx hb dX8_would_76 rfl (lv_at hl 5 rfl) ?_
          by_cases c_14 : what_0 = 0
          · refine k_tabIn (v := 0) (off := 31) (tgt := 108) hx hb dX8_would_77 (congrArg nI c_14) (by decide) (by decide) rfl (by decide) ?_
            refine lv_iload hx hb dX8_would_108 (lv_at hl 1 rfl) ?_
            have ev_5 : (h_X8_callIn cp cn nw pa_0 x) = v_5 := Eq.symm kev_5
            have ewhat_0 : what.toNatClampNeg = what_0 := Eq.symm kewhat_0
            have epa_0 : pa.toNatClampNeg = pa_0 := Eq.symm kepa_0
            have emn_0 : (nw 0).toNatClampNeg = mn_0 := Eq.symm kemn_0
            have hE2 : (f_X8_would nw cp cn pa x what) = (v_5.1, v_5.2.1, v_5.2.2.1, v_5.2.2.2) := by
              subst ev_5
              subst ewhat_0
              subst epa_0
              subst emn_0
              exact (if_pos c_6).trans ((if_pos c_14).trans (rfl))
            subst hQ
            exact k_ri hx hb hr hlocks hP hD hS dX8_would_110 (by rw [hE2]) (by rw [hE2])
          by_cases c_15 : what_0 = 1
          · refine k_tabIn (v := 1) (off := 34) (tgt := 111) hx hb dX8_would_77 (congrArg nI c_15) (by decide) (by decide) rfl (by decide) ?_
            refine lv_iload hx hb dX8_would_111 (lv_at hl 0 rfl) ?_
            refine lv_if_eq (tgt := 127) hx hb dX8_would_113 (by decide) (fun c_16 => absurd c_16 (by decide)) (fun _ => ?_)
            refine lv_aload_n hx hb dX8_would_116 rfl (lv_at hl 2 rfl) ?_
            refine va_get (D := D) (ci := 8) (v := .ref tr0) (C := RX8) (T := TX8) (N := 16) hx hb hts (fun w h => (List.mem_cons_of_mem _ (List.mem_append_right _ h))) hown hK hP 0 rfl rfl 8 (by decide) (hts _ qX8_would_1) (fun _ h9 => h9) rfl dX8_would_117 ?_
            refine lv_sipush (v := 688) hx hb dX8_would_120 (by decide) ?_
            refine va_iald (i := 688) hx hb hK hP 2 0 rfl rfl (vp_in_nI (n := 688) (by decide) (by decide)) dX8_would_123 ?_
            refine k_top (y := (v_5.2.1 688)) rfl ?_
            refine lv_goto (tgt := 128) hx hb dX8_would_124 (by decide) ?_
            have ev_5 : (h_X8_callIn cp cn nw pa_0 x) = v_5 := Eq.symm kev_5
            have ewhat_0 : what.toNatClampNeg = what_0 := Eq.symm kewhat_0
            have epa_0 : pa.toNatClampNeg = pa_0 := Eq.symm kepa_0
            have emn_0 : (nw 0).toNatClampNeg = mn_0 := Eq.symm kemn_0
            have hE2 : (f_X8_would nw cp cn pa x what) = ((v_5.2.1 688), v_5.2.1, v_5.2.2.1, v_5.2.2.2) := by
              subst ev_5
              subst ewhat_0
              subst epa_0
              subst emn_0
              exact (if_pos c_6).trans ((if_neg c_14).trans ((if_pos c_15).trans (rfl)))
            subst hQ
            exact k_ri hx hb hr hlocks hP hD hS dX8_would_128 (by rw [hE2]) (by rw [hE2])
          by_cases c_17 : what_0 = 2
          · refine k_tabIn (v := 2) (off := 52) (tgt := 129) hx hb dX8_would_77 (congrArg nI c_17) (by decide) (by decide) rfl (by decide) ?_
            refine lv_iload hx hb dX8_would_129 (lv_at hl 0 rfl) ?_
            refine lv_if_eq (tgt := 146) hx hb dX8_would_131 (by decide) (fun c_18 => absurd c_18 (by decide)) (fun _ => ?_)
            refine lv_aload_n hx hb dX8_would_134 rfl (lv_at hl 2 rfl) ?_
            refine va_get (D := D) (ci := 8) (v := .ref tr0) (C := RX8) (T := TX8) (N := 16) hx hb hts (fun w h => (List.mem_cons_of_mem _ (List.mem_append_right _ h))) hown hK hP 0 rfl rfl 8 (by decide) (hts _ qX8_would_1) (fun _ h9 => h9) rfl dX8_would_135 ?_
            refine lv_sipush (v := 688) hx hb dX8_would_138 (by decide) ?_
            refine va_iald (i := 688) hx hb hK hP 2 0 rfl rfl (vp_in_nI (n := 688) (by decide) (by decide)) dX8_would_141 ?_
            refine k_top (y := (v_5.2.1 688)) rfl ?_
            refine lv_iconst (v := 3) hx hb dX8_would_142 (by decide) ?_
            refine lv_icmp_ne (tgt := 152) hx hb dX8_would_143 (by decide) (fun c_19 => ?_) (fun c_19 => ?_)
            · have hko : kOk v_5.2.1 := by have e9 : v_5 = (h_X8_callIn cp cn nw pa_0 x) := kev_5; rw [e9] at c_6 ⊢; exact callIn_none hO.2 (by omega) c_6
              obtain ⟨l_99, el_0⟩ : ∃ z, z = (v_5.2.1 688).toNatClampNeg := ⟨_, rfl⟩
              have ql_0 : (v_5.2.1 688) = nI l_99 := by rw [el_0]; exact (kOk_N hko).1
              have bl_0 : l_99 ≤ 3 := by rw [el_0]; exact (kOk_N hko).2
              have kel_0 : kEq l_99 (v_5.2.1 688).toNatClampNeg := el_0
              clear el_0
              refine lv_aload_n hx hb dX8_would_152 rfl (lv_at hl 2 rfl) ?_
              refine va_get (D := D) (ci := 8) (v := .ref tr0) (C := RX8) (T := TX8) (N := 16) hx hb hts (fun w h => (List.mem_cons_of_mem _ (List.mem_append_right _ h))) hown hK hP 0 rfl rfl 8 (by decide) (hts _ qX8_would_1) (fun _ h9 => h9) rfl dX8_would_153 ?_
              refine lv_sipush (v := 688) hx hb dX8_would_156 (by decide) ?_
              refine lv_aload_n hx hb dX8_would_159 rfl (lv_at hl 2 rfl) ?_
              refine va_get (D := D) (ci := 8) (v := .ref tr0) (C := RX8) (T := TX8) (N := 16) hx hb hts (fun w h => (List.mem_cons_of_mem _ (List.mem_append_right _ h))) hown hK hP 0 rfl rfl 8 (by decide) (hts _ qX8_would_1) (fun _ h9 => h9) rfl dX8_would_160 ?_
              refine lv_sipush (v := 688) hx hb dX8_would_163 (by decide) ?_
              refine va_iald (i := 688) hx hb hK hP 2 0 rfl rfl (vp_in_nI (n := 688) (by decide) (by decide)) dX8_would_166 ?_
              refine k_top (y := (v_5.2.1 688)) rfl ?_
              refine k_top (y := (nI l_99)) (ql_0) ?_
              refine lv_iadd hx hb dX8_would_167 ?_
              refine k_top (y := (nI (688 + l_99))) (nI_add 688 l_99) ?_
              refine va_iald (i := (nI (688 + l_99))) hx hb hK hP 2 0 rfl rfl (vp_in_nI (n := (688 + l_99)) (by omega) (by omega)) dX8_would_168 ?_
              refine k_top (y := (v_5.2.1 (688 + l_99))) (by rw [nI_clamp (by omega)]) ?_
              have el_0 : (v_5.2.1 688).toNatClampNeg = l_99 := Eq.symm kel_0
              have ev_5 : (h_X8_callIn cp cn nw pa_0 x) = v_5 := Eq.symm kev_5
              have ewhat_0 : what.toNatClampNeg = what_0 := Eq.symm kewhat_0
              have epa_0 : pa.toNatClampNeg = pa_0 := Eq.symm kepa_0
              have emn_0 : (nw 0).toNatClampNeg = mn_0 := Eq.symm kemn_0
              have hE2 : (f_X8_would nw cp cn pa x what) = ((v_5.2.1 (688 + l_99)), v_5.2.1, v_5.2.2.1, v_5.2.2.2) := by
                subst el_0
                subst ev_5
                subst ewhat_0
                subst epa_0
                subst emn_0
                exact (if_pos c_6).trans ((if_neg c_14).trans ((if_neg c_15).trans ((if_pos c_17).trans ((if_neg c_19).trans (rfl)))))
              subst hQ
              exact k_ri hx hb hr hlocks hP hD hS dX8_would_169 (by rw [hE2]) (by rw [hE2])
            · refine lv_sipush (v := (-10000)) hx hb dX8_would_146 (by decide) ?_
              refine lv_goto (tgt := 169) hx hb dX8_would_149 (by decide) ?_
              have ev_5 : (h_X8_callIn cp cn nw pa_0 x) = v_5 := Eq.symm kev_5
              have ewhat_0 : what.toNatClampNeg = what_0 := Eq.symm kewhat_0
              have epa_0 : pa.toNatClampNeg = pa_0 := Eq.symm kepa_0
              have emn_0 : (nw 0).toNatClampNeg = mn_0 := Eq.symm kemn_0
              have hE2 : (f_X8_would nw cp cn pa x what) = ((-10000), v_5.2.1, v_5.2.2.1, v_5.2.2.2) := by
                subst ev_5
                subst ewhat_0
                subst epa_0
                subst emn_0
                exact (if_pos c_6).trans ((if_neg c_14).trans ((if_neg c_15).trans ((if_pos c_17).trans ((if_pos c_19).trans (rfl)))))
              subst hQ
              exact k_ri hx hb hr hlocks hP hD hS dX8_would_169 (by rw [hE2]) (by rw [hE2])
          by_cases c_20 : what_0 = 3
          · refine k_tabIn (v := 3) (off := 93) (tgt := 170) hx hb dX8_would_77 (congrArg nI c_20) (by decide) (by decide) rfl (by decide) ?_
            refine lv_iload hx hb dX8_would_170 (lv_at hl 0 rfl) ?_
            refine lv_if_eq (tgt := 186) hx hb dX8_would_172 (by decide) (fun c_21 => absurd c_21 (by decide)) (fun _ => ?_)
            refine lv_aload_n hx hb dX8_would_175 rfl (lv_at hl 2 rfl) ?_
            refine va_get (D := D) (ci := 8) (v := .ref tr0) (C := RX8) (T := TX8) (N := 16) hx hb hts (fun w h => (List.mem_cons_of_mem _ (List.mem_append_right _ h))) hown hK hP 0 rfl rfl 8 (by decide) (hts _ qX8_would_1) (fun _ h9 => h9) rfl dX8_would_176 ?_
            refine lv_sipush (v := 692) hx hb dX8_would_179 (by decide) ?_
            refine va_iald (i := 692) hx hb hK hP 2 0 rfl rfl (vp_in_nI (n := 692) (by decide) (by decide)) dX8_would_182 ?_
            refine k_top (y := (v_5.2.1 692)) rfl ?_
            refine lv_goto (tgt := 187) hx hb dX8_would_183 (by decide) ?_
            have ev_5 : (h_X8_callIn cp cn nw pa_0 x) = v_5 := Eq.symm kev_5
            have ewhat_0 : what.toNatClampNeg = what_0 := Eq.symm kewhat_0
            have epa_0 : pa.toNatClampNeg = pa_0 := Eq.symm kepa_0
            have emn_0 : (nw 0).toNatClampNeg = mn_0 := Eq.symm kemn_0
            have hE2 : (f_X8_would nw cp cn pa x what) = ((v_5.2.1 692), v_5.2.1, v_5.2.2.1, v_5.2.2.2) := by
              subst ev_5
              subst ewhat_0
              subst epa_0
              subst emn_0
              exact (if_pos c_6).trans ((if_neg c_14).trans ((if_neg c_15).trans ((if_neg c_17).trans ((if_pos c_20).trans (rfl)))))
            subst hQ
            exact k_ri hx hb hr hlocks hP hD hS dX8_would_187 (by rw [hE2]) (by rw [hE2])
          refine k_tabDef (tgt := 188) hx hb dX8_would_77 ?_ (by decide) ?_
          · intro v h1 h2 q
            rcases k_rng h1 with h3 | h1
            · subst h3; exact (c_14 ((nI_eq (by omega) (by omega)).mp (k_ti (k := nI 0) (by decide) q))).elim
            rcases k_rng h1 with h3 | h1
            · subst h3; exact (c_15 ((nI_eq (by omega) (by omega)).mp (k_ti (k := nI 1) (by decide) q))).elim
            rcases k_rng h1 with h3 | h1
            · subst h3; exact (c_17 ((nI_eq (by omega) (by omega)).mp (k_ti (k := nI 2) (by decide) q))).elim
            rcases k_rng h1 with h3 | h1
            · subst h3; exact (c_20 ((nI_eq (by omega) (by omega)).mp (k_ti (k := nI 3) (by decide) q))).elim
            exfalso; omega
          refine lv_aload_n hx hb dX8_would_188 rfl (lv_at hl 2 rfl) ?_
          refine va_get (D := D) (ci := 8) (v := .ref tr0) (C := RX8) (T := TX8) (N := 16) hx hb hts (fun w h => (List.mem_cons_of_mem _ (List.mem_append_right _ h))) hown hK hP 0 rfl rfl 8 (by decide) (hts _ qX8_would_1) (fun _ h9 => h9) rfl dX8_would_189 ?_
          refine lv_sipush (v := 685) hx hb dX8_would_192 (by decide) ?_
          refine va_iald (i := 685) hx hb hK hP 2 0 rfl rfl (vp_in_nI (n := 685) (by decide) (by decide)) dX8_would_195 ?_
          refine k_top (y := (v_5.2.1 685)) rfl ?_
          refine lv_aload_n hx hb dX8_would_196 rfl (lv_at hl 2 rfl) ?_
          refine va_get (D := D) (ci := 8) (v := .ref nw0) (C := RX8) (T := TX8) (N := 16) hx hb hts (fun w h => (List.mem_cons_of_mem _ (List.mem_append_right _ h))) hown hK hP 0 rfl rfl 7 (by decide) (hts _ qX8_would_2) (fun _ h9 => h9) rfl dX8_would_197 ?_
          refine lv_sipush (v := 685) hx hb dX8_would_200 (by decide) ?_
          refine va_iald (i := 685) hx hb hK hP 1 0 rfl rfl (vp_in_nI (n := 685) (by decide) (by decide)) dX8_would_203 ?_
          refine k_top (y := (nw 685)) rfl ?_
          refine lv_isub hx hb dX8_would_204 ?_
          have ev_5 : (h_X8_callIn cp cn nw pa_0 x) = v_5 := Eq.symm kev_5
          have ewhat_0 : what.toNatClampNeg = what_0 := Eq.symm kewhat_0
          have epa_0 : pa.toNatClampNeg = pa_0 := Eq.symm kepa_0
          have emn_0 : (nw 0).toNatClampNeg = mn_0 := Eq.symm kemn_0
          have hE2 : (f_X8_would nw cp cn pa x what) = (((v_5.2.1 685) - (nw 685)), v_5.2.1, v_5.2.2.1, v_5.2.2.2) := by
            subst ev_5
            subst ewhat_0
            subst epa_0
            subst emn_0
            exact (if_pos c_6).trans ((if_neg c_14).trans ((if_neg c_15).trans ((if_neg c_17).trans ((if_neg c_20).trans (rfl)))))
          subst hQ
          exact k_ri hx hb hr hlocks hP hD hS dX8_would_205 (by rw [hE2]) (by rw [hE2])
  · refine lv_iconst (v := 1) hx hb dX8_would_9 (by decide) ?_
    refine lv_goto (tgt := 37) hx hb dX8_would_10 (by decide) ?_
    have emn_0 : (nw 0).toNatClampNeg = mn_0 := Eq.symm kemn_0
    subst emn_0
    have h9 : (kc_X8_would nw pa x what) = 1 := (if_pos c_1).trans (rfl)
    rw [hk] at h9
    exact absurd h9 (by decide)
theorem qc_X8_would_bad_X8_would_0 : Cond.constantLong RX8 232 (4) ∈ wsX8_would := (List.mem_cons_of_mem _ (List.mem_append_left _ (List.mem_append_left _ (List.mem_of_getElem? (i := 0) rfl))))
set_option maxHeartbeats 4000000 in
set_option maxRecDepth 100000 in
theorem c_X8_would_bad (l : Launch) (D : va_G) (g : Nat → Nat) (m0 sc0 rd0 nw0 tr0 di0 ke0 ik0 cp0 cn0 be0 : Nat) (sz : Nat) (rf : Int32) (ss : Nat) (sp : Nat) (ig : Int32) (lo : Int32) (ac : Nat) (nw : Nat → Int32) (tr : Nat → Int32) (cp : Nat → Int32) (cn : Nat → Int32) (pa : Int32) (x : Int32) (what : Int32) (hO : rdOk nw) (hk : ¬ (kc_X8_would nw pa x what) = 0) : kMi l D g yX8_would wsX8_would 6 0 0 [.ref m0, .int pa, .int x, .int what] [(m0, .inr (8, [.int rf, .ref sc0, .int (nI ss), .int (nI sp), .int ig, .int lo, .ref rd0, .ref nw0, .ref tr0, .ref di0, .int (nI ac), .ref ke0, .ref ik0, .ref cp0, .ref cn0, .ref be0])), (nw0, .inl (g 0, 748, .inl nw)), (tr0, .inl (g 0, 748, .inl tr)), (cp0, .inl (g 0, 10, .inl cp)), (cn0, .inl (g 0, 10, .inl cn))] sz 0 [(m0, .inr (8, [.int (kc_X8_would nw pa x what), .ref sc0, .int (nI ss), .int (nI sp), .int ig, .int lo, .ref rd0, .ref nw0, .ref tr0, .ref di0, .int (nI ac), .ref ke0, .ref ik0, .ref cp0, .ref cn0, .ref be0])), (nw0, .inl (g 0, 748, .inl nw)), (tr0, .inl (g 0, 748, .inl tr)), (cp0, .inl (g 0, 10, .inl cp)), (cn0, .inl (g 0, 10, .inl cn))] := by
  refine k_enter (nm := "would") (own := RX8) (bytes := cX8_would) (maxL := 6) (ret := (some .int)) (Qf := fun A => kQi D [(m0, .inr (8, [.int (kc_X8_would nw pa x what), .ref sc0, .int (nI ss), .int (nI sp), .int ig, .int lo, .ref rd0, .ref nw0, .ref tr0, .ref di0, .int (nI ac), .ref ke0, .ref ik0, .ref cp0, .ref cn0, .ref be0])), (nw0, .inl (g 0, 748, .inl nw)), (tr0, .inl (g 0, 748, .inl tr)), (cp0, .inl (g 0, 10, .inl cp)), (cn0, .inl (g 0, 10, .inl cn))] A 0) (by decide) rfl rfl rfl (Nat.le_of_ble_eq_true rfl) ?_
  rintro pp ee s mm below meth cc A ls args Q H locs hQ ⟨hx, hb, hr, hml, hown, hts, hlocks, hin⟩ hP hK hD hA hS hE hl
  have hl : lv_has ls 6 [(0, .ref m0), (1, .int pa), (2, .int x), (3, .int what)] := hl
  refine lv_aload_n hx hb dX8_would_0 rfl (lv_at hl 0 rfl) ?_
  refine lv_aload_n hx hb dX8_would_1 rfl (lv_at hl 0 rfl) ?_
  refine lv_iload_n hx hb dX8_would_2 rfl (lv_at hl 1 rfl) ?_
  refine k_ai (wr := [(tr0, .inl (g 0, 748, .inl tr)), (cp0, .inl (g 0, 10, .inl cp)), (cn0, .inl (g 0, 10, .inl cn))]) (w2 := [(m0, .inr (8, [.int rf, .ref sc0, .int (nI ss), .int (nI sp), .int ig, .int lo, .ref rd0, .ref nw0, .ref tr0, .ref di0, .int (nI ac), .ref ke0, .ref ik0, .ref cp0, .ref cn0, .ref be0])), (nw0, .inl (g 0, 748, .inl nw)), (tr0, .inl (g 0, 748, .inl tr)), (cp0, .inl (g 0, 10, .inl cp)), (cn0, .inl (g 0, 10, .inl cn))]) (va_runV (As := [.int pa]) (rest := [.ref m0]) ⟨hx, hb, hml, hown, hts⟩ (c_X8_isPart l D g m0 sc0 rd0 nw0 tr0 di0 ke0 ik0 cp0 cn0 be0 H.size rf ss sp ig lo ac nw pa) (cwV 1 hts gX8_would_X8_isPart rfl rfl rfl (by decide +kernel) (k_lvl (by omega) (by decide))) (kPV hP hD hK hS hA hE [0, 1] rfl (by decide) 0 8 rfl rfl rfl) rfl rfl hl.1 rfl (lv_room (Nat.le_of_ble_eq_true rfl)) dX8_would_3 ⟨Nat.le_of_ble_eq_true rfl, Nat.le_of_ble_eq_true rfl⟩) hP hD hS hA [0, 1] [2, 3, 4] [3, 4, 0, 1, 2] rfl rfl (by decide) (by decide) rfl (by decide) (fun H locs hP hD hS => ?_)
  refine lv_if_ne (tgt := 13) hx hb dX8_would_6 (by decide) (fun c_1 => ?_) (fun c_1 => ?_)
  · refine lv_iload_n hx hb dX8_would_13 rfl (lv_at hl 2 rfl) ?_
    refine k_ai (wr := [(m0, .inr (8, [.int rf, .ref sc0, .int (nI ss), .int (nI sp), .int ig, .int lo, .ref rd0, .ref nw0, .ref tr0, .ref di0, .int (nI ac), .ref ke0, .ref ik0, .ref cp0, .ref cn0, .ref be0])), (nw0, .inl (g 0, 748, .inl nw)), (tr0, .inl (g 0, 748, .inl tr)), (cp0, .inl (g 0, 10, .inl cp)), (cn0, .inl (g 0, 10, .inl cn))]) (w2 := [(m0, .inr (8, [.int rf, .ref sc0, .int (nI ss), .int (nI sp), .int ig, .int lo, .ref rd0, .ref nw0, .ref tr0, .ref di0, .int (nI ac), .ref ke0, .ref ik0, .ref cp0, .ref cn0, .ref be0])), (nw0, .inl (g 0, 748, .inl nw)), (tr0, .inl (g 0, 748, .inl tr)), (cp0, .inl (g 0, 10, .inl cp)), (cn0, .inl (g 0, 10, .inl cn))]) (va_runS (As := [.int x]) (rest := [.ref m0]) ⟨hx, hb, hml, hown, hts⟩ (c_X8_isNumber l D g H.size x) (va_cwS 1 hts gX8_would_X8_isNumber rfl rfl rfl (by decide +kernel) (k_lvl (by omega) (by decide))) (kPS hP hD hK hS hA hE [] rfl (by decide)) rfl rfl hl.1 rfl (lv_room (Nat.le_of_ble_eq_true rfl)) dX8_would_14 ⟨Nat.le_of_ble_eq_true rfl, Nat.le_of_ble_eq_true rfl⟩) hP hD hS hA [] [0, 1, 2, 3, 4] [0, 1, 2, 3, 4] rfl rfl (by decide) (by decide) rfl (by decide) (fun H locs hP hD hS => ?_)
    refine lv_if_eq (tgt := 36) hx hb dX8_would_17 (by decide) (fun c_2 => ?_) (fun c_2 => ?_)
    · refine lv_iconst (v := 2) hx hb dX8_would_36 (by decide) ?_
      refine k_ai (wr := [(nw0, .inl (g 0, 748, .inl nw)), (tr0, .inl (g 0, 748, .inl tr)), (cp0, .inl (g 0, 10, .inl cp)), (cn0, .inl (g 0, 10, .inl cn))]) (w2 := [(m0, .inr (8, [.int 2, .ref sc0, .int (nI ss), .int (nI sp), .int ig, .int lo, .ref rd0, .ref nw0, .ref tr0, .ref di0, .int (nI ac), .ref ke0, .ref ik0, .ref cp0, .ref cn0, .ref be0])), (nw0, .inl (g 0, 748, .inl nw)), (tr0, .inl (g 0, 748, .inl tr)), (cp0, .inl (g 0, 10, .inl cp)), (cn0, .inl (g 0, 10, .inl cn))]) (va_runV (As := [.int 2]) (rest := []) ⟨hx, hb, hml, hown, hts⟩ (c_X8_refused2 l D g m0 sc0 rd0 nw0 tr0 di0 ke0 ik0 cp0 cn0 be0 H.size rf ss sp ig lo ac) (cwV 1 hts gX8_would_X8_refused rfl rfl rfl (by decide +kernel) (k_lvl (by omega) (by decide))) (kPV hP hD hK hS hA hE [0] rfl (by decide) 0 8 rfl rfl rfl) rfl rfl hl.1 rfl (lv_room (Nat.le_of_ble_eq_true rfl)) dX8_would_37 ⟨Nat.le_of_ble_eq_true rfl, Nat.le_of_ble_eq_true rfl⟩) hP hD hS hA [0] [1, 2, 3, 4] [4, 0, 1, 2, 3] rfl rfl (by decide) (by decide) rfl (by decide) (fun H locs hP hD hS => ?_)
      refine lv_if_eq (tgt := 45) hx hb dX8_would_40 (by decide) (fun c_3 => absurd c_3 (by decide)) (fun _ => ?_)
      refine lv_iconst (v := 0) hx hb dX8_would_43 (by decide) ?_
      subst hQ
      exact k_ri hx hb hr hlocks hP hD hS dX8_would_44 (rfl) (by rw [show (kc_X8_would nw pa x what) = 2 from (if_neg c_1).trans ((if_pos c_2).trans (rfl))])
    · refine lv_iload_n hx hb dX8_would_20 rfl (lv_at hl 3 rfl) ?_
      refine lv_i2l (v := (Int32.toInt64 what)) hx hb dX8_would_21 rfl ?_
      refine lv_lconst (v := 0) hx hb dX8_would_22 (by decide) ?_
      refine lv_ldc2 hx hb hown (hts _ qc_X8_would_bad_X8_would_0) dX8_would_23 ?_
      refine k_ai (wr := [(m0, .inr (8, [.int rf, .ref sc0, .int (nI ss), .int (nI sp), .int ig, .int lo, .ref rd0, .ref nw0, .ref tr0, .ref di0, .int (nI ac), .ref ke0, .ref ik0, .ref cp0, .ref cn0, .ref be0])), (nw0, .inl (g 0, 748, .inl nw)), (tr0, .inl (g 0, 748, .inl tr)), (cp0, .inl (g 0, 10, .inl cp)), (cn0, .inl (g 0, 10, .inl cn))]) (w2 := [(m0, .inr (8, [.int rf, .ref sc0, .int (nI ss), .int (nI sp), .int ig, .int lo, .ref rd0, .ref nw0, .ref tr0, .ref di0, .int (nI ac), .ref ke0, .ref ik0, .ref cp0, .ref cn0, .ref be0])), (nw0, .inl (g 0, 748, .inl nw)), (tr0, .inl (g 0, 748, .inl tr)), (cp0, .inl (g 0, 10, .inl cp)), (cn0, .inl (g 0, 10, .inl cn))]) (va_runS (As := [.long (Int32.toInt64 what), .long 0, .long 4]) (rest := [.ref m0]) ⟨hx, hb, hml, hown, hts⟩ (c_X8_in l D g H.size (Int32.toInt64 what) 0 4) (va_cwS 3 hts gX8_would_X8_in rfl rfl rfl (by decide +kernel) (k_lvl (by omega) (by decide))) (kPS hP hD hK hS hA hE [] rfl (by decide)) rfl rfl hl.1 rfl (lv_room (Nat.le_of_ble_eq_true rfl)) dX8_would_26 ⟨Nat.le_of_ble_eq_true rfl, Nat.le_of_ble_eq_true rfl⟩) hP hD hS hA [] [0, 1, 2, 3, 4] [0, 1, 2, 3, 4] rfl rfl (by decide) (by decide) rfl (by decide) (fun H locs hP hD hS => ?_)
      refine lv_if_eq (tgt := 36) hx hb dX8_would_29 (by decide) (fun c_4 => ?_) (fun c_4 => ?_)
      · refine lv_iconst (v := 2) hx hb dX8_would_36 (by decide) ?_
        refine k_ai (wr := [(nw0, .inl (g 0, 748, .inl nw)), (tr0, .inl (g 0, 748, .inl tr)), (cp0, .inl (g 0, 10, .inl cp)), (cn0, .inl (g 0, 10, .inl cn))]) (w2 := [(m0, .inr (8, [.int 2, .ref sc0, .int (nI ss), .int (nI sp), .int ig, .int lo, .ref rd0, .ref nw0, .ref tr0, .ref di0, .int (nI ac), .ref ke0, .ref ik0, .ref cp0, .ref cn0, .ref be0])), (nw0, .inl (g 0, 748, .inl nw)), (tr0, .inl (g 0, 748, .inl tr)), (cp0, .inl (g 0, 10, .inl cp)), (cn0, .inl (g 0, 10, .inl cn))]) (va_runV (As := [.int 2]) (rest := []) ⟨hx, hb, hml, hown, hts⟩ (c_X8_refused2 l D g m0 sc0 rd0 nw0 tr0 di0 ke0 ik0 cp0 cn0 be0 H.size rf ss sp ig lo ac) (cwV 1 hts gX8_would_X8_refused rfl rfl rfl (by decide +kernel) (k_lvl (by omega) (by decide))) (kPV hP hD hK hS hA hE [0] rfl (by decide) 0 8 rfl rfl rfl) rfl rfl hl.1 rfl (lv_room (Nat.le_of_ble_eq_true rfl)) dX8_would_37 ⟨Nat.le_of_ble_eq_true rfl, Nat.le_of_ble_eq_true rfl⟩) hP hD hS hA [0] [1, 2, 3, 4] [4, 0, 1, 2, 3] rfl rfl (by decide) (by decide) rfl (by decide) (fun H locs hP hD hS => ?_)
        refine lv_if_eq (tgt := 45) hx hb dX8_would_40 (by decide) (fun c_5 => absurd c_5 (by decide)) (fun _ => ?_)
        refine lv_iconst (v := 0) hx hb dX8_would_43 (by decide) ?_
        subst hQ
        exact k_ri hx hb hr hlocks hP hD hS dX8_would_44 (rfl) (by rw [show (kc_X8_would nw pa x what) = 2 from (if_neg c_1).trans ((if_neg c_2).trans ((if_pos c_4).trans (rfl)))])
      · refine lv_iconst (v := 0) hx hb dX8_would_32 (by decide) ?_
        refine lv_goto (tgt := 37) hx hb dX8_would_33 (by decide) ?_
        have h9 : (kc_X8_would nw pa x what) = 0 := (if_neg c_1).trans ((if_neg c_2).trans ((if_neg c_4).trans (rfl)))
        exact absurd h9 hk
  · refine lv_iconst (v := 1) hx hb dX8_would_9 (by decide) ?_
    refine lv_goto (tgt := 37) hx hb dX8_would_10 (by decide) ?_
    refine k_ai (wr := [(nw0, .inl (g 0, 748, .inl nw)), (tr0, .inl (g 0, 748, .inl tr)), (cp0, .inl (g 0, 10, .inl cp)), (cn0, .inl (g 0, 10, .inl cn))]) (w2 := [(m0, .inr (8, [.int 1, .ref sc0, .int (nI ss), .int (nI sp), .int ig, .int lo, .ref rd0, .ref nw0, .ref tr0, .ref di0, .int (nI ac), .ref ke0, .ref ik0, .ref cp0, .ref cn0, .ref be0])), (nw0, .inl (g 0, 748, .inl nw)), (tr0, .inl (g 0, 748, .inl tr)), (cp0, .inl (g 0, 10, .inl cp)), (cn0, .inl (g 0, 10, .inl cn))]) (va_runV (As := [.int 1]) (rest := []) ⟨hx, hb, hml, hown, hts⟩ (c_X8_refused1 l D g m0 sc0 rd0 nw0 tr0 di0 ke0 ik0 cp0 cn0 be0 H.size rf ss sp ig lo ac) (cwV 1 hts gX8_would_X8_refused rfl rfl rfl (by decide +kernel) (k_lvl (by omega) (by decide))) (kPV hP hD hK hS hA hE [0] rfl (by decide) 0 8 rfl rfl rfl) rfl rfl hl.1 rfl (lv_room (Nat.le_of_ble_eq_true rfl)) dX8_would_37 ⟨Nat.le_of_ble_eq_true rfl, Nat.le_of_ble_eq_true rfl⟩) hP hD hS hA [0] [1, 2, 3, 4] [4, 0, 1, 2, 3] rfl rfl (by decide) (by decide) rfl (by decide) (fun H locs hP hD hS => ?_)
    refine lv_if_eq (tgt := 45) hx hb dX8_would_40 (by decide) (fun c_6 => absurd c_6 (by decide)) (fun _ => ?_)
    refine lv_iconst (v := 0) hx hb dX8_would_43 (by decide) ?_
    subst hQ
    exact k_ri hx hb hr hlocks hP hD hS dX8_would_44 (rfl) (by rw [show (kc_X8_would nw pa x what) = 1 from (if_pos c_1).trans (rfl)])
end
