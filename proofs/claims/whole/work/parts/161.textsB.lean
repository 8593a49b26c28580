def fShape (x : Int32) : Nat := if x = 107 then 8 else if x = 110 then 5 else if x = 111 then 7 else if x = 115 then 6 else if x = 120 then 9 else 10
theorem fShape_lt (x : Int32) : fShape x < 11 := by
  unfold fShape
  repeat (first | omega | split)
set_option maxHeartbeats 4000000 in
set_option maxRecDepth 100000 in
theorem c_X6_shapeAfter (l : Launch) (D : va_G) (g : Nat → Nat) (sz : Nat) (x : Int32) : kMr l D g yX6_shapeAfter wsX6_shapeAfter 1 0 0 [.int x] [] sz (g (10 + fShape x)) [] := by
  refine k_enter (nm := "shapeAfter") (own := RX6) (bytes := cX6_shapeAfter) (maxL := 1) (ret := (some (.object "java/lang/String"))) (Qf := fun A => kQr D [] A (g (10 + fShape x))) (by decide) rfl rfl rfl (Nat.le_of_ble_eq_true rfl) ?_
  rintro pp ee s mm below meth cc A ls args Q H locs hQ ⟨hx, hb, hr, hml, hown, hts, hlocks, hin⟩ hP hK hD hA hS hE hl
  have hl : lv_has ls 1 [(0, .int x)] := hl
  refine lv_iload_n hx hb dX6_shapeAfter_0 rfl (lv_at hl 0 rfl) ?_
  by_cases c_1 : x = 107
  · refine k_tabIn (v := 107) (off := 80) (tgt := 81) hx hb dX6_shapeAfter_1 c_1 (by decide) (by decide) rfl (by decide) ?_
    refine va_ldcS hx hb (q := g 18) (tx := kSL[8].2.2) hown (hE.2.1 8 _ rfl) dX6_shapeAfter_81 ?_
    subst hQ
    exact k_rr hx hb hr hlocks hP hD hS dX6_shapeAfter_83 (Or.inl ⟨_, rfl⟩) (by unfold fShape; rw [if_pos c_1]) (rfl)
  by_cases c_2 : x = 110
  · refine k_tabIn (v := 110) (off := 71) (tgt := 72) hx hb dX6_shapeAfter_1 c_2 (by decide) (by decide) rfl (by decide) ?_
    refine va_ldcS hx hb (q := g 15) (tx := kSL[5].2.2) hown (hE.2.1 5 _ rfl) dX6_shapeAfter_72 ?_
    subst hQ
    exact k_rr hx hb hr hlocks hP hD hS dX6_shapeAfter_74 (Or.inl ⟨_, rfl⟩) (by unfold fShape; rw [if_neg c_1, if_pos c_2]) (rfl)
  by_cases c_3 : x = 111
  · refine k_tabIn (v := 111) (off := 77) (tgt := 78) hx hb dX6_shapeAfter_1 c_3 (by decide) (by decide) rfl (by decide) ?_
    refine va_ldcS hx hb (q := g 17) (tx := kSL[7].2.2) hown (hE.2.1 7 _ rfl) dX6_shapeAfter_78 ?_
    subst hQ
    exact k_rr hx hb hr hlocks hP hD hS dX6_shapeAfter_80 (Or.inl ⟨_, rfl⟩) (by unfold fShape; rw [if_neg c_1, if_neg c_2, if_pos c_3]) (rfl)
  by_cases c_4 : x = 115
  · refine k_tabIn (v := 115) (off := 74) (tgt := 75) hx hb dX6_shapeAfter_1 c_4 (by decide) (by decide) rfl (by decide) ?_
    refine va_ldcS hx hb (q := g 16) (tx := kSL[6].2.2) hown (hE.2.1 6 _ rfl) dX6_shapeAfter_75 ?_
    subst hQ
    exact k_rr hx hb hr hlocks hP hD hS dX6_shapeAfter_77 (Or.inl ⟨_, rfl⟩) (by unfold fShape; rw [if_neg c_1, if_neg c_2, if_neg c_3, if_pos c_4]) (rfl)
  by_cases c_5 : x = 120
  · refine k_tabIn (v := 120) (off := 83) (tgt := 84) hx hb dX6_shapeAfter_1 c_5 (by decide) (by decide) rfl (by decide) ?_
    refine va_ldcS hx hb (q := g 19) (tx := kSL[9].2.2) hown (hE.2.1 9 _ rfl) dX6_shapeAfter_84 ?_
    subst hQ
    exact k_rr hx hb hr hlocks hP hD hS dX6_shapeAfter_86 (Or.inl ⟨_, rfl⟩) (by unfold fShape; rw [if_neg c_1, if_neg c_2, if_neg c_3, if_neg c_4, if_pos c_5]) (rfl)
  refine k_tabDef (tgt := 87) hx hb dX6_shapeAfter_1 ?_ (by decide) ?_
  · intro v h1 h2 q
    rcases k_rng h1 with h3 | h1
    · subst h3; exact (c_1 (k_ti (by decide) q)).elim
    rcases k_rng h1 with h3 | h1
    · subst h3; rfl
    rcases k_rng h1 with h3 | h1
    · subst h3; rfl
    rcases k_rng h1 with h3 | h1
    · subst h3; exact (c_2 (k_ti (by decide) q)).elim
    rcases k_rng h1 with h3 | h1
    · subst h3; exact (c_3 (k_ti (by decide) q)).elim
    rcases k_rng h1 with h3 | h1
    · subst h3; rfl
    rcases k_rng h1 with h3 | h1
    · subst h3; rfl
    rcases k_rng h1 with h3 | h1
    · subst h3; rfl
    rcases k_rng h1 with h3 | h1
    · subst h3; exact (c_4 (k_ti (by decide) q)).elim
    rcases k_rng h1 with h3 | h1
    · subst h3; rfl
    rcases k_rng h1 with h3 | h1
    · subst h3; rfl
    rcases k_rng h1 with h3 | h1
    · subst h3; rfl
    rcases k_rng h1 with h3 | h1
    · subst h3; rfl
    rcases k_rng h1 with h3 | h1
    · subst h3; exact (c_5 (k_ti (by decide) q)).elim
    exfalso; omega
  refine va_ldcS hx hb (q := g 20) (tx := kSL[10].2.2) hown (hE.2.1 10 _ rfl) dX6_shapeAfter_87 ?_
  subst hQ
  exact k_rr hx hb hr hlocks hP hD hS dX6_shapeAfter_89 (Or.inl ⟨_, rfl⟩) (by unfold fShape; rw [if_neg c_1, if_neg c_2, if_neg c_3, if_neg c_4, if_neg c_5]) (rfl)
