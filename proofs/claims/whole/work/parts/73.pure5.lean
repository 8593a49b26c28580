-- THE PURE PART, 5: counts, of both
noncomputable section
theorem row_eq {mn row : Nat} {bnd rw : Nat → Int32} (h : pBnd mn bnd rw) (hr : row < 12) : ∀ k, k ≤ 10 → cRow bnd row k = rRow rw (kSd row) k := by
  intro k
  induction k with
  | zero => intro _; rfl
  | succ k ih =>
    intro hk
    rw [cRow, rRow, ih (by omega)]
    rcases h row k hr (by omega) with ⟨h1, h2, _⟩ | ⟨h1, h2⟩
    · rw [if_neg h2, h1]
    · rw [if_pos h2, h1, Int32.add_zero]
theorem rRow_ext {mn row : Nat} {bnd rw : Nat → Int32} (h : pBnd mn bnd rw) (hr : row < 12) : ∀ k, mn ≤ k → k ≤ 10 → rRow rw (kSd row) k = rRow rw (kSd row) mn := by
  intro k hk
  induction k with
  | zero => intro _; rw [show mn = 0 by omega]
  | succ k ih =>
    intro h9
    by_cases e : mn = k + 1
    · rw [e]
    · rw [rRow, ih (by omega) (by omega)]
      rcases h row k hr (by omega) with ⟨_, _, _, _, _, _, h3, _⟩ | ⟨h1, h2⟩
      · omega
      · rw [h1, Int32.add_zero]
theorem row10 {mn row : Nat} {bnd rw : Nat → Int32} (hm : mn ≤ 10) (h : pBnd mn bnd rw) (hr : row < 12) : cRow bnd row 10 = rRow rw (kSd row) mn := by
  rw [row_eq h hr 10 (Nat.le_refl _), rRow_ext h hr 10 hm (Nat.le_refl _)]
theorem kSd_low {k : Nat} (h : k < 10) : kSd k = 1 + (k + 1) := by
  unfold kSd
  rw [if_neg (by omega), if_neg (by omega)]
  omega
theorem lnk_rel {mn : Nat} {bnd rw : Nat → Int32} (hm : mn ≤ 10) (h : pBnd mn bnd rw) : ∀ k, k ≤ 10 → rCnt rw mn 1 (k + 1) = rRow rw 1 mn + cLnk bnd k := by
  intro k
  induction k with
  | zero =>
    intro _
    show (0 : Int32) + rRow rw (1 + 0) mn = rRow rw 1 mn + 0
    rw [Int32.zero_add, Int32.add_zero]
  | succ k ih =>
    intro hk
    rw [rCnt, ih (by omega), cLnk, row10 hm h (show k < 12 by omega), kSd_low (by omega), Int32.add_assoc]
theorem links_eq {mn : Nat} {bnd rw : Nat → Int32} (hm : mn ≤ 10) (h : pBnd mn bnd rw) : cLnk bnd 11 = rCnt rw mn 1 11 := by
  rw [lnk_rel hm h 10 (Nat.le_refl _)]
  show cLnk bnd 10 + cRow bnd 10 10 = _
  rw [row10 hm h (by omega), Int32.add_comm]
  rfl
theorem own_eq {mn : Nat} {bnd rw : Nat → Int32} (hm : mn ≤ 10) (h : pBnd mn bnd rw) : cRow bnd 11 10 = rCnt rw mn 0 1 := by
  rw [row10 hm h (by omega)]
  show _ = (0 : Int32) + rRow rw (0 + 0) mn
  rw [Int32.zero_add]
  rfl
theorem cnt_all {rw : Nat → Int32} {mn : Nat} : ∀ k, rCnt rw mn 0 (k + 1) = rRow rw 0 mn + rCnt rw mn 1 k := by
  intro k
  induction k with
  | zero =>
    show (0 : Int32) + rRow rw (0 + 0) mn = rRow rw 0 mn + 0
    rw [Int32.zero_add, Int32.add_zero]
  | succ k ih =>
    rw [rCnt, ih]
    show _ = rRow rw 0 mn + (rCnt rw mn 1 k + rRow rw (1 + k) mn)
    rw [← Int32.add_assoc, show 0 + (k + 1) = 1 + k by omega]
theorem all_eq {mn : Nat} {bnd rw : Nat → Int32} (hm : mn ≤ 10) (h : pBnd mn bnd rw) : cRow bnd 11 10 + cLnk bnd 11 = rCnt rw mn 0 12 := by
  rw [cnt_all 11, links_eq hm h, row10 hm h (by omega)]
  rfl
theorem stand_eq {mn r1 p1 r2 p2 : Nat} {bnd rw : Nat → Int32} (h : pBnd mn bnd rw) (hr1 : r1 < 12) (hp1 : p1 < 10) (hr2 : r2 < 12) (hp2 : p2 < 10) (h1 : ¬ bnd ((r1 * 10 + p1) * 4) = -10000) (h2 : ¬ bnd ((r2 * 10 + p2) * 4) = -10000) : f_X8_standsIn rw (kSd r1) p1 (kSd r2) p2 = f_X1_mayStandFor bnd (nI ((r1 * 10 + p1) * 4)) (nI ((r2 * 10 + p2) * 4)) := by
  rcases h r1 p1 hr1 hp1 with ⟨_, _, a0, a1, a2, a3, _⟩ | ⟨_, q⟩
  · rcases h r2 p2 hr2 hp2 with ⟨_, _, b0, b1, b2, b3, _⟩ | ⟨_, q⟩
    · unfold f_X8_standsIn f_X1_mayStandFor
      rw [nI_clamp (by omega), nI_clamp (by omega), a0, a1, a2, a3, b0, b1, b2, b3]
      by_cases t0 : rw (81 + 5 * (10 * kSd r2 + p2) + 1) < rw (81 + 5 * (10 * kSd r1 + p1) + 1)
      · rw [if_pos t0, if_pos t0]
        repeat' split
        all_goals rfl
      · rw [if_neg t0, if_neg t0]
        by_cases t1 : rw (81 + 5 * (10 * kSd r1 + p1) + 2) < rw (81 + 5 * (10 * kSd r2 + p2) + 2)
        · rw [if_pos t1, if_pos t1]
          repeat' split
          all_goals rfl
        · rw [if_neg t1, if_neg t1]
    · exact absurd q h2
  · exact absurd q h1
theorem ho_eq {mn row : Nat} {bnd rw : Nat → Int32} (h : pBnd mn bnd rw) (hr : row < 12) : ∀ k, k ≤ 10 → cHo bnd row k = rHo rw (kSd row) k := by
  intro k
  induction k with
  | zero => intro _; rfl
  | succ k ih =>
    intro hk
    have hk9 : k < 10 := by omega
    rw [cHo, rHo, ih (by omega)]
    by_cases h1 : bnd ((row * 10 + k) * 4) = -10000
    · rw [if_pos h1, if_pos ((hasC_N h hr hk9).mpr h1), Int32.add_zero]
    · rw [if_neg h1, if_neg (fun q => h1 ((hasC_N h hr hk9).mp q))]
      have o := hasC_N h (show 11 < 12 by omega) hk9
      have e11 : kSd 11 = 0 := rfl
      rw [e11] at o
      by_cases h2 : bnd ((11 * 10 + k) * 4) = -10000
      · rw [if_pos h2, if_pos (o.mpr h2), Int32.add_zero]
      · rw [if_neg h2, if_neg (fun q => h2 (o.mp q))]
        have s := stand_eq h (show 11 < 12 by omega) hk9 hr hk9 h2 h1
        rw [e11] at s
        rw [s]
        by_cases h3 : f_X1_mayStandFor bnd (nI ((11 * 10 + k) * 4)) (nI ((row * 10 + k) * 4)) = 0
        · rw [if_pos h3, if_pos h3]
        · rw [if_neg h3, if_neg h3, Int32.add_zero]
theorem rHo_ext {mn row : Nat} {bnd rw : Nat → Int32} (h : pBnd mn bnd rw) (hr : row < 12) : ∀ k, mn ≤ k → k ≤ 10 → rHo rw (kSd row) k = rHo rw (kSd row) mn := by
  intro k hk
  induction k with
  | zero => intro _; rw [show mn = 0 by omega]
  | succ k ih =>
    intro h9
    by_cases e : mn = k + 1
    · rw [e]
    · rw [rHo, ih (by omega) (by omega)]
      rcases h row k hr (by omega) with ⟨_, _, _, _, _, _, h3, _⟩ | ⟨h1, h2⟩
      · omega
      · rw [if_pos ((hasC_N h hr (by omega)).mpr h2), Int32.add_zero]
theorem ho10 {mn row : Nat} {bnd rw : Nat → Int32} (hm : mn ≤ 10) (h : pBnd mn bnd rw) (hr : row < 12) : cHo bnd row 10 = rHo rw (kSd row) mn := by
  rw [ho_eq h hr 10 (Nat.le_refl _), rHo_ext h hr 10 hm (Nat.le_refl _)]
theorem hs_rel {mn : Nat} {bnd rw : Nat → Int32} (hm : mn ≤ 10) (h : pBnd mn bnd rw) : ∀ k, k ≤ 10 → rHs rw mn (k + 1) = rHo rw 1 mn + cHs bnd k := by
  intro k
  induction k with
  | zero =>
    intro _
    show (0 : Int32) + rHo rw (1 + 0) mn = rHo rw 1 mn + 0
    rw [Int32.zero_add, Int32.add_zero]
  | succ k ih =>
    intro hk
    rw [rHs, ih (by omega), cHs, ho10 hm h (show k < 12 by omega), kSd_low (by omega), Int32.add_assoc]
theorem holes_eq {mn : Nat} {bnd rw : Nat → Int32} (hm : mn ≤ 10) (h : pBnd mn bnd rw) : cHs bnd 11 = rHs rw mn 11 := by
  rw [hs_rel hm h 10 (Nat.le_refl _)]
  show cHs bnd 10 + cHo bnd 10 10 = _
  rw [ho10 hm h (by omega), Int32.add_comm]
  rfl
/-- how long a chain is -/
theorem len_rel {mn : Nat} {num rw : Nat → Int32} (hm : mn ≤ 10) (hn : pNum mn num rw) (hR : rNx rw) : ∀ (f q n : Nat), q < mn → q + n ≤ 10 → n + f = 10 → ∀ f2, q < f2 → cLen num f (f_X4_ofPart num (nI q) 2) = nI (rLen rw f2 (rw (1 + 8 * q + 2)).toNatClampNeg n) := by
  intro f
  induction f with
  | zero =>
    intro q n hq hqn hnf f2 hf2
    obtain ⟨j, hj, ej⟩ := hR q (by omega)
    obtain ⟨f3, rfl⟩ : ∃ f3, f2 = f3 + 1 := ⟨f2 - 1, by omega⟩
    rw [cLen, ej, show j = 0 by omega, nI_clamp (by omega), rLen, if_pos rfl, show n = 10 by omega]
    rfl
  | succ f ih =>
    intro q n hq hqn hnf f2 hf2
    obtain ⟨j, hj, ej⟩ := hR q (by omega)
    obtain ⟨f3, rfl⟩ : ∃ f3, f2 = f3 + 1 := ⟨f2 - 1, by omega⟩
    rcases next_N hm hq hn hR with ⟨n1, n2⟩ | ⟨r, hr, n1, n2, n3⟩
    · have j0 : j = 0 := by
        cases j with
        | zero => rfl
        | succ j =>
          exfalso
          have e2 := (hn q hq).2.2.1
          rw [ofPart_N (by omega), e2, ej, if_neg (fun e9 => by have := (nI_eq (a := j + 1) (b := 0) (by omega) (by decide)).mp e9; omega)] at n1
          have e1 : nI (j + 1) - 1 = nI j := pk_sub (a := j + 1) (b := 1) (by omega)
          rw [e1] at n1
          exact nI_ne (by omega) n1
      rw [n1, cLen, if_pos rfl, ej, j0, nI_clamp (by omega), rLen, if_pos rfl, show 9 - f = n by omega]
    · have j1 : j = r + 1 := by
        unfold f_X8_next at n2
        rw [ej] at n2
        cases j with
        | zero =>
          exfalso
          have : nI 0 - 1 = nI r := n2
          exact nI_nn (p := r) (by omega) (by rw [← this]; decide)
        | succ j =>
          have e1 : nI (j + 1) - 1 = nI j := pk_sub (a := j + 1) (b := 1) (by omega)
          rw [e1] at n2
          have := (nI_eq (a := j) (b := r) (by omega) (by omega)).mp n2
          omega
      rw [n1, cLen, if_neg (nI_ne (by omega)), ej, j1, nI_clamp (by omega), rLen, if_neg (by omega), show r + 1 - 1 = r by omega]
      exact ih r (n + 1) (by omega) (by omega) (by omega) f3 (by omega)
end
