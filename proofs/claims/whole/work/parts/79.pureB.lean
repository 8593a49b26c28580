-- THE PURE PART, 11: calls that are tried, of both
noncomputable section
/-- what a call comes to is told by the plan's fixed part -/
theorem asks_kf {a b : Nat → Int32} {sd p : Nat} {x : Int32} (h : kSame a b) (hs : sd < 12) (hp : p < 10) : f_X8_asks b sd p x = f_X8_asks a sd p x := by
  unfold f_X8_asks f_X8_hasContract
  rw [h _ (Or.inr (Or.inr ⟨by omega, by omega⟩)), h _ (Or.inr (Or.inr ⟨by omega, by omega⟩)), h _ (Or.inr (Or.inr ⟨by omega, by omega⟩))]
theorem gives_kf {a b : Nat → Int32} {sd p : Nat} {x : Int32} (h : kSame a b) (hs : sd < 12) (hp : p < 10) : f_X8_gives b sd p x = f_X8_gives a sd p x := by
  unfold f_X8_gives f_X8_hasContract
  rw [h _ (Or.inr (Or.inr ⟨by omega, by omega⟩)), h _ (Or.inr (Or.inr ⟨by omega, by omega⟩)), h _ (Or.inr (Or.inr ⟨by omega, by omega⟩))]
theorem hasC_kf {a b : Nat → Int32} {sd p : Nat} (h : kSame a b) (hs : sd < 12) (hp : p < 10) : f_X8_hasContract b sd p = f_X8_hasContract a sd p := by
  unfold f_X8_hasContract
  rw [h _ (Or.inr (Or.inr ⟨by omega, by omega⟩))]
theorem side_lt {caller : Int32} (hc : caller = -10000 ∨ ¬ caller < 0 ∧ ¬ 10 ≤ caller) : kSide caller < 12 := by
  unfold kSide
  rcases hc with h | ⟨h1, h2⟩
  · rw [h, if_neg (by decide), if_pos rfl]; omega
  · have h3 := k_clt (M := 10) (n := 10) (by decide) h1 h2
    rw [if_neg (fun q => h1 (by rw [q]; decide)), if_neg (fun q => h1 (by rw [q]; decide))]
    omega
theorem kSame.symm {a b : Nat → Int32} (h : kSame a b) : kSame b a := fun i hi => (h i hi).symm
theorem begins_kf {a b : Nat → Int32} {caller x : Int32} {p : Nat} (h : kSame a b) (hp : p < 10) (hc : caller = -10000 ∨ ¬ caller < 0 ∧ ¬ 10 ≤ caller) : (f_X8_begins b caller p x).1 = (f_X8_begins a caller p x).1 ∧ kSame (f_X8_begins a caller p x).2 (f_X8_begins b caller p x).2 := by
  have k := (f_X8_begins_same (x := x) hp hc (rw := a)).symm.trans (h.trans (f_X8_begins_same (x := x) hp hc (rw := b)))
  refine ⟨?_, k⟩
  have c : ∀ r : Nat → Int32, kSame r (upd (upd r 681 (r 681 + 1)) (1 + 8 * p + 5) (r (1 + 8 * p + 5) + 1)) := fun r => (kSame.rf.upd (by unfold kFix; omega)).upd (by unfold kFix; omega)
  have h2 : kSame (upd (upd a 681 (a 681 + 1)) (1 + 8 * p + 5) (a (1 + 8 * p + 5) + 1)) (upd (upd b 681 (b 681 + 1)) (1 + 8 * p + 5) (b (1 + 8 * p + 5) + 1)) := (c a).symm.trans (h.trans (c b))
  unfold f_X8_begins
  rw [asks_kf h2 (side_lt hc) hp, asks_kf h2 (by omega) hp, hasC_kf h2 (side_lt hc) hp]
  repeat' split
  all_goals rfl
theorem end_kf {a b : Nat → Int32} {caller v : Int32} {p : Nat} (h : kSame a b) (hp : p < 10) (hc : caller = -10000 ∨ ¬ caller < 0 ∧ ¬ 10 ≤ caller) : (rEnd1 caller p b v).2 = (rEnd1 caller p a v).2 := by
  unfold rEnd1 f_X8_ends
  dsimp only
  rw [gives_kf h (by omega) hp, gives_kf h (side_lt hc) hp, hasC_kf h (by omega) hp]
  by_cases t1 : f_X8_gives a 0 p v = 0
  · rw [if_pos t1, if_pos t1]
  · rw [if_neg t1, if_neg t1]
    by_cases t2 : f_X8_gives a (kSide caller) p v = 0
    · rw [if_pos t2, if_pos t2]
      by_cases t3 : f_X8_hasContract a 0 p = 0
      · rw [if_pos t3, if_pos t3]
      · rw [if_neg t3, if_neg t3]
    · rw [if_neg t2, if_neg t2]
theorem end_same {a : Nat → Int32} {caller v : Int32} {p : Nat} (hp : p < 10) (hc : caller = -10000 ∨ ¬ caller < 0 ∧ ¬ 10 ≤ caller) : kSame a (rEnd1 caller p a v).1 := f_X8_ends_same hp hc
theorem reckon_kf {a b : Nat → Int32} {p : Nat} {z : Int32} (h : kSame a b) (hp : p < 10) : f_X8_reckon b p z = f_X8_reckon a p z := by
  unfold f_X8_reckon
  rw [h (1 + 8 * p + 0) (Or.inr (Or.inl ⟨by omega, by omega, by omega⟩)), h (1 + 8 * p + 1) (Or.inr (Or.inl ⟨by omega, by omega, by omega⟩))]
theorem next_kf {a b : Nat → Int32} {p : Nat} (h : kSame a b) (hp : p < 10) : f_X8_next b p = f_X8_next a p := by
  unfold f_X8_next
  rw [h (1 + 8 * p + 2) (Or.inr (Or.inl ⟨by omega, by omega, by omega⟩))]
theorem rSt_kf {a b : KUp} {caller : Int32} {p : Nat} (h : kSame a.1 b.1) (e : b.2 = a.2) (hp : p < 10) (hc : caller = -10000 ∨ ¬ caller < 0 ∧ ¬ 10 ≤ caller) : (rSt caller p b).2 = (rSt caller p a).2 ∧ kSame (rSt caller p a).1 (rSt caller p b).1 := by
  have n4 : b.1 (1 + 8 * p + 4) = a.1 (1 + 8 * p + 4) := h _ (Or.inr (Or.inl ⟨by omega, by omega, by omega⟩))
  have en : ∀ (r1 r2 : Nat → Int32) (v : Int32), kSame r1 r2 → kSame (rEnd1 caller p r1 v).1 (rEnd1 caller p r2 v).1 := fun r1 r2 v hh => (end_same hp hc).symm.trans (hh.trans (end_same hp hc))
  have hu : ∀ r : Nat → Int32, kSame r (upd (upd (upd r 693 1) 685 (r 685 + 1)) (1 + 8 * p + 7) (r (1 + 8 * p + 7) + 1)) := fun r => ((kSame.rf.upd (by unfold kFix; omega)).upd (by unfold kFix; omega)).upd (by unfold kFix; omega)
  have hu1 : ∀ r : Nat → Int32, kSame r (upd r 692 (r 692 + 1)) := fun r => kSame.rf.upd (by unfold kFix; omega)
  unfold rSt
  rw [e, n4, reckon_kf h hp]
  by_cases t1 : a.2.2 = 0
  · rw [if_pos t1, if_pos t1]
    exact ⟨end_kf h hp hc, en _ _ _ h⟩
  · rw [if_neg t1, if_neg t1]
    by_cases t2 : a.1 (1 + 8 * p + 4) = -10000
    · rw [if_pos t2, if_pos t2]
      exact ⟨rfl, (hu1 a.1).symm.trans (h.trans (hu1 b.1))⟩
    · rw [if_neg t2, if_neg t2]
      have k := (hu a.1).symm.trans (h.trans (hu b.1))
      exact ⟨end_kf k hp hc, en _ _ _ k⟩
theorem rTr_kf : ∀ (F : Nat) (a b : Nat → Int32) (caller : Int32) (p : Nat) (x c : Int32), kSame a b → rNx a → p < 10 → (caller = -10000 ∨ ¬ caller < 0 ∧ ¬ 10 ≤ caller) → (rTr F b caller p x c).2 = (rTr F a caller p x c).2 ∧ kSame (rTr F a caller p x c).1 (rTr F b caller p x c).1 := by
  intro F
  induction F with
  | zero =>
    intro a b caller p x c h hR hp hc
    by_cases h0 : c = 0
    · rw [rTr, rTr, if_pos h0, if_pos h0, reckon_kf h hp]
      exact ⟨end_kf h hp hc, (end_same hp hc).symm.trans (h.trans (end_same hp hc))⟩
    · rw [rTr_bad h0, rTr_bad h0]
      exact ⟨rfl, h⟩
  | succ F ih =>
    intro a b caller p x c h hR hp hc
    by_cases h0 : c = 0
    · subst h0
      by_cases hn : f_X8_next a p < 0
      · rw [rTr_none hn, rTr_none (by rw [next_kf h hp]; exact hn), reckon_kf h hp]
        exact ⟨end_kf h hp hc, (end_same hp hc).symm.trans (h.trans (end_same hp hc))⟩
      · have n3 : b (1 + 8 * p + 3) = a (1 + 8 * p + 3) := h _ (Or.inr (Or.inl ⟨by omega, by omega, by omega⟩))
        rw [rTr, rTr, if_pos rfl, if_pos rfl, next_kf h hp, n3, if_neg hn, if_neg hn]
        obtain ⟨q, hq⟩ : ∃ q, q = (f_X8_next a p).toNatClampNeg := ⟨_, rfl⟩
        obtain ⟨y, hy⟩ : ∃ y, y = x + a (1 + 8 * p + 3) := ⟨_, rfl⟩
        rw [← hq, ← hy]
        have hq10 : q < 10 := by
          obtain ⟨j, hj, ej⟩ := hR p hp
          rw [hq]
          unfold f_X8_next
          rw [ej]
          cases j with
          | zero => exact (show (nI 0 - 1).toNatClampNeg < 10 by decide)
          | succ j =>
            rw [show nI (j + 1) - 1 = nI j from pk_sub (a := j + 1) (b := 1) (by omega), nI_clamp (by omega)]
            omega
        have hcp : nI p = -10000 ∨ ¬ nI p < 0 ∧ ¬ 10 ≤ nI p := Or.inr ⟨nI_nn (by omega), nI_lt10 hp⟩
        obtain ⟨b1, b2⟩ := begins_kf (x := y) h hq10 hcp
        rw [b1]
        have hR2 : rNx (f_X8_begins a (nI p) q y).2 := rNx_same (f_X8_begins_same hq10 hcp) hR
        obtain ⟨i1, i2⟩ := ih _ _ (nI p) q y (if (f_X8_begins a (nI p) q y).1 ≤ 0 then 0 else 1) b2 hR2 hq10 hcp
        exact rSt_kf i2 i1 hp hc
    · rw [rTr_bad h0, rTr_bad h0]
      exact ⟨rfl, h⟩
/-- whether a call is blamed, and what it gives, doesn't hang on what was counted -/
theorem callIn_kf {a b cp cn cp2 cn2 : Nat → Int32} {p : Nat} {x : Int32} (h : kSame a b) (hR : rNx a) (hp : p < 10) : (h_X8_callIn cp2 cn2 b p x).1 = (h_X8_callIn cp cn a p x).1 := by
  have hc : (-10000 : Int32) = -10000 ∨ ¬ (-10000 : Int32) < 0 ∧ ¬ 10 ≤ (-10000 : Int32) := Or.inl rfl
  have u : ∀ r : Nat → Int32, kSame r (upd r 682 (r 682 + 1)) := fun r => kSame.rf.upd (by unfold kFix; omega)
  have h2 : kSame (upd a 682 (a 682 + 1)) (upd b 682 (b 682 + 1)) := (u a).symm.trans (h.trans (u b))
  obtain ⟨b1, b2⟩ := begins_kf (x := x) h2 hp hc
  have hR2 : rNx (f_X8_begins (upd a 682 (a 682 + 1)) (-10000) p x).2 := rNx_same ((u a).trans (f_X8_begins_same hp hc)) hR
  have e : (rCall b p x).2 = (rCall a p x).2 := by
    unfold rCall
    rw [b1]
    exact (rTr_kf 10 _ _ _ _ _ _ b2 hR2 hp hc).1
  rw [(callIn_tr cp2 cn2 b x hp).1, (callIn_tr cp cn a x hp).1, e]
end
