-- THE LAW, 4: what holds of both between calls, and that every call keeps it
noncomputable section
def kInv (N : Nat) (ln : Nat) (sg : Nat → Int32) (v : KPV) (nx kc : Nat) (pl : Nat → KPV) (z0 z1 : KPV) (fl : Nat → Int32) (ss ac : Nat) (sc nw di ke ik : Nat → Int32) : Prop := ln = ss ∧ sg = sc ∧ ln ≤ 120 ∧ pPlan v nw ∧ pMem nx kc pl ac di ∧ fl = ik ∧ pKept z0 ke ik 0 ∧ pKept z1 ke ik 1 ∧ pBd N nw ∧ (∀ k : Nat, k < ac → pBd N (kRowAt di k)) ∧ (∀ j : Nat, j < 2 → ¬ ik j = 0 → pBd N (kRowAt ke j))
abbrev INV (N : Nat) (S : KC) (R : KR) : Prop := kInv N S.1 S.2.1 S.2.2.1 S.2.2.2.2.2.1 S.2.2.2.2.2.2.1 S.2.2.2.2.2.2.2.1 S.2.2.2.2.2.2.2.2.1 S.2.2.2.2.2.2.2.2.2.1 S.2.2.2.2.2.2.2.2.2.2.1 R.2.1 R.2.2.2.2.2.1 R.2.2.2.2.2.2.1 R.2.2.2.2.2.2.2.2.1 R.2.2.2.2.2.2.2.2.2.2.1 R.2.2.2.2.2.2.2.2.2.2.2.1 R.2.2.2.2.2.2.2.2.2.2.2.2.1
section LI
variable {N M : Nat} {ln : Nat} {sg : Nat → Int32} {v : KPV} {nx kc : Nat} {pl : Nat → KPV} {z0 z1 : KPV} {fl : Nat → Int32} {ss ac : Nat} {sc nw di ke ik : Nat → Int32}
theorem kInv.le (h : kInv N ln sg v nx kc pl z0 z1 fl ss ac sc nw di ke ik) (hM : N ≤ M) : kInv M ln sg v nx kc pl z0 z1 fl ss ac sc nw di ke ik := by
  obtain ⟨h1, h2, h3, h4, h5, h6, h7, h8, h9, h10, h11⟩ := h
  exact ⟨h1, h2, h3, h4, h5, h6, h7, h8, h9.le hM, fun k hk => (h10 k hk).le hM, fun j hj hq => (h11 j hj hq).le hM⟩
theorem updL_0 (f : Nat → Int64) (x : Int64) : vp_updL f 0 x 0 = x := if_pos rfl
theorem updL_e (f : Nat → Int64) (x y : Int32) (h : x = y) : vp_updL f 0 (Int32.toInt64 x) 0 = Int32.toInt64 y := by
  rw [updL_0, h]
theorem pPlan_ok (h : pPlan v nw) : rdOk nw ∧ ¬ 10 < v.1 ∧ v.1 = nI v.1.toNatClampNeg ∧ v.1.toNatClampNeg ≤ 10 := by
  obtain ⟨mn, e, R⟩ := h
  have hm := R.1
  refine ⟨⟨⟨mn, R.2.1, hm⟩, R.2.2.2.2.2.2.2.2.2.2⟩, fun q => ?_, ?_, ?_⟩
  · rw [e] at q
    have := (nI_ltI (a := 10) (b := mn) (by decide) (by omega)).mp q
    omega
  · rw [e, nI_clamp (by omega)]
  · rw [e, nI_clamp (by omega)]; exact hm
theorem pPlan_0 (h : pPlan v nw) : v.1 = nw 0 := by
  obtain ⟨mn, e, R⟩ := h
  rw [e, R.2.1]
theorem pBd_ext {a b : Nat → Int32} (e : ∀ i : Nat, i < 748 → b i = a i) (h : pBd N a) : pBd N b := fun p hp => by
  obtain ⟨j, h1, h2⟩ := h p hp
  exact ⟨j, h1, by rw [e _ (by omega)]; exact h2⟩
theorem rem_bd (hac : ac ≤ 14) (hb : pBd N nw) (hbd : ∀ k : Nat, k < ac → pBd N (kRowAt di k)) : ∀ k : Nat, k < (f_X8_remember ac nw di).1 → pBd N (kRowAt (f_X8_remember ac nw di).2 k) := by
  unfold f_X8_remember
  by_cases h14 : ac = 14
  · subst h14
    rw [if_pos rfl]
    intro k hk
    have hk2 : k < 14 - 1 + 1 := hk
    show pBd N (kRowAt (va_cpy nw (va_cpy di di 748 0 9724) 0 (748 * (14 - 1)) 748) k)
    by_cases e : k = 13
    · subst e
      refine pBd_ext (fun i hi => ?_) hb
      unfold kRowAt
      rw [cpy_row hi, if_pos rfl]
    · refine pBd_ext (fun i hi => ?_) (hbd (k + 1) (by omega))
      unfold kRowAt
      rw [cpy_row hi, if_neg (by omega)]
      unfold va_cpy
      rw [if_pos (by omega)]
      congr 1
      omega
  · rw [if_neg h14]
    intro k hk
    have hk2 : k < ac + 1 := hk
    show pBd N (kRowAt (va_cpy nw di 0 (748 * ac) 748) k)
    by_cases e : k = ac
    · subst e
      refine pBd_ext (fun i hi => ?_) hb
      unfold kRowAt
      rw [cpy_row hi, if_pos rfl]
    · refine pBd_ext (fun i hi => ?_) (hbd k (by omega))
      unfold kRowAt
      rw [cpy_row hi, if_neg e]
/-- a row taken back -/
theorem back_bd {a : Nat → Int32} {k : Nat} (h : pBd N (kRowAt a k)) : pBd N (va_cpy a nw (748 * k) 0 748) := pBd_ext (fun i hi => by
  unfold va_cpy kRowAt
  rw [if_pos (by omega)]
  congr 1) h
theorem save_bd {j : Nat} (hb : pBd N nw) (hbk : ∀ j : Nat, j < 2 → ¬ ik j = 0 → pBd N (kRowAt ke j)) : ∀ k : Nat, k < 2 → ¬ upd ik j 1 k = 0 → pBd N (kRowAt (va_cpy nw ke 0 (748 * j) 748) k) := fun k hk hq => by
  by_cases e : k = j
  · subst e
    refine pBd_ext (fun i hi => ?_) hb
    unfold kRowAt
    rw [cpy_row hi, if_pos rfl]
  · rw [pk_un e] at hq
    refine pBd_ext (fun i hi => ?_) (hbk k hk hq)
    unfold kRowAt
    rw [cpy_row hi, if_neg e]
theorem fl_none (f : Nat → Int32) (j : Nat) (hj : j < 2) : upd (upd f 0 0) 1 0 j = 0 := by
  rcases (show j = 0 ∨ j = 1 by omega) with rfl | rfl
  · rw [pk_un (by decide), pk_us]
  · rw [pk_us]
end LI
theorem bd_add {N ac : Nat} {nw di : Nat → Int32} {a1 a2 : Int32} (h : pBd N nw) : pBd N (f_X8_add ac nw di a1 a2).2.2.2 ∧ (f_X8_add ac nw di a1 a2).2.1 = (f_X8_remember ac nw di).1 ∧ (f_X8_add ac nw di a1 a2).2.2.1 = (f_X8_remember ac nw di).2 := by
  unfold f_X8_add
  dsimp only
  repeat' split
  all_goals exact ⟨addIn_bd h, rfl, rfl⟩
theorem bd_chain {N ac : Nat} {nw di : Nat → Int32} {a1 a2 a3 : Int32} (h : pBd N nw) : pBd N (f_X8_chain ac nw di a1 a2 a3).2.2.2 ∧ (f_X8_chain ac nw di a1 a2 a3).2.1 = (f_X8_remember ac nw di).1 ∧ (f_X8_chain ac nw di a1 a2 a3).2.2.1 = (f_X8_remember ac nw di).2 := by
  unfold f_X8_chain
  dsimp only
  repeat' split
  all_goals exact ⟨chainIn_bd h, rfl, rfl⟩
theorem bd_net {N ac : Nat} {nw di : Nat → Int32} {a1 a2 : Int32} (h : pBd N nw) : pBd N (f_X8_net ac nw di a1 a2).2.2.2 ∧ (f_X8_net ac nw di a1 a2).2.1 = (f_X8_remember ac nw di).1 ∧ (f_X8_net ac nw di a1 a2).2.2.1 = (f_X8_remember ac nw di).2 := by
  unfold f_X8_net
  dsimp only
  repeat' split
  all_goals exact ⟨upd_bd h (fun p hp => by omega), rfl, rfl⟩
theorem bd_own {N ac : Nat} {nw di : Nat → Int32} {a1 a2 a3 a4 a5 : Int32} (h : pBd N nw) : pBd N (f_X8_own ac nw di a1 a2 a3 a4 a5).2.2.2 ∧ (f_X8_own ac nw di a1 a2 a3 a4 a5).2.1 = (f_X8_remember ac nw di).1 ∧ (f_X8_own ac nw di a1 a2 a3 a4 a5).2.2.1 = (f_X8_remember ac nw di).2 := by
  unfold f_X8_own
  dsimp only
  repeat' split
  all_goals exact ⟨promise_bd h, rfl, rfl⟩
theorem bd_link {N ac : Nat} {nw di : Nat → Int32} {a1 a2 a3 a4 a5 a6 : Int32} (h : pBd N nw) : pBd N (f_X8_link ac nw di a1 a2 a3 a4 a5 a6).2.2.2 ∧ (f_X8_link ac nw di a1 a2 a3 a4 a5 a6).2.1 = (f_X8_remember ac nw di).1 ∧ (f_X8_link ac nw di a1 a2 a3 a4 a5 a6).2.2.1 = (f_X8_remember ac nw di).2 := by
  unfold f_X8_link
  dsimp only
  repeat' split
  all_goals exact ⟨promise_bd h, rfl, rfl⟩
theorem bd_drop {N ac : Nat} {nw di : Nat → Int32} {a1 a2 : Int32} (h : pBd N nw) : pBd N (f_X8_drop ac nw di a1 a2).2.2.2 ∧ (f_X8_drop ac nw di a1 a2).2.1 = (f_X8_remember ac nw di).1 ∧ (f_X8_drop ac nw di a1 a2).2.2.1 = (f_X8_remember ac nw di).2 := by
  unfold f_X8_drop
  dsimp only
  repeat' split
  all_goals exact ⟨upd_bd h (fun p hp => by omega), rfl, rfl⟩
theorem part_lt10 {v : KPV} {nw : Nat → Int32} {a : Int32} (hv : pPlan v nw) (h : ¬ f_X4_hasPart v.1 a = 0) : a.toNatClampNeg < 10 := by
  obtain ⟨mn, e, R⟩ := hv
  have hm := R.1
  unfold f_X4_hasPart at h
  by_cases h0 : a < 0
  · rw [if_pos h0] at h; exact absurd rfl h
  · rw [if_neg h0] at h
    by_cases h1 : v.1 ≤ a
    · rw [if_pos h1] at h; exact absurd rfl h
    · obtain ⟨j, hj, ej⟩ := nI_of h0
      rw [ej, nI_clamp hj]
      rw [e, ej] at h1
      have h2 : ¬ mn ≤ j := fun q => h1 ((nI_leI (by omega) hj).mpr q)
      omega
set_option maxHeartbeats 2000000 in
theorem inv_append {N : Nat} {S : KC} {R : KR} (a1 : Int32) (h : INV N S R) (hN : N < 2 ^ 29) : INV (N + 3000) (sL_append a1 S) (sR_append a1 R) ∧ kd_X7_append S.1 a1 = (sR_append a1 R).1 ∧ (kd_X7_append S.1 a1 = 0 → (sL_append a1 S).2.2.2.2.2.2.2.2.2.2.2 0 = Int32.toInt64 (bR_append a1 R)) := by
  obtain ⟨ln, sg, v, w, u, nx, kc, pl, z0, z1, fl, o⟩ := S
  obtain ⟨rf, ss, sp, ig, lo, ac, sc, rw, nw, tr, di, ke, ik, cp, cn, be⟩ := R
  have h : kInv N ln sg v nx kc pl z0 z1 fl ss ac sc nw di ke ik := h
  have hI := h.le (Nat.le_add_right N 3000)
  obtain ⟨e1, e2, hl, hv, hM, e3, hz0, hz1, hb, hbd, hbk⟩ := h
  subst e1; subst e2; subst e3
  have hkk : kd_X7_append ln a1 = kc_X8_append ln a1 := kd_append hl a1
  by_cases hk : kd_X7_append ln a1 = 0
  · have hs : sL_append a1 (ln, sg, v, w, u, nx, kc, pl, z0, z1, fl, o) = ((f_X7_append ln sg a1).2.1, (f_X7_append ln sg a1).2.2, v, w, u, nx, kc, pl, z0, z1, fl, vp_updL o 0 (Int32.toInt64 (nI ((f_X7_append ln sg a1).1)))) := if_pos hk
    have hr : sR_append a1 (rf, ln, sp, ig, lo, ac, sg, rw, nw, tr, di, ke, fl, cp, cn, be) = (0, (f_X8_append ln sg a1).2.1, sp, ig, lo, ac, (f_X8_append ln sg a1).2.2, rw, nw, tr, di, ke, fl, cp, cn, be) := if_pos (hkk.symm.trans hk)
    have hb2 : bR_append a1 (rf, ln, sp, ig, lo, ac, sg, rw, nw, tr, di, ke, fl, cp, cn, be) = (nI ((f_X8_append ln sg a1).1)) := if_pos (hkk.symm.trans hk)
    have h120 : ln + 1 ≤ 120 := by
      unfold kd_X7_append at hk
      by_cases q : f_X7_isWithin a1 0 255 = 0
      · rw [if_pos q] at hk; exact absurd hk (by decide)
      · rw [if_neg q] at hk
        by_cases q2 : f_X6_isFull ln = 0
        · exact isFull_lt q2
        · rw [if_neg q2] at hk; exact absurd hk (by decide)
    rw [hs, hr, hb2]
    exact ⟨⟨rfl, rfl, h120, hI.2.2.2⟩, hk, fun _ => updL_e o (nI ((f_X7_append ln sg a1).1)) (nI ((f_X8_append ln sg a1).1)) (rfl)⟩
  · have hs : sL_append a1 (ln, sg, v, w, u, nx, kc, pl, z0, z1, fl, o) = (ln, sg, v, w, u, nx, kc, pl, z0, z1, fl, o) := if_neg hk
    have hr : sR_append a1 (rf, ln, sp, ig, lo, ac, sg, rw, nw, tr, di, ke, fl, cp, cn, be) = (kc_X8_append ln a1, ln, sp, ig, lo, ac, sg, rw, nw, tr, di, ke, fl, cp, cn, be) := if_neg (fun q => hk (hkk.trans q))
    rw [hs, hr]
    exact ⟨hI, hkk, fun q => absurd q hk⟩
set_option maxHeartbeats 2000000 in
theorem inv_clearText {N : Nat} {S : KC} {R : KR}  (h : INV N S R) (hN : N < 2 ^ 29) : INV (N + 3000) (sL_clearText S) (sR_clearText R) ∧ (nI (f_X7_clearText S.1)) = bR_clearText R := by
  obtain ⟨ln, sg, v, w, u, nx, kc, pl, z0, z1, fl, o⟩ := S
  obtain ⟨rf, ss, sp, ig, lo, ac, sc, rw, nw, tr, di, ke, ik, cp, cn, be⟩ := R
  have h : kInv N ln sg v nx kc pl z0 z1 fl ss ac sc nw di ke ik := h
  have hI := h.le (Nat.le_add_right N 3000)
  obtain ⟨e1, e2, hl, hv, hM, e3, hz0, hz1, hb, hbd, hbk⟩ := h
  subst e1; subst e2; subst e3
  exact ⟨⟨rfl, rfl, Nat.zero_le 120, hI.2.2.2⟩, rfl⟩
set_option maxHeartbeats 2000000 in
theorem inv_errorPosition {N : Nat} {S : KC} {R : KR}  (h : INV N S R) (hN : N < 2 ^ 29) : INV (N + 3000) (sL_errorPosition S) (sR_errorPosition R) ∧ (f_X7_errorPosition S.1 S.2.1) = bR_errorPosition R := by
  obtain ⟨ln, sg, v, w, u, nx, kc, pl, z0, z1, fl, o⟩ := S
  obtain ⟨rf, ss, sp, ig, lo, ac, sc, rw, nw, tr, di, ke, ik, cp, cn, be⟩ := R
  have h : kInv N ln sg v nx kc pl z0 z1 fl ss ac sc nw di ke ik := h
  have hI := h.le (Nat.le_add_right N 3000)
  obtain ⟨e1, e2, hl, hv, hM, e3, hz0, hz1, hb, hbd, hbk⟩ := h
  subst e1; subst e2; subst e3
  exact ⟨hI, ans_errorPosition hl cp cn⟩
set_option maxHeartbeats 2000000 in
theorem inv_load {N : Nat} {S : KC} {R : KR}  (h : INV N S R) (hN : N < 2 ^ 29) : INV (N + 3000) (sL_load  S) (sR_load  R) ∧ kd_X7_load S.1 S.2.1 = (sR_load  R).1 ∧ (kd_X7_load S.1 S.2.1 = 0 → (sL_load  S).2.2.2.2.2.2.2.2.2.2.2 0 = Int32.toInt64 (bR_load  R)) := by
  obtain ⟨ln, sg, v, w, u, nx, kc, pl, z0, z1, fl, o⟩ := S
  obtain ⟨rf, ss, sp, ig, lo, ac, sc, rw, nw, tr, di, ke, ik, cp, cn, be⟩ := R
  have h : kInv N ln sg v nx kc pl z0 z1 fl ss ac sc nw di ke ik := h
  have hI := h.le (Nat.le_add_right N 3000)
  obtain ⟨e1, e2, hl, hv, hM, e3, hz0, hz1, hb, hbd, hbk⟩ := h
  subst e1; subst e2; subst e3
  have hkk : kd_X7_load ln sg = kc_X8_load ln sg cp cn := kd_load hl cp cn
  by_cases hk : kd_X7_load ln sg = 0
  · have hs : sL_load  (ln, sg, v, w, u, nx, kc, pl, z0, z1, fl, o) = (ln, sg, (f_X7_load ln sg v fl).2.1, w, u, nx, 0, pl, z0, z1, (f_X7_load ln sg v fl).2.2, vp_updL o 0 (Int32.toInt64 ((f_X7_load ln sg v fl).1))) := if_pos hk
    have hr : sR_load  (rf, ln, sp, ig, lo, ac, sg, rw, nw, tr, di, ke, fl, cp, cn, be) = (0, ln, (f_X8_load ln sg cp cn fl).2.2.1, (f_X8_load ln sg cp cn fl).2.1, (f_X8_load ln sg cp cn fl).2.2.2.1, 0, sg, (f_X8_load ln sg cp cn fl).2.2.2.2.1, (f_X8_load ln sg cp cn fl).2.2.2.2.2.2.2.1, tr, di, ke, (f_X8_load ln sg cp cn fl).2.2.2.2.2.2.2.2, (f_X8_load ln sg cp cn fl).2.2.2.2.2.1, (f_X8_load ln sg cp cn fl).2.2.2.2.2.2.1, be) := if_pos (hkk.symm.trans hk)
    have hb2 : bR_load  (rf, ln, sp, ig, lo, ac, sg, rw, nw, tr, di, ke, fl, cp, cn, be) = ((f_X8_load ln sg cp cn fl).1) := if_pos (hkk.symm.trans hk)
    have hA := ans_load hl v cp cn fl hk
    rw [hs, hr, hb2]
    exact ⟨⟨rfl, rfl, hl, hA.2.1, pMem_forget hM di, hA.2.2.1, fun q => absurd (fl_none fl 0 (by decide)) q, fun q => absurd (fl_none fl 1 (by decide)) q, hA.2.2.2.le (Nat.le_add_left 3000 N), fun k hk9 => absurd hk9 (Nat.not_lt_zero _), fun j hj q => absurd (fl_none fl j hj) q⟩, hk, fun _ => updL_e o ((f_X7_load ln sg v fl).1) ((f_X8_load ln sg cp cn fl).1) (hA.1)⟩
  · have hs : sL_load  (ln, sg, v, w, u, nx, kc, pl, z0, z1, fl, o) = (ln, sg, v, w, u, nx, kc, pl, z0, z1, fl, o) := if_neg hk
    have hr : sR_load  (rf, ln, sp, ig, lo, ac, sg, rw, nw, tr, di, ke, fl, cp, cn, be) = (kc_X8_load ln sg cp cn, ln, (tR ln sg cp cn).2.1, (tR ln sg cp cn).1, (tR ln sg cp cn).2.2.1, ac, sg, (tR ln sg cp cn).2.2.2.1, nw, tr, di, ke, fl, (tR ln sg cp cn).2.2.2.2.1, (tR ln sg cp cn).2.2.2.2.2, be) := if_neg (fun q => hk (hkk.trans q))
    rw [hs, hr]
    exact ⟨hI, hkk, fun q => absurd q hk⟩
set_option maxHeartbeats 2000000 in
theorem inv_about {N : Nat} {S : KC} {R : KR} (a1 : Int32) (h : INV N S R) (hN : N < 2 ^ 29) : INV (N + 3000) (sL_about a1 S) (sR_about a1 R) ∧ kd_X7_about a1 = (sR_about a1 R).1 ∧ (kd_X7_about a1 = 0 → (sL_about a1 S).2.2.2.2.2.2.2.2.2.2.2 0 = Int32.toInt64 (bR_about a1 R)) := by
  obtain ⟨ln, sg, v, w, u, nx, kc, pl, z0, z1, fl, o⟩ := S
  obtain ⟨rf, ss, sp, ig, lo, ac, sc, rw, nw, tr, di, ke, ik, cp, cn, be⟩ := R
  have h : kInv N ln sg v nx kc pl z0 z1 fl ss ac sc nw di ke ik := h
  have hI := h.le (Nat.le_add_right N 3000)
  obtain ⟨e1, e2, hl, hv, hM, e3, hz0, hz1, hb, hbd, hbk⟩ := h
  subst e1; subst e2; subst e3
  have hkk : kd_X7_about a1 = kc_X8_about a1 := kd_about a1
  by_cases hk : kd_X7_about a1 = 0
  · have hs : sL_about a1 (ln, sg, v, w, u, nx, kc, pl, z0, z1, fl, o) = (ln, sg, v, w, u, nx, kc, pl, z0, z1, fl, vp_updL o 0 (Int32.toInt64 (f_X7_about v a1))) := if_pos hk
    have hr : sR_about a1 (rf, ln, sp, ig, lo, ac, sg, rw, nw, tr, di, ke, fl, cp, cn, be) = (0, ln, sp, ig, lo, ac, sg, rw, nw, tr, di, ke, fl, cp, cn, be) := if_pos (hkk.symm.trans hk)
    have hb2 : bR_about a1 (rf, ln, sp, ig, lo, ac, sg, rw, nw, tr, di, ke, fl, cp, cn, be) = (f_X8_about nw a1) := if_pos (hkk.symm.trans hk)
    have c1 : ¬ f_X7_isWithin a1 0 8 = 0 := fun q => by
      unfold kd_X7_about at hk
      rw [if_pos q] at hk
      exact absurd hk (by decide)
    rw [hs, hr, hb2]
    exact ⟨hI, hk, fun _ => updL_e o (f_X7_about v a1) (f_X8_about nw a1) (ans_about hv c1)⟩
  · have hs : sL_about a1 (ln, sg, v, w, u, nx, kc, pl, z0, z1, fl, o) = (ln, sg, v, w, u, nx, kc, pl, z0, z1, fl, o) := if_neg hk
    have hr : sR_about a1 (rf, ln, sp, ig, lo, ac, sg, rw, nw, tr, di, ke, fl, cp, cn, be) = (kc_X8_about a1, ln, sp, ig, lo, ac, sg, rw, nw, tr, di, ke, fl, cp, cn, be) := if_neg (fun q => hk (hkk.trans q))
    rw [hs, hr]
    exact ⟨hI, hkk, fun q => absurd q hk⟩
set_option maxHeartbeats 2000000 in
theorem inv_part {N : Nat} {S : KC} {R : KR} (a1 : Int32) (a2 : Int32) (h : INV N S R) (hN : N < 2 ^ 29) : INV (N + 3000) (sL_part a1 a2 S) (sR_part a1 a2 R) ∧ kd_X7_part S.2.2.1 a1 a2 = (sR_part a1 a2 R).1 ∧ (kd_X7_part S.2.2.1 a1 a2 = 0 → (sL_part a1 a2 S).2.2.2.2.2.2.2.2.2.2.2 0 = Int32.toInt64 (bR_part a1 a2 R)) := by
  obtain ⟨ln, sg, v, w, u, nx, kc, pl, z0, z1, fl, o⟩ := S
  obtain ⟨rf, ss, sp, ig, lo, ac, sc, rw, nw, tr, di, ke, ik, cp, cn, be⟩ := R
  have h : kInv N ln sg v nx kc pl z0 z1 fl ss ac sc nw di ke ik := h
  have hI := h.le (Nat.le_add_right N 3000)
  obtain ⟨e1, e2, hl, hv, hM, e3, hz0, hz1, hb, hbd, hbk⟩ := h
  subst e1; subst e2; subst e3
  have hkk : kd_X7_part v a1 a2 = kc_X8_part nw a1 a2 := kd_part hv a1 a2
  by_cases hk : kd_X7_part v a1 a2 = 0
  · have hs : sL_part a1 a2 (ln, sg, v, w, u, nx, kc, pl, z0, z1, fl, o) = (ln, sg, v, w, u, nx, kc, pl, z0, z1, fl, vp_updL o 0 (Int32.toInt64 (f_X7_part v a1 a2))) := if_pos hk
    have hr : sR_part a1 a2 (rf, ln, sp, ig, lo, ac, sg, rw, nw, tr, di, ke, fl, cp, cn, be) = (0, ln, sp, ig, lo, ac, sg, rw, nw, tr, di, ke, fl, cp, cn, be) := if_pos (hkk.symm.trans hk)
    have hb2 : bR_part a1 a2 (rf, ln, sp, ig, lo, ac, sg, rw, nw, tr, di, ke, fl, cp, cn, be) = (f_X8_part nw a1 a2) := if_pos (hkk.symm.trans hk)
    have c1 : ¬ f_X4_hasPart v.1 a1 = 0 := fun q => by
      unfold kd_X7_part at hk
      rw [if_pos q] at hk
      exact absurd hk (by decide)
    have c2 : ¬ f_X7_isWithin a2 0 8 = 0 := fun q => by
      unfold kd_X7_part at hk
      rw [if_neg c1, if_pos q] at hk
      exact absurd hk (by decide)
    rw [hs, hr, hb2]
    exact ⟨hI, hk, fun _ => updL_e o (f_X7_part v a1 a2) (f_X8_part nw a1 a2) (ans_part hv c1 c2)⟩
  · have hs : sL_part a1 a2 (ln, sg, v, w, u, nx, kc, pl, z0, z1, fl, o) = (ln, sg, v, w, u, nx, kc, pl, z0, z1, fl, o) := if_neg hk
    have hr : sR_part a1 a2 (rf, ln, sp, ig, lo, ac, sg, rw, nw, tr, di, ke, fl, cp, cn, be) = (kc_X8_part nw a1 a2, ln, sp, ig, lo, ac, sg, rw, nw, tr, di, ke, fl, cp, cn, be) := if_neg (fun q => hk (hkk.trans q))
    rw [hs, hr]
    exact ⟨hI, hkk, fun q => absurd q hk⟩
set_option maxHeartbeats 2000000 in
theorem inv_contract {N : Nat} {S : KC} {R : KR} (a1 : Int32) (a2 : Int32) (a3 : Int32) (h : INV N S R) (hN : N < 2 ^ 29) : INV (N + 3000) (sL_contract a1 a2 a3 S) (sR_contract a1 a2 a3 R) ∧ kd_X7_contract S.2.2.1 a1 a2 a3 = (sR_contract a1 a2 a3 R).1 ∧ (kd_X7_contract S.2.2.1 a1 a2 a3 = 0 → (sL_contract a1 a2 a3 S).2.2.2.2.2.2.2.2.2.2.2 0 = Int32.toInt64 (bR_contract a1 a2 a3 R)) := by
  obtain ⟨ln, sg, v, w, u, nx, kc, pl, z0, z1, fl, o⟩ := S
  obtain ⟨rf, ss, sp, ig, lo, ac, sc, rw, nw, tr, di, ke, ik, cp, cn, be⟩ := R
  have h : kInv N ln sg v nx kc pl z0 z1 fl ss ac sc nw di ke ik := h
  have hI := h.le (Nat.le_add_right N 3000)
  obtain ⟨e1, e2, hl, hv, hM, e3, hz0, hz1, hb, hbd, hbk⟩ := h
  subst e1; subst e2; subst e3
  have hkk : kd_X7_contract v a1 a2 a3 = kc_X8_contract nw a1 a2 a3 := kd_contract hv a1 a2 a3
  by_cases hk : kd_X7_contract v a1 a2 a3 = 0
  · have hs : sL_contract a1 a2 a3 (ln, sg, v, w, u, nx, kc, pl, z0, z1, fl, o) = (ln, sg, v, w, u, nx, kc, pl, z0, z1, fl, vp_updL o 0 (Int32.toInt64 (f_X7_contract v a1 a2 a3))) := if_pos hk
    have hr : sR_contract a1 a2 a3 (rf, ln, sp, ig, lo, ac, sg, rw, nw, tr, di, ke, fl, cp, cn, be) = (0, ln, sp, ig, lo, ac, sg, rw, nw, tr, di, ke, fl, cp, cn, be) := if_pos (hkk.symm.trans hk)
    have hb2 : bR_contract a1 a2 a3 (rf, ln, sp, ig, lo, ac, sg, rw, nw, tr, di, ke, fl, cp, cn, be) = (f_X8_contract nw a1 a2 a3) := if_pos (hkk.symm.trans hk)
    have c1 : ¬ f_X1_isThere v.2.2.2.2.2.2.2.1 a1 a2 = 0 := fun q => by
      unfold kd_X7_contract at hk
      rw [if_pos q] at hk
      exact absurd hk (by decide)
    have c2 : ¬ f_X7_isWithin a3 0 3 = 0 := fun q => by
      unfold kd_X7_contract at hk
      rw [if_neg c1, if_pos q] at hk
      exact absurd hk (by decide)
    rw [hs, hr, hb2]
    exact ⟨hI, hk, fun _ => updL_e o (f_X7_contract v a1 a2 a3) (f_X8_contract nw a1 a2 a3) (ans_contract hv c1 c2)⟩
  · have hs : sL_contract a1 a2 a3 (ln, sg, v, w, u, nx, kc, pl, z0, z1, fl, o) = (ln, sg, v, w, u, nx, kc, pl, z0, z1, fl, o) := if_neg hk
    have hr : sR_contract a1 a2 a3 (rf, ln, sp, ig, lo, ac, sg, rw, nw, tr, di, ke, fl, cp, cn, be) = (kc_X8_contract nw a1 a2 a3, ln, sp, ig, lo, ac, sg, rw, nw, tr, di, ke, fl, cp, cn, be) := if_neg (fun q => hk (hkk.trans q))
    rw [hs, hr]
    exact ⟨hI, hkk, fun q => absurd q hk⟩
set_option maxHeartbeats 2000000 in
theorem inv_blame {N : Nat} {S : KC} {R : KR} (a1 : Int32) (a2 : Int32) (h : INV N S R) (hN : N < 2 ^ 29) : INV (N + 3000) (sL_blame a1 a2 S) (sR_blame a1 a2 R) ∧ kd_X7_blame a1 a2 = (sR_blame a1 a2 R).1 ∧ (kd_X7_blame a1 a2 = 0 → (sL_blame a1 a2 S).2.2.2.2.2.2.2.2.2.2.2 0 = Int32.toInt64 (bR_blame a1 a2 R)) := by
  obtain ⟨ln, sg, v, w, u, nx, kc, pl, z0, z1, fl, o⟩ := S
  obtain ⟨rf, ss, sp, ig, lo, ac, sc, rw, nw, tr, di, ke, ik, cp, cn, be⟩ := R
  have h : kInv N ln sg v nx kc pl z0 z1 fl ss ac sc nw di ke ik := h
  have hI := h.le (Nat.le_add_right N 3000)
  obtain ⟨e1, e2, hl, hv, hM, e3, hz0, hz1, hb, hbd, hbk⟩ := h
  subst e1; subst e2; subst e3
  have hkk : kd_X7_blame a1 a2 = kc_X8_blame a1 a2 := kd_blame a1 a2
  by_cases hk : kd_X7_blame a1 a2 = 0
  · have hs : sL_blame a1 a2 (ln, sg, v, w, u, nx, kc, pl, z0, z1, fl, o) = (ln, sg, v, w, u, nx, kc, pl, z0, z1, fl, vp_updL o 0 (Int32.toInt64 (f_X7_blame v a1 a2))) := if_pos hk
    have hr : sR_blame a1 a2 (rf, ln, sp, ig, lo, ac, sg, rw, nw, tr, di, ke, fl, cp, cn, be) = (0, ln, sp, ig, lo, ac, sg, rw, nw, tr, di, ke, fl, cp, cn, be) := if_pos (hkk.symm.trans hk)
    have hb2 : bR_blame a1 a2 (rf, ln, sp, ig, lo, ac, sg, rw, nw, tr, di, ke, fl, cp, cn, be) = (f_X8_blame nw a1 a2) := if_pos (hkk.symm.trans hk)
    have c1 : ¬ f_X7_isWithin a1 0 9 = 0 := fun q => by
      unfold kd_X7_blame at hk
      rw [if_pos q] at hk
      exact absurd hk (by decide)
    have c2 : ¬ f_X7_isWithin a2 0 5 = 0 := fun q => by
      unfold kd_X7_blame at hk
      rw [if_neg c1, if_pos q] at hk
      exact absurd hk (by decide)
    rw [hs, hr, hb2]
    exact ⟨hI, hk, fun _ => updL_e o (f_X7_blame v a1 a2) (f_X8_blame nw a1 a2) (ans_blame hv c1 c2)⟩
  · have hs : sL_blame a1 a2 (ln, sg, v, w, u, nx, kc, pl, z0, z1, fl, o) = (ln, sg, v, w, u, nx, kc, pl, z0, z1, fl, o) := if_neg hk
    have hr : sR_blame a1 a2 (rf, ln, sp, ig, lo, ac, sg, rw, nw, tr, di, ke, fl, cp, cn, be) = (kc_X8_blame a1 a2, ln, sp, ig, lo, ac, sg, rw, nw, tr, di, ke, fl, cp, cn, be) := if_neg (fun q => hk (hkk.trans q))
    rw [hs, hr]
    exact ⟨hI, hkk, fun q => absurd q hk⟩
set_option maxHeartbeats 2000000 in
theorem inv_add {N : Nat} {S : KC} {R : KR} (a1 : Int32) (a2 : Int32) (h : INV N S R) (hN : N < 2 ^ 29) : INV (N + 3000) (sL_add a1 a2 S) (sR_add a1 a2 R) ∧ kd_X7_add S.2.2.1 a1 a2 = (sR_add a1 a2 R).1 ∧ (kd_X7_add S.2.2.1 a1 a2 = 0 → (sL_add a1 a2 S).2.2.2.2.2.2.2.2.2.2.2 0 = Int32.toInt64 (bR_add a1 a2 R)) := by
  obtain ⟨ln, sg, v, w, u, nx, kc, pl, z0, z1, fl, o⟩ := S
  obtain ⟨rf, ss, sp, ig, lo, ac, sc, rw, nw, tr, di, ke, ik, cp, cn, be⟩ := R
  have h : kInv N ln sg v nx kc pl z0 z1 fl ss ac sc nw di ke ik := h
  have hI := h.le (Nat.le_add_right N 3000)
  obtain ⟨e1, e2, hl, hv, hM, e3, hz0, hz1, hb, hbd, hbk⟩ := h
  subst e1; subst e2; subst e3
  have hkk : kd_X7_add v a1 a2 = kc_X8_add nw a1 a2 := kd_add hv a1 a2
  by_cases hk : kd_X7_add v a1 a2 = 0
  · have hs : sL_add a1 a2 (ln, sg, v, w, u, nx, kc, pl, z0, z1, fl, o) = (ln, sg, (f_X7_add nx kc v pl a1 a2).2.2.2.1, w, u, (f_X7_add nx kc v pl a1 a2).2.1, (f_X7_add nx kc v pl a1 a2).2.2.1, ((f_X7_add nx kc v pl a1 a2).2.2.2.2), z0, z1, fl, vp_updL o 0 (Int32.toInt64 ((f_X7_add nx kc v pl a1 a2).1))) := if_pos hk
    have hr : sR_add a1 a2 (rf, ln, sp, ig, lo, ac, sg, rw, nw, tr, di, ke, fl, cp, cn, be) = (0, ln, sp, ig, lo, (f_X8_add ac nw di a1 a2).2.1, sg, rw, (f_X8_add ac nw di a1 a2).2.2.2, tr, (f_X8_add ac nw di a1 a2).2.2.1, ke, fl, cp, cn, be) := if_pos (hkk.symm.trans hk)
    have hb2 : bR_add a1 a2 (rf, ln, sp, ig, lo, ac, sg, rw, nw, tr, di, ke, fl, cp, cn, be) = ((f_X8_add ac nw di a1 a2).1) := if_pos (hkk.symm.trans hk)
    have hA := act_add hv hM hk
    have hB := bd_add (ac := ac) (di := di) (a1 := a1) (a2 := a2) hI.2.2.2.2.2.2.2.2.1
    have hR := rem_bd hM.2.2.1 hI.2.2.2.2.2.2.2.2.1 hI.2.2.2.2.2.2.2.2.2.1
    rw [← hB.2.1, ← hB.2.2] at hR
    rw [hs, hr, hb2]
    exact ⟨⟨rfl, rfl, hl, hA.2.2, hA.2.1, rfl, hz0, hz1, hB.1, hR, hI.2.2.2.2.2.2.2.2.2.2⟩, hk, fun _ => updL_e o ((f_X7_add nx kc v pl a1 a2).1) ((f_X8_add ac nw di a1 a2).1) (hA.1)⟩
  · have hs : sL_add a1 a2 (ln, sg, v, w, u, nx, kc, pl, z0, z1, fl, o) = (ln, sg, v, w, u, nx, kc, pl, z0, z1, fl, o) := if_neg hk
    have hr : sR_add a1 a2 (rf, ln, sp, ig, lo, ac, sg, rw, nw, tr, di, ke, fl, cp, cn, be) = (kc_X8_add nw a1 a2, ln, sp, ig, lo, ac, sg, rw, nw, tr, di, ke, fl, cp, cn, be) := if_neg (fun q => hk (hkk.trans q))
    rw [hs, hr]
    exact ⟨hI, hkk, fun q => absurd q hk⟩
set_option maxHeartbeats 2000000 in
theorem inv_chain {N : Nat} {S : KC} {R : KR} (a1 : Int32) (a2 : Int32) (a3 : Int32) (h : INV N S R) (hN : N < 2 ^ 29) : INV (N + 3000) (sL_chain a1 a2 a3 S) (sR_chain a1 a2 a3 R) ∧ kd_X7_chain S.2.2.1 a1 a2 a3 = (sR_chain a1 a2 a3 R).1 ∧ (kd_X7_chain S.2.2.1 a1 a2 a3 = 0 → (sL_chain a1 a2 a3 S).2.2.2.2.2.2.2.2.2.2.2 0 = Int32.toInt64 (bR_chain a1 a2 a3 R)) := by
  obtain ⟨ln, sg, v, w, u, nx, kc, pl, z0, z1, fl, o⟩ := S
  obtain ⟨rf, ss, sp, ig, lo, ac, sc, rw, nw, tr, di, ke, ik, cp, cn, be⟩ := R
  have h : kInv N ln sg v nx kc pl z0 z1 fl ss ac sc nw di ke ik := h
  have hI := h.le (Nat.le_add_right N 3000)
  obtain ⟨e1, e2, hl, hv, hM, e3, hz0, hz1, hb, hbd, hbk⟩ := h
  subst e1; subst e2; subst e3
  have hkk : kd_X7_chain v a1 a2 a3 = kc_X8_chain nw a1 a2 a3 := kd_chain hv a1 a2 a3
  by_cases hk : kd_X7_chain v a1 a2 a3 = 0
  · have hs : sL_chain a1 a2 a3 (ln, sg, v, w, u, nx, kc, pl, z0, z1, fl, o) = (ln, sg, (f_X7_chain nx kc v pl a1 a2 a3).2.2.2.1, w, u, (f_X7_chain nx kc v pl a1 a2 a3).2.1, (f_X7_chain nx kc v pl a1 a2 a3).2.2.1, ((f_X7_chain nx kc v pl a1 a2 a3).2.2.2.2), z0, z1, fl, vp_updL o 0 (Int32.toInt64 ((f_X7_chain nx kc v pl a1 a2 a3).1))) := if_pos hk
    have hr : sR_chain a1 a2 a3 (rf, ln, sp, ig, lo, ac, sg, rw, nw, tr, di, ke, fl, cp, cn, be) = (0, ln, sp, ig, lo, (f_X8_chain ac nw di a1 a2 a3).2.1, sg, rw, (f_X8_chain ac nw di a1 a2 a3).2.2.2, tr, (f_X8_chain ac nw di a1 a2 a3).2.2.1, ke, fl, cp, cn, be) := if_pos (hkk.symm.trans hk)
    have hb2 : bR_chain a1 a2 a3 (rf, ln, sp, ig, lo, ac, sg, rw, nw, tr, di, ke, fl, cp, cn, be) = ((f_X8_chain ac nw di a1 a2 a3).1) := if_pos (hkk.symm.trans hk)
    have hA := act_chain hv hM hk
    have hB := bd_chain (ac := ac) (di := di) (a1 := a1) (a2 := a2) (a3 := a3) hI.2.2.2.2.2.2.2.2.1
    have hR := rem_bd hM.2.2.1 hI.2.2.2.2.2.2.2.2.1 hI.2.2.2.2.2.2.2.2.2.1
    rw [← hB.2.1, ← hB.2.2] at hR
    rw [hs, hr, hb2]
    exact ⟨⟨rfl, rfl, hl, hA.2.2, hA.2.1, rfl, hz0, hz1, hB.1, hR, hI.2.2.2.2.2.2.2.2.2.2⟩, hk, fun _ => updL_e o ((f_X7_chain nx kc v pl a1 a2 a3).1) ((f_X8_chain ac nw di a1 a2 a3).1) (hA.1)⟩
  · have hs : sL_chain a1 a2 a3 (ln, sg, v, w, u, nx, kc, pl, z0, z1, fl, o) = (ln, sg, v, w, u, nx, kc, pl, z0, z1, fl, o) := if_neg hk
    have hr : sR_chain a1 a2 a3 (rf, ln, sp, ig, lo, ac, sg, rw, nw, tr, di, ke, fl, cp, cn, be) = (kc_X8_chain nw a1 a2 a3, ln, sp, ig, lo, ac, sg, rw, nw, tr, di, ke, fl, cp, cn, be) := if_neg (fun q => hk (hkk.trans q))
    rw [hs, hr]
    exact ⟨hI, hkk, fun q => absurd q hk⟩
set_option maxHeartbeats 2000000 in
theorem inv_net {N : Nat} {S : KC} {R : KR} (a1 : Int32) (a2 : Int32) (h : INV N S R) (hN : N < 2 ^ 29) : INV (N + 3000) (sL_net a1 a2 S) (sR_net a1 a2 R) ∧ kd_X7_net S.2.2.1 a1 a2 = (sR_net a1 a2 R).1 ∧ (kd_X7_net S.2.2.1 a1 a2 = 0 → (sL_net a1 a2 S).2.2.2.2.2.2.2.2.2.2.2 0 = Int32.toInt64 (bR_net a1 a2 R)) := by
  obtain ⟨ln, sg, v, w, u, nx, kc, pl, z0, z1, fl, o⟩ := S
  obtain ⟨rf, ss, sp, ig, lo, ac, sc, rw, nw, tr, di, ke, ik, cp, cn, be⟩ := R
  have h : kInv N ln sg v nx kc pl z0 z1 fl ss ac sc nw di ke ik := h
  have hI := h.le (Nat.le_add_right N 3000)
  obtain ⟨e1, e2, hl, hv, hM, e3, hz0, hz1, hb, hbd, hbk⟩ := h
  subst e1; subst e2; subst e3
  have hkk : kd_X7_net v a1 a2 = kc_X8_net nw a1 a2 := kd_net hv a1 a2
  by_cases hk : kd_X7_net v a1 a2 = 0
  · have hs : sL_net a1 a2 (ln, sg, v, w, u, nx, kc, pl, z0, z1, fl, o) = (ln, sg, (f_X7_net nx kc v pl a1 a2).2.2.2.1, w, u, (f_X7_net nx kc v pl a1 a2).2.1, (f_X7_net nx kc v pl a1 a2).2.2.1, ((f_X7_net nx kc v pl a1 a2).2.2.2.2), z0, z1, fl, vp_updL o 0 (Int32.toInt64 ((f_X7_net nx kc v pl a1 a2).1))) := if_pos hk
    have hr : sR_net a1 a2 (rf, ln, sp, ig, lo, ac, sg, rw, nw, tr, di, ke, fl, cp, cn, be) = (0, ln, sp, ig, lo, (f_X8_net ac nw di a1 a2).2.1, sg, rw, (f_X8_net ac nw di a1 a2).2.2.2, tr, (f_X8_net ac nw di a1 a2).2.2.1, ke, fl, cp, cn, be) := if_pos (hkk.symm.trans hk)
    have hb2 : bR_net a1 a2 (rf, ln, sp, ig, lo, ac, sg, rw, nw, tr, di, ke, fl, cp, cn, be) = ((f_X8_net ac nw di a1 a2).1) := if_pos (hkk.symm.trans hk)
    have hA := act_net hv hM hk
    have hB := bd_net (ac := ac) (di := di) (a1 := a1) (a2 := a2) hI.2.2.2.2.2.2.2.2.1
    have hR := rem_bd hM.2.2.1 hI.2.2.2.2.2.2.2.2.1 hI.2.2.2.2.2.2.2.2.2.1
    rw [← hB.2.1, ← hB.2.2] at hR
    rw [hs, hr, hb2]
    exact ⟨⟨rfl, rfl, hl, hA.2.2, hA.2.1, rfl, hz0, hz1, hB.1, hR, hI.2.2.2.2.2.2.2.2.2.2⟩, hk, fun _ => updL_e o ((f_X7_net nx kc v pl a1 a2).1) ((f_X8_net ac nw di a1 a2).1) (hA.1)⟩
  · have hs : sL_net a1 a2 (ln, sg, v, w, u, nx, kc, pl, z0, z1, fl, o) = (ln, sg, v, w, u, nx, kc, pl, z0, z1, fl, o) := if_neg hk
    have hr : sR_net a1 a2 (rf, ln, sp, ig, lo, ac, sg, rw, nw, tr, di, ke, fl, cp, cn, be) = (kc_X8_net nw a1 a2, ln, sp, ig, lo, ac, sg, rw, nw, tr, di, ke, fl, cp, cn, be) := if_neg (fun q => hk (hkk.trans q))
    rw [hs, hr]
    exact ⟨hI, hkk, fun q => absurd q hk⟩
set_option maxHeartbeats 2000000 in
theorem inv_own {N : Nat} {S : KC} {R : KR} (a1 : Int32) (a2 : Int32) (a3 : Int32) (a4 : Int32) (a5 : Int32) (h : INV N S R) (hN : N < 2 ^ 29) : INV (N + 3000) (sL_own a1 a2 a3 a4 a5 S) (sR_own a1 a2 a3 a4 a5 R) ∧ kd_X7_own S.2.2.1 a1 a2 a3 a4 a5 = (sR_own a1 a2 a3 a4 a5 R).1 ∧ (kd_X7_own S.2.2.1 a1 a2 a3 a4 a5 = 0 → (sL_own a1 a2 a3 a4 a5 S).2.2.2.2.2.2.2.2.2.2.2 0 = Int32.toInt64 (bR_own a1 a2 a3 a4 a5 R)) := by
  obtain ⟨ln, sg, v, w, u, nx, kc, pl, z0, z1, fl, o⟩ := S
  obtain ⟨rf, ss, sp, ig, lo, ac, sc, rw, nw, tr, di, ke, ik, cp, cn, be⟩ := R
  have h : kInv N ln sg v nx kc pl z0 z1 fl ss ac sc nw di ke ik := h
  have hI := h.le (Nat.le_add_right N 3000)
  obtain ⟨e1, e2, hl, hv, hM, e3, hz0, hz1, hb, hbd, hbk⟩ := h
  subst e1; subst e2; subst e3
  have hkk : kd_X7_own v a1 a2 a3 a4 a5 = kc_X8_own nw a1 a2 a3 a4 a5 := kd_own hv a1 a2 a3 a4 a5
  by_cases hk : kd_X7_own v a1 a2 a3 a4 a5 = 0
  · have hs : sL_own a1 a2 a3 a4 a5 (ln, sg, v, w, u, nx, kc, pl, z0, z1, fl, o) = (ln, sg, (f_X7_own nx kc v pl a1 a2 a3 a4 a5).2.2.2.1, w, u, (f_X7_own nx kc v pl a1 a2 a3 a4 a5).2.1, (f_X7_own nx kc v pl a1 a2 a3 a4 a5).2.2.1, ((f_X7_own nx kc v pl a1 a2 a3 a4 a5).2.2.2.2), z0, z1, fl, vp_updL o 0 (Int32.toInt64 ((f_X7_own nx kc v pl a1 a2 a3 a4 a5).1))) := if_pos hk
    have hr : sR_own a1 a2 a3 a4 a5 (rf, ln, sp, ig, lo, ac, sg, rw, nw, tr, di, ke, fl, cp, cn, be) = (0, ln, sp, ig, lo, (f_X8_own ac nw di a1 a2 a3 a4 a5).2.1, sg, rw, (f_X8_own ac nw di a1 a2 a3 a4 a5).2.2.2, tr, (f_X8_own ac nw di a1 a2 a3 a4 a5).2.2.1, ke, fl, cp, cn, be) := if_pos (hkk.symm.trans hk)
    have hb2 : bR_own a1 a2 a3 a4 a5 (rf, ln, sp, ig, lo, ac, sg, rw, nw, tr, di, ke, fl, cp, cn, be) = ((f_X8_own ac nw di a1 a2 a3 a4 a5).1) := if_pos (hkk.symm.trans hk)
    have hA := act_own hv hM hk
    have hB := bd_own (ac := ac) (di := di) (a1 := a1) (a2 := a2) (a3 := a3) (a4 := a4) (a5 := a5) hI.2.2.2.2.2.2.2.2.1
    have hR := rem_bd hM.2.2.1 hI.2.2.2.2.2.2.2.2.1 hI.2.2.2.2.2.2.2.2.2.1
    rw [← hB.2.1, ← hB.2.2] at hR
    rw [hs, hr, hb2]
    exact ⟨⟨rfl, rfl, hl, hA.2.2, hA.2.1, rfl, hz0, hz1, hB.1, hR, hI.2.2.2.2.2.2.2.2.2.2⟩, hk, fun _ => updL_e o ((f_X7_own nx kc v pl a1 a2 a3 a4 a5).1) ((f_X8_own ac nw di a1 a2 a3 a4 a5).1) (hA.1)⟩
  · have hs : sL_own a1 a2 a3 a4 a5 (ln, sg, v, w, u, nx, kc, pl, z0, z1, fl, o) = (ln, sg, v, w, u, nx, kc, pl, z0, z1, fl, o) := if_neg hk
    have hr : sR_own a1 a2 a3 a4 a5 (rf, ln, sp, ig, lo, ac, sg, rw, nw, tr, di, ke, fl, cp, cn, be) = (kc_X8_own nw a1 a2 a3 a4 a5, ln, sp, ig, lo, ac, sg, rw, nw, tr, di, ke, fl, cp, cn, be) := if_neg (fun q => hk (hkk.trans q))
    rw [hs, hr]
    exact ⟨hI, hkk, fun q => absurd q hk⟩
set_option maxHeartbeats 2000000 in
theorem inv_link {N : Nat} {S : KC} {R : KR} (a1 : Int32) (a2 : Int32) (a3 : Int32) (a4 : Int32) (a5 : Int32) (a6 : Int32) (h : INV N S R) (hN : N < 2 ^ 29) : INV (N + 3000) (sL_link a1 a2 a3 a4 a5 a6 S) (sR_link a1 a2 a3 a4 a5 a6 R) ∧ kd_X7_link S.2.2.1 a1 a2 a3 a4 a5 a6 = (sR_link a1 a2 a3 a4 a5 a6 R).1 ∧ (kd_X7_link S.2.2.1 a1 a2 a3 a4 a5 a6 = 0 → (sL_link a1 a2 a3 a4 a5 a6 S).2.2.2.2.2.2.2.2.2.2.2 0 = Int32.toInt64 (bR_link a1 a2 a3 a4 a5 a6 R)) := by
  obtain ⟨ln, sg, v, w, u, nx, kc, pl, z0, z1, fl, o⟩ := S
  obtain ⟨rf, ss, sp, ig, lo, ac, sc, rw, nw, tr, di, ke, ik, cp, cn, be⟩ := R
  have h : kInv N ln sg v nx kc pl z0 z1 fl ss ac sc nw di ke ik := h
  have hI := h.le (Nat.le_add_right N 3000)
  obtain ⟨e1, e2, hl, hv, hM, e3, hz0, hz1, hb, hbd, hbk⟩ := h
  subst e1; subst e2; subst e3
  have hkk : kd_X7_link v a1 a2 a3 a4 a5 a6 = kc_X8_link nw a1 a2 a3 a4 a5 a6 := kd_link hv a1 a2 a3 a4 a5 a6
  by_cases hk : kd_X7_link v a1 a2 a3 a4 a5 a6 = 0
  · have hs : sL_link a1 a2 a3 a4 a5 a6 (ln, sg, v, w, u, nx, kc, pl, z0, z1, fl, o) = (ln, sg, (f_X7_link nx kc v pl a1 a2 a3 a4 a5 a6).2.2.2.1, w, u, (f_X7_link nx kc v pl a1 a2 a3 a4 a5 a6).2.1, (f_X7_link nx kc v pl a1 a2 a3 a4 a5 a6).2.2.1, ((f_X7_link nx kc v pl a1 a2 a3 a4 a5 a6).2.2.2.2), z0, z1, fl, vp_updL o 0 (Int32.toInt64 ((f_X7_link nx kc v pl a1 a2 a3 a4 a5 a6).1))) := if_pos hk
    have hr : sR_link a1 a2 a3 a4 a5 a6 (rf, ln, sp, ig, lo, ac, sg, rw, nw, tr, di, ke, fl, cp, cn, be) = (0, ln, sp, ig, lo, (f_X8_link ac nw di a1 a2 a3 a4 a5 a6).2.1, sg, rw, (f_X8_link ac nw di a1 a2 a3 a4 a5 a6).2.2.2, tr, (f_X8_link ac nw di a1 a2 a3 a4 a5 a6).2.2.1, ke, fl, cp, cn, be) := if_pos (hkk.symm.trans hk)
    have hb2 : bR_link a1 a2 a3 a4 a5 a6 (rf, ln, sp, ig, lo, ac, sg, rw, nw, tr, di, ke, fl, cp, cn, be) = ((f_X8_link ac nw di a1 a2 a3 a4 a5 a6).1) := if_pos (hkk.symm.trans hk)
    have hA := act_link hv hM hk
    have hB := bd_link (ac := ac) (di := di) (a1 := a1) (a2 := a2) (a3 := a3) (a4 := a4) (a5 := a5) (a6 := a6) hI.2.2.2.2.2.2.2.2.1
    have hR := rem_bd hM.2.2.1 hI.2.2.2.2.2.2.2.2.1 hI.2.2.2.2.2.2.2.2.2.1
    rw [← hB.2.1, ← hB.2.2] at hR
    rw [hs, hr, hb2]
    exact ⟨⟨rfl, rfl, hl, hA.2.2, hA.2.1, rfl, hz0, hz1, hB.1, hR, hI.2.2.2.2.2.2.2.2.2.2⟩, hk, fun _ => updL_e o ((f_X7_link nx kc v pl a1 a2 a3 a4 a5 a6).1) ((f_X8_link ac nw di a1 a2 a3 a4 a5 a6).1) (hA.1)⟩
  · have hs : sL_link a1 a2 a3 a4 a5 a6 (ln, sg, v, w, u, nx, kc, pl, z0, z1, fl, o) = (ln, sg, v, w, u, nx, kc, pl, z0, z1, fl, o) := if_neg hk
    have hr : sR_link a1 a2 a3 a4 a5 a6 (rf, ln, sp, ig, lo, ac, sg, rw, nw, tr, di, ke, fl, cp, cn, be) = (kc_X8_link nw a1 a2 a3 a4 a5 a6, ln, sp, ig, lo, ac, sg, rw, nw, tr, di, ke, fl, cp, cn, be) := if_neg (fun q => hk (hkk.trans q))
    rw [hs, hr]
    exact ⟨hI, hkk, fun q => absurd q hk⟩
set_option maxHeartbeats 2000000 in
theorem inv_drop {N : Nat} {S : KC} {R : KR} (a1 : Int32) (a2 : Int32) (h : INV N S R) (hN : N < 2 ^ 29) : INV (N + 3000) (sL_drop a1 a2 S) (sR_drop a1 a2 R) ∧ kd_X7_drop S.2.2.1 a1 a2 = (sR_drop a1 a2 R).1 ∧ (kd_X7_drop S.2.2.1 a1 a2 = 0 → (sL_drop a1 a2 S).2.2.2.2.2.2.2.2.2.2.2 0 = Int32.toInt64 (bR_drop a1 a2 R)) := by
  obtain ⟨ln, sg, v, w, u, nx, kc, pl, z0, z1, fl, o⟩ := S
  obtain ⟨rf, ss, sp, ig, lo, ac, sc, rw, nw, tr, di, ke, ik, cp, cn, be⟩ := R
  have h : kInv N ln sg v nx kc pl z0 z1 fl ss ac sc nw di ke ik := h
  have hI := h.le (Nat.le_add_right N 3000)
  obtain ⟨e1, e2, hl, hv, hM, e3, hz0, hz1, hb, hbd, hbk⟩ := h
  subst e1; subst e2; subst e3
  have hkk : kd_X7_drop v a1 a2 = kc_X8_drop nw a1 a2 := kd_drop hv a1 a2
  by_cases hk : kd_X7_drop v a1 a2 = 0
  · have hs : sL_drop a1 a2 (ln, sg, v, w, u, nx, kc, pl, z0, z1, fl, o) = (ln, sg, (f_X7_drop nx kc v pl a1 a2).2.2.2.1, w, u, (f_X7_drop nx kc v pl a1 a2).2.1, (f_X7_drop nx kc v pl a1 a2).2.2.1, ((f_X7_drop nx kc v pl a1 a2).2.2.2.2), z0, z1, fl, vp_updL o 0 (Int32.toInt64 ((f_X7_drop nx kc v pl a1 a2).1))) := if_pos hk
    have hr : sR_drop a1 a2 (rf, ln, sp, ig, lo, ac, sg, rw, nw, tr, di, ke, fl, cp, cn, be) = (0, ln, sp, ig, lo, (f_X8_drop ac nw di a1 a2).2.1, sg, rw, (f_X8_drop ac nw di a1 a2).2.2.2, tr, (f_X8_drop ac nw di a1 a2).2.2.1, ke, fl, cp, cn, be) := if_pos (hkk.symm.trans hk)
    have hb2 : bR_drop a1 a2 (rf, ln, sp, ig, lo, ac, sg, rw, nw, tr, di, ke, fl, cp, cn, be) = ((f_X8_drop ac nw di a1 a2).1) := if_pos (hkk.symm.trans hk)
    have hA := act_drop hv hM hk
    have hB := bd_drop (ac := ac) (di := di) (a1 := a1) (a2 := a2) hI.2.2.2.2.2.2.2.2.1
    have hR := rem_bd hM.2.2.1 hI.2.2.2.2.2.2.2.2.1 hI.2.2.2.2.2.2.2.2.2.1
    rw [← hB.2.1, ← hB.2.2] at hR
    rw [hs, hr, hb2]
    exact ⟨⟨rfl, rfl, hl, hA.2.2, hA.2.1, rfl, hz0, hz1, hB.1, hR, hI.2.2.2.2.2.2.2.2.2.2⟩, hk, fun _ => updL_e o ((f_X7_drop nx kc v pl a1 a2).1) ((f_X8_drop ac nw di a1 a2).1) (hA.1)⟩
  · have hs : sL_drop a1 a2 (ln, sg, v, w, u, nx, kc, pl, z0, z1, fl, o) = (ln, sg, v, w, u, nx, kc, pl, z0, z1, fl, o) := if_neg hk
    have hr : sR_drop a1 a2 (rf, ln, sp, ig, lo, ac, sg, rw, nw, tr, di, ke, fl, cp, cn, be) = (kc_X8_drop nw a1 a2, ln, sp, ig, lo, ac, sg, rw, nw, tr, di, ke, fl, cp, cn, be) := if_neg (fun q => hk (hkk.trans q))
    rw [hs, hr]
    exact ⟨hI, hkk, fun q => absurd q hk⟩
set_option maxHeartbeats 2000000 in
theorem inv_call {N : Nat} {S : KC} {R : KR} (a1 : Int32) (a2 : Int32) (h : INV N S R) (hN : N < 2 ^ 29) : INV (N + 3000) (sL_call a1 a2 S) (sR_call a1 a2 R) ∧ kd_X7_call S.2.2.1 a1 a2 = (sR_call a1 a2 R).1 ∧ (kd_X7_call S.2.2.1 a1 a2 = 0 → (sL_call a1 a2 S).2.2.2.2.2.2.2.2.2.2.2 0 = Int32.toInt64 (bR_call a1 a2 R)) := by
  obtain ⟨ln, sg, v, w, u, nx, kc, pl, z0, z1, fl, o⟩ := S
  obtain ⟨rf, ss, sp, ig, lo, ac, sc, rw, nw, tr, di, ke, ik, cp, cn, be⟩ := R
  have h : kInv N ln sg v nx kc pl z0 z1 fl ss ac sc nw di ke ik := h
  have hI := h.le (Nat.le_add_right N 3000)
  obtain ⟨e1, e2, hl, hv, hM, e3, hz0, hz1, hb, hbd, hbk⟩ := h
  subst e1; subst e2; subst e3
  have hkk : kd_X7_call v a1 a2 = kc_X8_call nw a1 a2 := kd_call hv a1 a2
  by_cases hk : kd_X7_call v a1 a2 = 0
  · have hs : sL_call a1 a2 (ln, sg, v, w, u, nx, kc, pl, z0, z1, fl, o) = (ln, sg, (f_X7_call nx kc v pl a1 a2).2.2.2.1, w, u, (f_X7_call nx kc v pl a1 a2).2.1, (f_X7_call nx kc v pl a1 a2).2.2.1, ((f_X7_call nx kc v pl a1 a2).2.2.2.2), z0, z1, fl, vp_updL o 0 (Int32.toInt64 ((f_X7_call nx kc v pl a1 a2).1))) := if_pos hk
    have hr : sR_call a1 a2 (rf, ln, sp, ig, lo, ac, sg, rw, nw, tr, di, ke, fl, cp, cn, be) = (0, ln, sp, ig, lo, (f_X8_call ac nw di cp cn a1 a2).2.1, sg, rw, (f_X8_call ac nw di cp cn a1 a2).2.2.2.1, tr, (f_X8_call ac nw di cp cn a1 a2).2.2.1, ke, fl, (f_X8_call ac nw di cp cn a1 a2).2.2.2.2.1, (f_X8_call ac nw di cp cn a1 a2).2.2.2.2.2, be) := if_pos (hkk.symm.trans hk)
    have hb2 : bR_call a1 a2 (rf, ln, sp, ig, lo, ac, sg, rw, nw, tr, di, ke, fl, cp, cn, be) = ((f_X8_call ac nw di cp cn a1 a2).1) := if_pos (hkk.symm.trans hk)
    have hA := act_call (cp := cp) (cn := cn) hv hM hk
    have c1 : ¬ f_X4_hasPart v.1 a1 = 0 := fun q => by
      unfold kd_X7_call at hk
      rw [if_pos q] at hk
      exact absurd hk (by decide)
    have hp9 : a1.toNatClampNeg < 10 := part_lt10 hv c1
    have hB : pBd (N + 3000) (h_X8_callIn cp cn nw a1.toNatClampNeg a2).2.1 := (hb.grow (callIn_grow cp cn nw a2 hp9)).le (by omega)
    have hR := rem_bd hM.2.2.1 hI.2.2.2.2.2.2.2.2.1 hI.2.2.2.2.2.2.2.2.2.1
    rw [hs, hr, hb2]
    exact ⟨⟨rfl, rfl, hl, hA.2.2, hA.2.1, rfl, hz0, hz1, hB, hR, hI.2.2.2.2.2.2.2.2.2.2⟩, hk, fun _ => updL_e o ((f_X7_call nx kc v pl a1 a2).1) ((f_X8_call ac nw di cp cn a1 a2).1) (hA.1)⟩
  · have hs : sL_call a1 a2 (ln, sg, v, w, u, nx, kc, pl, z0, z1, fl, o) = (ln, sg, v, w, u, nx, kc, pl, z0, z1, fl, o) := if_neg hk
    have hr : sR_call a1 a2 (rf, ln, sp, ig, lo, ac, sg, rw, nw, tr, di, ke, fl, cp, cn, be) = (kc_X8_call nw a1 a2, ln, sp, ig, lo, ac, sg, rw, nw, tr, di, ke, fl, cp, cn, be) := if_neg (fun q => hk (hkk.trans q))
    rw [hs, hr]
    exact ⟨hI, hkk, fun q => absurd q hk⟩
set_option maxHeartbeats 2000000 in
theorem inv_undo {N : Nat} {S : KC} {R : KR}  (h : INV N S R) (hN : N < 2 ^ 29) : INV (N + 3000) (sL_undo  S) (sR_undo  R) ∧ kd_X7_undo S.2.2.2.2.2.2.1 = (sR_undo  R).1 ∧ (kd_X7_undo S.2.2.2.2.2.2.1 = 0 → (sL_undo  S).2.2.2.2.2.2.2.2.2.2.2 0 = Int32.toInt64 (bR_undo  R)) := by
  obtain ⟨ln, sg, v, w, u, nx, kc, pl, z0, z1, fl, o⟩ := S
  obtain ⟨rf, ss, sp, ig, lo, ac, sc, rw, nw, tr, di, ke, ik, cp, cn, be⟩ := R
  have h : kInv N ln sg v nx kc pl z0 z1 fl ss ac sc nw di ke ik := h
  have hI := h.le (Nat.le_add_right N 3000)
  obtain ⟨e1, e2, hl, hv, hM, e3, hz0, hz1, hb, hbd, hbk⟩ := h
  subst e1; subst e2; subst e3
  have hka : kc = ac := hM.2.1
  subst hka
  have hkk : kd_X7_undo kc = kc_X8_undo kc := kd_undo
  by_cases hk : kd_X7_undo kc = 0
  · have hs : sL_undo  (ln, sg, v, w, u, nx, kc, pl, z0, z1, fl, o) = (ln, sg, (f_X7_undo nx kc pl).2.2.2, w, u, (f_X7_undo nx kc pl).2.1, (f_X7_undo nx kc pl).2.2.1, pl, z0, z1, fl, vp_updL o 0 (Int32.toInt64 (nI ((f_X7_undo nx kc pl).1)))) := if_pos hk
    have hr : sR_undo  (rf, ln, sp, ig, lo, kc, sg, rw, nw, tr, di, ke, fl, cp, cn, be) = (0, ln, sp, ig, lo, (f_X8_undo kc nw di).2.1, sg, rw, (f_X8_undo kc nw di).2.2, tr, di, ke, fl, cp, cn, be) := if_pos (hkk.symm.trans hk)
    have hb2 : bR_undo  (rf, ln, sp, ig, lo, kc, sg, rw, nw, tr, di, ke, fl, cp, cn, be) = (nI ((f_X8_undo kc nw di).1)) := if_pos (hkk.symm.trans hk)
    have hA := act_undo hM (nw := nw) hk
    have c1 : ¬ kc ≤ 0 := fun q => by
      unfold kd_X7_undo at hk
      rw [if_pos q] at hk
      exact absurd hk (by decide)
    have hB : pBd (N + 3000) (f_X8_undo kc nw di).2.2 := back_bd (hI.2.2.2.2.2.2.2.2.2.1 (kc - 1) (by omega))
    rw [hs, hr, hb2]
    exact ⟨⟨rfl, rfl, hl, hA.2.2, hA.2.1, rfl, hz0, hz1, hB, fun k hk9 => hI.2.2.2.2.2.2.2.2.2.1 k (Nat.lt_of_lt_of_le hk9 (Nat.sub_le _ _)), hI.2.2.2.2.2.2.2.2.2.2⟩, hk, fun _ => updL_e o (nI ((f_X7_undo nx kc pl).1)) (nI ((f_X8_undo kc nw di).1)) (hA.1)⟩
  · have hs : sL_undo  (ln, sg, v, w, u, nx, kc, pl, z0, z1, fl, o) = (ln, sg, v, w, u, nx, kc, pl, z0, z1, fl, o) := if_neg hk
    have hr : sR_undo  (rf, ln, sp, ig, lo, kc, sg, rw, nw, tr, di, ke, fl, cp, cn, be) = (kc_X8_undo kc, ln, sp, ig, lo, kc, sg, rw, nw, tr, di, ke, fl, cp, cn, be) := if_neg (fun q => hk (hkk.trans q))
    rw [hs, hr]
    exact ⟨hI, hkk, fun q => absurd q hk⟩
set_option maxHeartbeats 2000000 in
theorem inv_would {N : Nat} {S : KC} {R : KR} (a1 : Int32) (a2 : Int32) (a3 : Int32) (h : INV N S R) (hN : N < 2 ^ 29) : INV (N + 3000) (sL_would a1 a2 a3 S) (sR_would a1 a2 a3 R) ∧ kd_X7_would S.2.2.1 a1 a2 a3 = (sR_would a1 a2 a3 R).1 ∧ (kd_X7_would S.2.2.1 a1 a2 a3 = 0 → (sL_would a1 a2 a3 S).2.2.2.2.2.2.2.2.2.2.2 0 = Int32.toInt64 (bR_would a1 a2 a3 R)) := by
  obtain ⟨ln, sg, v, w, u, nx, kc, pl, z0, z1, fl, o⟩ := S
  obtain ⟨rf, ss, sp, ig, lo, ac, sc, rw, nw, tr, di, ke, ik, cp, cn, be⟩ := R
  have h : kInv N ln sg v nx kc pl z0 z1 fl ss ac sc nw di ke ik := h
  have hI := h.le (Nat.le_add_right N 3000)
  obtain ⟨e1, e2, hl, hv, hM, e3, hz0, hz1, hb, hbd, hbk⟩ := h
  subst e1; subst e2; subst e3
  have hkk : kd_X7_would v a1 a2 a3 = kc_X8_would nw a1 a2 a3 := kd_would hv a1 a2 a3
  by_cases hk : kd_X7_would v a1 a2 a3 = 0
  · have hs : sL_would a1 a2 a3 (ln, sg, v, w, u, nx, kc, pl, z0, z1, fl, o) = (ln, sg, v, w, (f_X7_would v a1 a2 a3).2, nx, kc, pl, z0, z1, fl, vp_updL o 0 (Int32.toInt64 ((f_X7_would v a1 a2 a3).1))) := if_pos hk
    have hr : sR_would a1 a2 a3 (rf, ln, sp, ig, lo, ac, sg, rw, nw, tr, di, ke, fl, cp, cn, be) = (0, ln, sp, ig, lo, ac, sg, rw, nw, (f_X8_would nw cp cn a1 a2 a3).2.1, di, ke, fl, (f_X8_would nw cp cn a1 a2 a3).2.2.1, (f_X8_would nw cp cn a1 a2 a3).2.2.2, be) := if_pos (hkk.symm.trans hk)
    have hb2 : bR_would a1 a2 a3 (rf, ln, sp, ig, lo, ac, sg, rw, nw, tr, di, ke, fl, cp, cn, be) = ((f_X8_would nw cp cn a1 a2 a3).1) := if_pos (hkk.symm.trans hk)
    have c1 : ¬ f_X4_hasPart v.1 a1 = 0 := fun q => by
      unfold kd_X7_would at hk
      rw [if_pos q] at hk
      exact absurd hk (by decide)
    have c2 : ¬ f_X7_isInput a2 = 0 := fun q => by
      unfold kd_X7_would at hk
      rw [if_neg c1, if_pos q] at hk
      exact absurd hk (by decide)
    have c3 : ¬ f_X7_isWithin a3 0 4 = 0 := fun q => by
      unfold kd_X7_would at hk
      rw [if_neg c1, if_neg c2, if_pos q] at hk
      exact absurd hk (by decide)
    rw [hs, hr, hb2]
    exact ⟨hI, hk, fun _ => updL_e o ((f_X7_would v a1 a2 a3).1) ((f_X8_would nw cp cn a1 a2 a3).1) (ans_would hv c1 c3)⟩
  · have hs : sL_would a1 a2 a3 (ln, sg, v, w, u, nx, kc, pl, z0, z1, fl, o) = (ln, sg, v, w, u, nx, kc, pl, z0, z1, fl, o) := if_neg hk
    have hr : sR_would a1 a2 a3 (rf, ln, sp, ig, lo, ac, sg, rw, nw, tr, di, ke, fl, cp, cn, be) = (kc_X8_would nw a1 a2 a3, ln, sp, ig, lo, ac, sg, rw, nw, tr, di, ke, fl, cp, cn, be) := if_neg (fun q => hk (hkk.trans q))
    rw [hs, hr]
    exact ⟨hI, hkk, fun q => absurd q hk⟩
set_option maxHeartbeats 2000000 in
theorem inv_stands {N : Nat} {S : KC} {R : KR} (a1 : Int32) (a2 : Int32) (a3 : Int32) (a4 : Int32) (h : INV N S R) (hN : N < 2 ^ 29) : INV (N + 3000) (sL_stands a1 a2 a3 a4 S) (sR_stands a1 a2 a3 a4 R) ∧ kd_X7_stands S.2.2.1 a1 a2 a3 a4 = (sR_stands a1 a2 a3 a4 R).1 ∧ (kd_X7_stands S.2.2.1 a1 a2 a3 a4 = 0 → (sL_stands a1 a2 a3 a4 S).2.2.2.2.2.2.2.2.2.2.2 0 = Int32.toInt64 (bR_stands a1 a2 a3 a4 R)) := by
  obtain ⟨ln, sg, v, w, u, nx, kc, pl, z0, z1, fl, o⟩ := S
  obtain ⟨rf, ss, sp, ig, lo, ac, sc, rw, nw, tr, di, ke, ik, cp, cn, be⟩ := R
  have h : kInv N ln sg v nx kc pl z0 z1 fl ss ac sc nw di ke ik := h
  have hI := h.le (Nat.le_add_right N 3000)
  obtain ⟨e1, e2, hl, hv, hM, e3, hz0, hz1, hb, hbd, hbk⟩ := h
  subst e1; subst e2; subst e3
  have hkk : kd_X7_stands v a1 a2 a3 a4 = kc_X8_stands nw a1 a2 a3 a4 := kd_stands hv a1 a2 a3 a4
  by_cases hk : kd_X7_stands v a1 a2 a3 a4 = 0
  · have hs : sL_stands a1 a2 a3 a4 (ln, sg, v, w, u, nx, kc, pl, z0, z1, fl, o) = (ln, sg, v, w, u, nx, kc, pl, z0, z1, fl, vp_updL o 0 (Int32.toInt64 (f_X7_stands v a1 a2 a3 a4))) := if_pos hk
    have hr : sR_stands a1 a2 a3 a4 (rf, ln, sp, ig, lo, ac, sg, rw, nw, tr, di, ke, fl, cp, cn, be) = (0, ln, sp, ig, lo, ac, sg, rw, nw, tr, di, ke, fl, cp, cn, be) := if_pos (hkk.symm.trans hk)
    have hb2 : bR_stands a1 a2 a3 a4 (rf, ln, sp, ig, lo, ac, sg, rw, nw, tr, di, ke, fl, cp, cn, be) = (f_X8_stands nw a1 a2 a3 a4) := if_pos (hkk.symm.trans hk)
    have c1 : ¬ f_X1_isThere v.2.2.2.2.2.2.2.1 a1 a2 = 0 := fun q => by
      unfold kd_X7_stands at hk
      rw [if_pos q] at hk
      exact absurd hk (by decide)
    have c2 : ¬ f_X1_isThere v.2.2.2.2.2.2.2.1 a3 a4 = 0 := fun q => by
      unfold kd_X7_stands at hk
      rw [if_neg c1, if_pos q] at hk
      exact absurd hk (by decide)
    rw [hs, hr, hb2]
    exact ⟨hI, hk, fun _ => updL_e o (f_X7_stands v a1 a2 a3 a4) (f_X8_stands nw a1 a2 a3 a4) (ans_stands hv c1 c2)⟩
  · have hs : sL_stands a1 a2 a3 a4 (ln, sg, v, w, u, nx, kc, pl, z0, z1, fl, o) = (ln, sg, v, w, u, nx, kc, pl, z0, z1, fl, o) := if_neg hk
    have hr : sR_stands a1 a2 a3 a4 (rf, ln, sp, ig, lo, ac, sg, rw, nw, tr, di, ke, fl, cp, cn, be) = (kc_X8_stands nw a1 a2 a3 a4, ln, sp, ig, lo, ac, sg, rw, nw, tr, di, ke, fl, cp, cn, be) := if_neg (fun q => hk (hkk.trans q))
    rw [hs, hr]
    exact ⟨hI, hkk, fun q => absurd q hk⟩
set_option maxHeartbeats 2000000 in
theorem inv_holes {N : Nat} {S : KC} {R : KR}  (h : INV N S R) (hN : N < 2 ^ 29) : INV (N + 3000) (sL_holes S) (sR_holes R) ∧ (f_X7_holes S.2.2.1) = bR_holes R := by
  obtain ⟨ln, sg, v, w, u, nx, kc, pl, z0, z1, fl, o⟩ := S
  obtain ⟨rf, ss, sp, ig, lo, ac, sc, rw, nw, tr, di, ke, ik, cp, cn, be⟩ := R
  have h : kInv N ln sg v nx kc pl z0 z1 fl ss ac sc nw di ke ik := h
  have hI := h.le (Nat.le_add_right N 3000)
  obtain ⟨e1, e2, hl, hv, hM, e3, hz0, hz1, hb, hbd, hbk⟩ := h
  subst e1; subst e2; subst e3
  exact ⟨hI, ans_holes hv⟩
set_option maxHeartbeats 2000000 in
theorem inv_firstBad {N : Nat} {S : KC} {R : KR} (a1 : Int32) (a2 : Int32) (a3 : Int32) (h : INV N S R) (hN : N < 2 ^ 29) : INV (N + 3000) (sL_firstBad a1 a2 a3 S) (sR_firstBad a1 a2 a3 R) ∧ kd_X7_firstBad S.2.2.1 a1 a2 a3 = (sR_firstBad a1 a2 a3 R).1 ∧ (kd_X7_firstBad S.2.2.1 a1 a2 a3 = 0 → (sL_firstBad a1 a2 a3 S).2.2.2.2.2.2.2.2.2.2.2 0 = Int32.toInt64 (bR_firstBad a1 a2 a3 R)) := by
  obtain ⟨ln, sg, v, w, u, nx, kc, pl, z0, z1, fl, o⟩ := S
  obtain ⟨rf, ss, sp, ig, lo, ac, sc, rw, nw, tr, di, ke, ik, cp, cn, be⟩ := R
  have h : kInv N ln sg v nx kc pl z0 z1 fl ss ac sc nw di ke ik := h
  have hI := h.le (Nat.le_add_right N 3000)
  obtain ⟨e1, e2, hl, hv, hM, e3, hz0, hz1, hb, hbd, hbk⟩ := h
  subst e1; subst e2; subst e3
  have hkk : kd_X7_firstBad v a1 a2 a3 = kc_X8_firstBad nw a1 a2 a3 := kd_firstBad hv a1 a2 a3
  by_cases hk : kd_X7_firstBad v a1 a2 a3 = 0
  · have hs : sL_firstBad a1 a2 a3 (ln, sg, v, w, u, nx, kc, pl, z0, z1, fl, o) = (ln, sg, v, w, (cFb a1 a2 a3.toNatClampNeg 0 v).2, nx, kc, pl, z0, z1, fl, vp_updL o 0 (Int32.toInt64 ((cFb a1 a2 a3.toNatClampNeg 0 v).1))) := if_pos hk
    have hr : sR_firstBad a1 a2 a3 (rf, ln, sp, ig, lo, ac, sg, rw, nw, tr, di, ke, fl, cp, cn, be) = (0, ln, sp, ig, lo, ac, sg, rw, nw, (rFb nw a1.toNatClampNeg a2 a3.toNatClampNeg 0 (tr, cp, cn)).2.1, di, ke, fl, (rFb nw a1.toNatClampNeg a2 a3.toNatClampNeg 0 (tr, cp, cn)).2.2.1, (rFb nw a1.toNatClampNeg a2 a3.toNatClampNeg 0 (tr, cp, cn)).2.2.2, be) := if_pos (hkk.symm.trans hk)
    have hb2 : bR_firstBad a1 a2 a3 (rf, ln, sp, ig, lo, ac, sg, rw, nw, tr, di, ke, fl, cp, cn, be) = ((rFb nw a1.toNatClampNeg a2 a3.toNatClampNeg 0 (tr, cp, cn)).1) := if_pos (hkk.symm.trans hk)
    have c1 : ¬ f_X4_hasPart v.1 a1 = 0 := fun q => by
      unfold kd_X7_firstBad at hk
      rw [if_pos q] at hk
      exact absurd hk (by decide)
    rw [hs, hr, hb2]
    exact ⟨hI, hk, fun _ => updL_e o ((cFb a1 a2 a3.toNatClampNeg 0 v).1) ((rFb nw a1.toNatClampNeg a2 a3.toNatClampNeg 0 (tr, cp, cn)).1) (ans_firstBad hv c1)⟩
  · have hs : sL_firstBad a1 a2 a3 (ln, sg, v, w, u, nx, kc, pl, z0, z1, fl, o) = (ln, sg, v, w, u, nx, kc, pl, z0, z1, fl, o) := if_neg hk
    have hr : sR_firstBad a1 a2 a3 (rf, ln, sp, ig, lo, ac, sg, rw, nw, tr, di, ke, fl, cp, cn, be) = (kc_X8_firstBad nw a1 a2 a3, ln, sp, ig, lo, ac, sg, rw, nw, tr, di, ke, fl, cp, cn, be) := if_neg (fun q => hk (hkk.trans q))
    rw [hs, hr]
    exact ⟨hI, hkk, fun q => absurd q hk⟩
set_option maxHeartbeats 2000000 in
theorem inv_mostBlamed {N : Nat} {S : KC} {R : KR} (a1 : Int32) (a2 : Int32) (a3 : Int32) (h : INV N S R) (hN : N < 2 ^ 29) : INV (N + 3000) (sL_mostBlamed a1 a2 a3 S) (sR_mostBlamed a1 a2 a3 R) ∧ kd_X7_mostBlamed S.2.2.1 a1 a2 a3 = (sR_mostBlamed a1 a2 a3 R).1 ∧ (kd_X7_mostBlamed S.2.2.1 a1 a2 a3 = 0 → (sL_mostBlamed a1 a2 a3 S).2.2.2.2.2.2.2.2.2.2.2 0 = Int32.toInt64 (bR_mostBlamed a1 a2 a3 R)) := by
  obtain ⟨ln, sg, v, w, u, nx, kc, pl, z0, z1, fl, o⟩ := S
  obtain ⟨rf, ss, sp, ig, lo, ac, sc, rw, nw, tr, di, ke, ik, cp, cn, be⟩ := R
  have h : kInv N ln sg v nx kc pl z0 z1 fl ss ac sc nw di ke ik := h
  have hI := h.le (Nat.le_add_right N 3000)
  obtain ⟨e1, e2, hl, hv, hM, e3, hz0, hz1, hb, hbd, hbk⟩ := h
  subst e1; subst e2; subst e3
  have hkk : kd_X7_mostBlamed v a1 a2 a3 = kc_X8_mostBlamed nw a1 a2 a3 := kd_mostBlamed hv a1 a2 a3
  by_cases hk : kd_X7_mostBlamed v a1 a2 a3 = 0
  · have hs : sL_mostBlamed a1 a2 a3 (ln, sg, v, w, u, nx, kc, pl, z0, z1, fl, o) = (ln, sg, v, w, (cCalls a1 a2 a3.toNatClampNeg v), nx, kc, pl, z0, z1, fl, vp_updL o 0 (Int32.toInt64 ((cMb (cCalls a1 a2 a3.toNatClampNeg v) v v.1.toNatClampNeg).2))) := if_pos hk
    have hr : sR_mostBlamed a1 a2 a3 (rf, ln, sp, ig, lo, ac, sg, rw, nw, tr, di, ke, fl, cp, cn, be) = (0, ln, sp, ig, lo, ac, sg, rw, nw, (rCalls a1.toNatClampNeg a2 a3.toNatClampNeg (nw, cp, cn)).1, di, ke, fl, (rCalls a1.toNatClampNeg a2 a3.toNatClampNeg (nw, cp, cn)).2.1, (rCalls a1.toNatClampNeg a2 a3.toNatClampNeg (nw, cp, cn)).2.2, be) := if_pos (hkk.symm.trans hk)
    have hb2 : bR_mostBlamed a1 a2 a3 (rf, ln, sp, ig, lo, ac, sg, rw, nw, tr, di, ke, fl, cp, cn, be) = ((rMb (rCalls a1.toNatClampNeg a2 a3.toNatClampNeg (nw, cp, cn)).1 nw (nw 0).toNatClampNeg).1) := if_pos (hkk.symm.trans hk)
    have c1 : ¬ f_X4_hasPart v.1 a1 = 0 := fun q => by
      unfold kd_X7_mostBlamed at hk
      rw [if_pos q] at hk
      exact absurd hk (by decide)
    rw [hs, hr, hb2]
    exact ⟨hI, hk, fun _ => updL_e o ((cMb (cCalls a1 a2 a3.toNatClampNeg v) v v.1.toNatClampNeg).2) ((rMb (rCalls a1.toNatClampNeg a2 a3.toNatClampNeg (nw, cp, cn)).1 nw (nw 0).toNatClampNeg).1) (ans_mostBlamed hv c1)⟩
  · have hs : sL_mostBlamed a1 a2 a3 (ln, sg, v, w, u, nx, kc, pl, z0, z1, fl, o) = (ln, sg, v, w, u, nx, kc, pl, z0, z1, fl, o) := if_neg hk
    have hr : sR_mostBlamed a1 a2 a3 (rf, ln, sp, ig, lo, ac, sg, rw, nw, tr, di, ke, fl, cp, cn, be) = (kc_X8_mostBlamed nw a1 a2 a3, ln, sp, ig, lo, ac, sg, rw, nw, tr, di, ke, fl, cp, cn, be) := if_neg (fun q => hk (hkk.trans q))
    rw [hs, hr]
    exact ⟨hI, hkk, fun q => absurd q hk⟩
set_option maxHeartbeats 2000000 in
theorem inv_reach {N : Nat} {S : KC} {R : KR} (a1 : Int32) (a2 : Int32) (a3 : Int32) (h : INV N S R) (hN : N < 2 ^ 29) : INV (N + 3000) (sL_reach a1 a2 a3 S) (sR_reach a1 a2 a3 R) ∧ kd_X7_reach S.2.2.1 a1 a2 = (sR_reach a1 a2 a3 R).1 ∧ (kd_X7_reach S.2.2.1 a1 a2 = 0 → (sL_reach a1 a2 a3 S).2.2.2.2.2.2.2.2.2.2.2 0 = Int32.toInt64 (bR_reach a1 a2 a3 R)) := by
  obtain ⟨ln, sg, v, w, u, nx, kc, pl, z0, z1, fl, o⟩ := S
  obtain ⟨rf, ss, sp, ig, lo, ac, sc, rw, nw, tr, di, ke, ik, cp, cn, be⟩ := R
  have h : kInv N ln sg v nx kc pl z0 z1 fl ss ac sc nw di ke ik := h
  have hI := h.le (Nat.le_add_right N 3000)
  obtain ⟨e1, e2, hl, hv, hM, e3, hz0, hz1, hb, hbd, hbk⟩ := h
  subst e1; subst e2; subst e3
  have hkk : kd_X7_reach v a1 a2 = kc_X8_reach nw a1 a2 := kd_reach hv a1 a2
  by_cases hk : kd_X7_reach v a1 a2 = 0
  · have hs : sL_reach a1 a2 a3 (ln, sg, v, w, u, nx, kc, pl, z0, z1, fl, o) = (ln, sg, v, w, (cReach v a1 a2 a3).2, nx, kc, pl, z0, z1, fl, vp_updL o 0 (Int32.toInt64 ((cReach v a1 a2 a3).1))) := if_pos hk
    have hr : sR_reach a1 a2 a3 (rf, ln, sp, ig, lo, ac, sg, rw, nw, tr, di, ke, fl, cp, cn, be) = (0, ln, sp, ig, lo, ac, sg, rw, nw, (rReach nw cp cn a1.toNatClampNeg a2 a3).2.1, di, ke, fl, (rReach nw cp cn a1.toNatClampNeg a2 a3).2.2.1, (rReach nw cp cn a1.toNatClampNeg a2 a3).2.2.2, be) := if_pos (hkk.symm.trans hk)
    have hb2 : bR_reach a1 a2 a3 (rf, ln, sp, ig, lo, ac, sg, rw, nw, tr, di, ke, fl, cp, cn, be) = ((rReach nw cp cn a1.toNatClampNeg a2 a3).1) := if_pos (hkk.symm.trans hk)
    have c1 : ¬ f_X4_hasPart v.1 a1 = 0 := fun q => by
      unfold kd_X7_reach at hk
      rw [if_pos q] at hk
      exact absurd hk (by decide)
    rw [hs, hr, hb2]
    exact ⟨hI, hk, fun _ => updL_e o ((cReach v a1 a2 a3).1) ((rReach nw cp cn a1.toNatClampNeg a2 a3).1) (ans_reach hv c1)⟩
  · have hs : sL_reach a1 a2 a3 (ln, sg, v, w, u, nx, kc, pl, z0, z1, fl, o) = (ln, sg, v, w, u, nx, kc, pl, z0, z1, fl, o) := if_neg hk
    have hr : sR_reach a1 a2 a3 (rf, ln, sp, ig, lo, ac, sg, rw, nw, tr, di, ke, fl, cp, cn, be) = (kc_X8_reach nw a1 a2, ln, sp, ig, lo, ac, sg, rw, nw, tr, di, ke, fl, cp, cn, be) := if_neg (fun q => hk (hkk.trans q))
    rw [hs, hr]
    exact ⟨hI, hkk, fun q => absurd q hk⟩
set_option maxHeartbeats 2000000 in
theorem inv_runScript {N : Nat} {S : KC} {R : KR} (a1 : Int32) (a2 : Int64) (h : INV N S R) (hN : N < 2 ^ 29) : INV (N + 3000) (sL_runScript a1 a2 S) (sR_runScript a1 a2 R) ∧ kd_X7_runScript a1 a2 = (sR_runScript a1 a2 R).1 ∧ (kd_X7_runScript a1 a2 = 0 → (sL_runScript a1 a2 S).2.2.2.2.2.2.2.2.2.2.2 0 = Int32.toInt64 (bR_runScript a1 a2 R)) := by
  obtain ⟨ln, sg, v, w, u, nx, kc, pl, z0, z1, fl, o⟩ := S
  obtain ⟨rf, ss, sp, ig, lo, ac, sc, rw, nw, tr, di, ke, ik, cp, cn, be⟩ := R
  have h : kInv N ln sg v nx kc pl z0 z1 fl ss ac sc nw di ke ik := h
  have hI := h.le (Nat.le_add_right N 3000)
  obtain ⟨e1, e2, hl, hv, hM, e3, hz0, hz1, hb, hbd, hbk⟩ := h
  subst e1; subst e2; subst e3
  have hkk : kd_X7_runScript a1 a2 = kc_X8_runScript a1 a2 := kd_runScript a1 a2
  by_cases hk : kd_X7_runScript a1 a2 = 0
  · have hs : sL_runScript a1 a2 (ln, sg, v, w, u, nx, kc, pl, z0, z1, fl, o) = (ln, sg, v, ((cRun a1.toNatClampNeg a2.toNatClampNeg a1.toNatClampNeg 0 v u).2.1), ((cRun a1.toNatClampNeg a2.toNatClampNeg a1.toNatClampNeg 0 v u).2.2), nx, kc, pl, z0, z1, fl, vp_updL o 0 (Int32.toInt64 ((cRun a1.toNatClampNeg a2.toNatClampNeg a1.toNatClampNeg 0 v u).1))) := if_pos hk
    have hr : sR_runScript a1 a2 (rf, ln, sp, ig, lo, ac, sg, rw, nw, tr, di, ke, fl, cp, cn, be) = (0, ln, sp, ig, lo, ac, sg, rw, nw, (rRun a1.toNatClampNeg a2.toNatClampNeg a1.toNatClampNeg 0 (nw, be, cp, cn)).2.1, di, ke, fl, (rRun a1.toNatClampNeg a2.toNatClampNeg a1.toNatClampNeg 0 (nw, be, cp, cn)).2.2.2.1, (rRun a1.toNatClampNeg a2.toNatClampNeg a1.toNatClampNeg 0 (nw, be, cp, cn)).2.2.2.2, (rRun a1.toNatClampNeg a2.toNatClampNeg a1.toNatClampNeg 0 (nw, be, cp, cn)).2.2.1) := if_pos (hkk.symm.trans hk)
    have hb2 : bR_runScript a1 a2 (rf, ln, sp, ig, lo, ac, sg, rw, nw, tr, di, ke, fl, cp, cn, be) = ((rRun a1.toNatClampNeg a2.toNatClampNeg a1.toNatClampNeg 0 (nw, be, cp, cn)).1) := if_pos (hkk.symm.trans hk)
    rw [hs, hr, hb2]
    exact ⟨hI, hk, fun _ => updL_e o ((cRun a1.toNatClampNeg a2.toNatClampNeg a1.toNatClampNeg 0 v u).1) ((rRun a1.toNatClampNeg a2.toNatClampNeg a1.toNatClampNeg 0 (nw, be, cp, cn)).1) (run_rel _ _ v u (nw, be, cp, cn) hv)⟩
  · have hs : sL_runScript a1 a2 (ln, sg, v, w, u, nx, kc, pl, z0, z1, fl, o) = (ln, sg, v, w, u, nx, kc, pl, z0, z1, fl, o) := if_neg hk
    have hr : sR_runScript a1 a2 (rf, ln, sp, ig, lo, ac, sg, rw, nw, tr, di, ke, fl, cp, cn, be) = (kc_X8_runScript a1 a2, ln, sp, ig, lo, ac, sg, rw, nw, tr, di, ke, fl, cp, cn, be) := if_neg (fun q => hk (hkk.trans q))
    rw [hs, hr]
    exact ⟨hI, hkk, fun q => absurd q hk⟩
set_option maxHeartbeats 2000000 in
theorem inv_simulate {N : Nat} {S : KC} {R : KR} (a1 : Int64) (a2 : Int32) (h : INV N S R) (hN : N < 2 ^ 29) : INV (N + 3000) (sL_simulate a1 a2 S) (sR_simulate a1 a2 R) ∧ kd_X7_simulate a2 = (sR_simulate a1 a2 R).1 ∧ (kd_X7_simulate a2 = 0 → (sL_simulate a1 a2 S).2.2.2.2.2.2.2.2.2.2.2 0 = Int32.toInt64 (bR_simulate a1 a2 R)) := by
  obtain ⟨ln, sg, v, w, u, nx, kc, pl, z0, z1, fl, o⟩ := S
  obtain ⟨rf, ss, sp, ig, lo, ac, sc, rw, nw, tr, di, ke, ik, cp, cn, be⟩ := R
  have h : kInv N ln sg v nx kc pl z0 z1 fl ss ac sc nw di ke ik := h
  have hI := h.le (Nat.le_add_right N 3000)
  obtain ⟨e1, e2, hl, hv, hM, e3, hz0, hz1, hb, hbd, hbk⟩ := h
  subst e1; subst e2; subst e3
  have hkk : kd_X7_simulate a2 = kc_X8_simulate a2 := kd_simulate a2
  by_cases hk : kd_X7_simulate a2 = 0
  · have hs : sL_simulate a1 a2 (ln, sg, v, w, u, nx, kc, pl, z0, z1, fl, o) = (ln, sg, v, (cSimu a1 a2 v w).2, u, nx, kc, pl, z0, z1, fl, vp_updL o 0 (Int32.toInt64 ((cSimu a1 a2 v w).1))) := if_pos hk
    have hr : sR_simulate a1 a2 (rf, ln, sp, ig, lo, ac, sg, rw, nw, tr, di, ke, fl, cp, cn, be) = (0, ln, sp, ig, lo, ac, sg, rw, nw, (rSim (nw 0).toNatClampNeg a1 (nw, cp, cn) (if (nw 0).toNatClampNeg = 0 then 0 else a2.toNatClampNeg)).2.1, di, ke, fl, (rSim (nw 0).toNatClampNeg a1 (nw, cp, cn) (if (nw 0).toNatClampNeg = 0 then 0 else a2.toNatClampNeg)).2.2.1, (rSim (nw 0).toNatClampNeg a1 (nw, cp, cn) (if (nw 0).toNatClampNeg = 0 then 0 else a2.toNatClampNeg)).2.2.2, be) := if_pos (hkk.symm.trans hk)
    have hb2 : bR_simulate a1 a2 (rf, ln, sp, ig, lo, ac, sg, rw, nw, tr, di, ke, fl, cp, cn, be) = ((10000 * (((rSim (nw 0).toNatClampNeg a1 (nw, cp, cn) (if (nw 0).toNatClampNeg = 0 then 0 else a2.toNatClampNeg)).2.1 684) - (nw 684))) + (100 * (((rSim (nw 0).toNatClampNeg a1 (nw, cp, cn) (if (nw 0).toNatClampNeg = 0 then 0 else a2.toNatClampNeg)).2.1 685) - (nw 685))) + rSp (rSim (nw 0).toNatClampNeg a1 (nw, cp, cn) (if (nw 0).toNatClampNeg = 0 then 0 else a2.toNatClampNeg)).2.1 nw (nw 0).toNatClampNeg) := if_pos (hkk.symm.trans hk)
    have c1 : ¬ f_X7_isWithin a2 1 99 = 0 := fun q => by
      unfold kd_X7_simulate at hk
      rw [if_pos q] at hk
      exact absurd hk (by decide)
    rw [hs, hr, hb2]
    exact ⟨hI, hk, fun _ => updL_e o ((cSimu a1 a2 v w).1) ((10000 * (((rSim (nw 0).toNatClampNeg a1 (nw, cp, cn) (if (nw 0).toNatClampNeg = 0 then 0 else a2.toNatClampNeg)).2.1 684) - (nw 684))) + (100 * (((rSim (nw 0).toNatClampNeg a1 (nw, cp, cn) (if (nw 0).toNatClampNeg = 0 then 0 else a2.toNatClampNeg)).2.1 685) - (nw 685))) + rSp (rSim (nw 0).toNatClampNeg a1 (nw, cp, cn) (if (nw 0).toNatClampNeg = 0 then 0 else a2.toNatClampNeg)).2.1 nw (nw 0).toNatClampNeg) (ans_simulate hv hb hN c1)⟩
  · have hs : sL_simulate a1 a2 (ln, sg, v, w, u, nx, kc, pl, z0, z1, fl, o) = (ln, sg, v, w, u, nx, kc, pl, z0, z1, fl, o) := if_neg hk
    have hr : sR_simulate a1 a2 (rf, ln, sp, ig, lo, ac, sg, rw, nw, tr, di, ke, fl, cp, cn, be) = (kc_X8_simulate a2, ln, sp, ig, lo, ac, sg, rw, nw, tr, di, ke, fl, cp, cn, be) := if_neg (fun q => hk (hkk.trans q))
    rw [hs, hr]
    exact ⟨hI, hkk, fun q => absurd q hk⟩
set_option maxHeartbeats 2000000 in
theorem inv_save {N : Nat} {S : KC} {R : KR} (a1 : Int32) (h : INV N S R) (hN : N < 2 ^ 29) : INV (N + 3000) (sL_save a1 S) (sR_save a1 R) ∧ kd_X7_save a1 = (sR_save a1 R).1 ∧ (kd_X7_save a1 = 0 → (sL_save a1 S).2.2.2.2.2.2.2.2.2.2.2 0 = Int32.toInt64 (bR_save a1 R)) := by
  obtain ⟨ln, sg, v, w, u, nx, kc, pl, z0, z1, fl, o⟩ := S
  obtain ⟨rf, ss, sp, ig, lo, ac, sc, rw, nw, tr, di, ke, ik, cp, cn, be⟩ := R
  have h : kInv N ln sg v nx kc pl z0 z1 fl ss ac sc nw di ke ik := h
  have hI := h.le (Nat.le_add_right N 3000)
  obtain ⟨e1, e2, hl, hv, hM, e3, hz0, hz1, hb, hbd, hbk⟩ := h
  subst e1; subst e2; subst e3
  have hkk : kd_X7_save a1 = kc_X8_save a1 := kd_save a1
  by_cases hk : kd_X7_save a1 = 0
  · rcases slot_save a1 (ln, sg, v, w, u, nx, kc, pl, z0, z1, fl, o) hk with rfl | rfl
    · have hs : sL_save 0 (ln, sg, v, w, u, nx, kc, pl, z0, z1, fl, o) = (ln, sg, v, w, u, nx, kc, pl, (f_X7_save_0 v fl).2.1, z1, (f_X7_save_0 v fl).2.2, vp_updL o 0 (Int32.toInt64 ((f_X7_save_0 v fl).1))) := (if_pos hk).trans (if_pos rfl)
      have e9 : (0 : Int32).toNatClampNeg = 0 := by decide
      have hr : sR_save 0 (rf, ln, sp, ig, lo, ac, sg, rw, nw, tr, di, ke, fl, cp, cn, be) = (0, ln, sp, ig, lo, ac, sg, rw, nw, tr, di, (f_X8_save nw ke fl 0).2.1, (f_X8_save nw ke fl 0).2.2, cp, cn, be) := if_pos (hkk.symm.trans hk)
      have hb2 : bR_save 0 (rf, ln, sp, ig, lo, ac, sg, rw, nw, tr, di, ke, fl, cp, cn, be) = ((f_X8_save nw ke fl 0).1) := if_pos (hkk.symm.trans hk)
      have x1 : f_X8_save nw ke fl 0 = (nw 0, va_cpy nw ke 0 (748 * 0) 748, upd fl 0 1) := by
        unfold f_X8_save
        dsimp only
        rw [e9]
      rw [hs, hr, hb2, x1]
      exact ⟨⟨rfl, rfl, hl, hv, hM, rfl, pKept_save hv, pKept_other (by decide) hz1, hI.2.2.2.2.2.2.2.2.1, hI.2.2.2.2.2.2.2.2.2.1, save_bd hI.2.2.2.2.2.2.2.2.1 hI.2.2.2.2.2.2.2.2.2.2⟩, hk, fun _ => updL_e o v.1 (nw 0) (pPlan_0 hv)⟩
    · have hs : sL_save 1 (ln, sg, v, w, u, nx, kc, pl, z0, z1, fl, o) = (ln, sg, v, w, u, nx, kc, pl, z0, (f_X7_save_1 v fl).2.1, (f_X7_save_1 v fl).2.2, vp_updL o 0 (Int32.toInt64 ((f_X7_save_1 v fl).1))) := (if_pos hk).trans (if_neg (by decide))
      have e9 : (1 : Int32).toNatClampNeg = 1 := by decide
      have hr : sR_save 1 (rf, ln, sp, ig, lo, ac, sg, rw, nw, tr, di, ke, fl, cp, cn, be) = (0, ln, sp, ig, lo, ac, sg, rw, nw, tr, di, (f_X8_save nw ke fl 1).2.1, (f_X8_save nw ke fl 1).2.2, cp, cn, be) := if_pos (hkk.symm.trans hk)
      have hb2 : bR_save 1 (rf, ln, sp, ig, lo, ac, sg, rw, nw, tr, di, ke, fl, cp, cn, be) = ((f_X8_save nw ke fl 1).1) := if_pos (hkk.symm.trans hk)
      have x1 : f_X8_save nw ke fl 1 = (nw 0, va_cpy nw ke 0 (748 * 1) 748, upd fl 1 1) := by
        unfold f_X8_save
        dsimp only
        rw [e9]
      rw [hs, hr, hb2, x1]
      exact ⟨⟨rfl, rfl, hl, hv, hM, rfl, pKept_other (by decide) hz0, pKept_save hv, hI.2.2.2.2.2.2.2.2.1, hI.2.2.2.2.2.2.2.2.2.1, save_bd hI.2.2.2.2.2.2.2.2.1 hI.2.2.2.2.2.2.2.2.2.2⟩, hk, fun _ => updL_e o v.1 (nw 0) (pPlan_0 hv)⟩
  · have hs : sL_save a1 (ln, sg, v, w, u, nx, kc, pl, z0, z1, fl, o) = (ln, sg, v, w, u, nx, kc, pl, z0, z1, fl, o) := if_neg hk
    have hr : sR_save a1 (rf, ln, sp, ig, lo, ac, sg, rw, nw, tr, di, ke, fl, cp, cn, be) = (kc_X8_save a1, ln, sp, ig, lo, ac, sg, rw, nw, tr, di, ke, fl, cp, cn, be) := if_neg (fun q => hk (hkk.trans q))
    rw [hs, hr]
    exact ⟨hI, hkk, fun q => absurd q hk⟩
set_option maxHeartbeats 2000000 in
theorem inv_restore {N : Nat} {S : KC} {R : KR} (a1 : Int32) (h : INV N S R) (hN : N < 2 ^ 29) : INV (N + 3000) (sL_restore a1 S) (sR_restore a1 R) ∧ kd_X7_restore S.2.2.2.2.2.2.2.2.2.2.1 a1 = (sR_restore a1 R).1 ∧ (kd_X7_restore S.2.2.2.2.2.2.2.2.2.2.1 a1 = 0 → (sL_restore a1 S).2.2.2.2.2.2.2.2.2.2.2 0 = Int32.toInt64 (bR_restore a1 R)) := by
  obtain ⟨ln, sg, v, w, u, nx, kc, pl, z0, z1, fl, o⟩ := S
  obtain ⟨rf, ss, sp, ig, lo, ac, sc, rw, nw, tr, di, ke, ik, cp, cn, be⟩ := R
  have h : kInv N ln sg v nx kc pl z0 z1 fl ss ac sc nw di ke ik := h
  have hI := h.le (Nat.le_add_right N 3000)
  obtain ⟨e1, e2, hl, hv, hM, e3, hz0, hz1, hb, hbd, hbk⟩ := h
  subst e1; subst e2; subst e3
  have hkk : kd_X7_restore fl a1 = kc_X8_restore fl a1 := kd_restore fl a1
  by_cases hk : kd_X7_restore fl a1 = 0
  · rcases slot_restore a1 (ln, sg, v, w, u, nx, kc, pl, z0, z1, fl, o) hk with rfl | rfl
    · have hs : sL_restore 0 (ln, sg, v, w, u, nx, kc, pl, z0, z1, fl, o) = (ln, sg, (f_X7_restore_0 z0).2, w, u, nx, 0, pl, z0, z1, fl, vp_updL o 0 (Int32.toInt64 ((f_X7_restore_0 z0).1))) := (if_pos hk).trans (if_pos rfl)
      have e9 : (0 : Int32).toNatClampNeg = 0 := by decide
      have hr : sR_restore 0 (rf, ln, sp, ig, lo, ac, sg, rw, nw, tr, di, ke, fl, cp, cn, be) = (0, ln, sp, ig, lo, 0, sg, rw, (f_X8_restore nw ke 0).2, tr, di, ke, fl, cp, cn, be) := if_pos (hkk.symm.trans hk)
      have hb2 : bR_restore 0 (rf, ln, sp, ig, lo, ac, sg, rw, nw, tr, di, ke, fl, cp, cn, be) = ((f_X8_restore nw ke 0).1) := if_pos (hkk.symm.trans hk)
      have hfl : ¬ fl 0 = 0 := full_restore hk
      have x1 : f_X8_restore nw ke 0 = ((va_cpy ke nw (748 * 0) 0 748) 0, va_cpy ke nw (748 * 0) 0 748) := by
        unfold f_X8_restore
        dsimp only
        rw [e9]
      have hp := pKept_restore (nw := nw) hfl hz0
      rw [hs, hr, hb2, x1]
      exact ⟨⟨rfl, rfl, hl, hp, pMem_forget hM di, rfl, hz0, hz1, back_bd (hI.2.2.2.2.2.2.2.2.2.2 0 (by decide) hfl), fun k hk9 => absurd hk9 (Nat.not_lt_zero _), hI.2.2.2.2.2.2.2.2.2.2⟩, hk, fun _ => updL_e o z0.1 ((va_cpy ke nw (748 * 0) 0 748) 0) (pPlan_0 hp)⟩
    · have hs : sL_restore 1 (ln, sg, v, w, u, nx, kc, pl, z0, z1, fl, o) = (ln, sg, (f_X7_restore_1 z1).2, w, u, nx, 0, pl, z0, z1, fl, vp_updL o 0 (Int32.toInt64 ((f_X7_restore_1 z1).1))) := (if_pos hk).trans (if_neg (by decide))
      have e9 : (1 : Int32).toNatClampNeg = 1 := by decide
      have hr : sR_restore 1 (rf, ln, sp, ig, lo, ac, sg, rw, nw, tr, di, ke, fl, cp, cn, be) = (0, ln, sp, ig, lo, 0, sg, rw, (f_X8_restore nw ke 1).2, tr, di, ke, fl, cp, cn, be) := if_pos (hkk.symm.trans hk)
      have hb2 : bR_restore 1 (rf, ln, sp, ig, lo, ac, sg, rw, nw, tr, di, ke, fl, cp, cn, be) = ((f_X8_restore nw ke 1).1) := if_pos (hkk.symm.trans hk)
      have hfl : ¬ fl 1 = 0 := full_restore hk
      have x1 : f_X8_restore nw ke 1 = ((va_cpy ke nw (748 * 1) 0 748) 0, va_cpy ke nw (748 * 1) 0 748) := by
        unfold f_X8_restore
        dsimp only
        rw [e9]
      have hp := pKept_restore (nw := nw) hfl hz1
      rw [hs, hr, hb2, x1]
      exact ⟨⟨rfl, rfl, hl, hp, pMem_forget hM di, rfl, hz0, hz1, back_bd (hI.2.2.2.2.2.2.2.2.2.2 1 (by decide) hfl), fun k hk9 => absurd hk9 (Nat.not_lt_zero _), hI.2.2.2.2.2.2.2.2.2.2⟩, hk, fun _ => updL_e o z1.1 ((va_cpy ke nw (748 * 1) 0 748) 0) (pPlan_0 hp)⟩
  · have hs : sL_restore a1 (ln, sg, v, w, u, nx, kc, pl, z0, z1, fl, o) = (ln, sg, v, w, u, nx, kc, pl, z0, z1, fl, o) := if_neg hk
    have hr : sR_restore a1 (rf, ln, sp, ig, lo, ac, sg, rw, nw, tr, di, ke, fl, cp, cn, be) = (kc_X8_restore fl a1, ln, sp, ig, lo, ac, sg, rw, nw, tr, di, ke, fl, cp, cn, be) := if_neg (fun q => hk (hkk.trans q))
    rw [hs, hr]
    exact ⟨hI, hkk, fun q => absurd q hk⟩
end
