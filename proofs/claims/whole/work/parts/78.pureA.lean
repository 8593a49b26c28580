-- THE PURE PART, 10: the actions, of both
noncomputable section
section PA
variable {v : KPV} {nw di : Nat → Int32} {nx kc ac : Nat} {pl : Nat → KPV}
theorem addR (h : pPlan v nw) (hr : ¬ f_X4_hasRoom v.1 = 0) (factor more : Int32) : (gAdd v factor more).1 = f_X8_addIn nw factor more (nw 0).toNatClampNeg 0 ∧ pPlan (gAdd v factor more) (f_X8_addIn nw factor more (nw 0).toNatClampNeg) := by
  obtain ⟨mn, hv, hR⟩ := h
  have hm := hR.1
  have h10 : mn < 10 := by
    unfold f_X4_hasRoom at hr
    rw [hv] at hr
    by_cases q : 10 ≤ nI mn
    · rw [if_pos q] at hr; exact absurd rfl hr
    · have : ¬ 10 ≤ mn := fun z => q ((nI_leI (a := 10) (b := mn) (by decide) (by omega)).mpr z)
      omega
  obtain ⟨r1, r2⟩ := pRel_add (factor := factor) (more := more) h10 hR
  rw [hR.2.1, nI_clamp (by omega), gAdd_eq]
  unfold gAdd0
  rw [hv]
  refine ⟨?_, mn + 1, r1, r2⟩
  show (f_X4_addPart (nI mn) v.2.2.2.2.2.2.1 factor more).1 = _
  rw [r1, r2.2.1]
theorem act_add (h : pPlan v nw) (hM : pMem nx kc pl ac di) {factor more : Int32} (hk : kd_X7_add v factor more = 0) : (f_X7_add nx kc v pl factor more).1 = (f_X8_add ac nw di factor more).1 ∧ pMem (f_X7_add nx kc v pl factor more).2.1 (f_X7_add nx kc v pl factor more).2.2.1 (f_X7_add nx kc v pl factor more).2.2.2.2 (f_X8_add ac nw di factor more).2.1 (f_X8_add ac nw di factor more).2.2.1 ∧ pPlan (f_X7_add nx kc v pl factor more).2.2.2.1 (f_X8_add ac nw di factor more).2.2.2 := by
  have hr : ¬ f_X4_hasRoom v.1 = 0 := fun q => by
    unfold kd_X7_add at hk
    rw [if_pos q] at hk
    revert hk
    repeat' split
    all_goals (intro z; exact absurd z (by decide))
  obtain ⟨r1, r2⟩ := addR h hr factor more
  unfold f_X7_add f_X8_add
  dsimp only
  exact ⟨by rw [r1], pMem_remember hM h, r2⟩
theorem act_call {cp cn : Nat → Int32} (h : pPlan v nw) (hM : pMem nx kc pl ac di) {pa x : Int32} (hk : kd_X7_call v pa x = 0) : (f_X7_call nx kc v pl pa x).1 = (f_X8_call ac nw di cp cn pa x).1 ∧ pMem (f_X7_call nx kc v pl pa x).2.1 (f_X7_call nx kc v pl pa x).2.2.1 (f_X7_call nx kc v pl pa x).2.2.2.2 (f_X8_call ac nw di cp cn pa x).2.1 (f_X8_call ac nw di cp cn pa x).2.2.1 ∧ pPlan (f_X7_call nx kc v pl pa x).2.2.2.1 (f_X8_call ac nw di cp cn pa x).2.2.2.1 := by
  have hp : ¬ f_X4_hasPart v.1 pa = 0 := fun q => by
    unfold kd_X7_call at hk
    rw [if_pos q] at hk
    exact absurd hk (by decide)
  have hv := h
  obtain ⟨mn, e, hR⟩ := h
  rw [e] at hp
  have hm := hR.1
  obtain ⟨p, hp2, rfl⟩ := part_N hm hp
  obtain ⟨c1, c2, c3, _⟩ := call_rel (cp := cp) (cn := cn) (x := x) e hp2 hR
  unfold f_X7_call f_X8_call
  dsimp only
  rw [nI_clamp (n := p) (by omega)]
  exact ⟨c1, pMem_remember hM hv, c3⟩
theorem act_net (h : pPlan v nw) (hM : pMem nx kc pl ac di) {pa net : Int32} (hk : kd_X7_net v pa net = 0) : (f_X7_net nx kc v pl pa net).1 = (f_X8_net ac nw di pa net).1 ∧ pMem (f_X7_net nx kc v pl pa net).2.1 (f_X7_net nx kc v pl pa net).2.2.1 (f_X7_net nx kc v pl pa net).2.2.2.2 (f_X8_net ac nw di pa net).2.1 (f_X8_net ac nw di pa net).2.2.1 ∧ pPlan (f_X7_net nx kc v pl pa net).2.2.2.1 (f_X8_net ac nw di pa net).2.2.2 := by
  have hp : ¬ f_X4_hasPart v.1 pa = 0 := fun q => by
    unfold kd_X7_net at hk
    rw [if_pos q] at hk
    exact absurd hk (by decide)
  have hv := h
  obtain ⟨mn, e, hR⟩ := h
  rw [e] at hp
  have hm := hR.1
  obtain ⟨p, hp2, rfl⟩ := part_N hm hp
  have n1 := pRel_net (net := net) hp2 hR
  have n2 : pPlan (gNet v (nI p) net) (upd nw (1 + 8 * p + 4) net) := by
    rw [gNet_eq]
    exact ⟨mn, e, n1⟩
  have n3 : f_X4_ofPart v.2.2.2.2.2.2.1 (nI p) 4 = nw (1 + 8 * p + 4) := by
    rw [ofPart_N (by omega)]
    exact (hR.2.2.2.2.2.2.2.1 p hp2).2.2.2.2.1
  unfold f_X7_net f_X8_net
  dsimp only
  rw [nI_clamp (n := p) (by omega)]
  by_cases c : net = -10000
  · rw [if_pos c, if_pos c]
    exact ⟨n3, pMem_remember hM hv, n2⟩
  · rw [if_neg c, if_neg c]
    exact ⟨n3, pMem_remember hM hv, n2⟩
theorem act_chain (h : pPlan v nw) (hM : pMem nx kc pl ac di) {pa next step : Int32} (hk : kd_X7_chain v pa next step = 0) : (f_X7_chain nx kc v pl pa next step).1 = (f_X8_chain ac nw di pa next step).1 ∧ pMem (f_X7_chain nx kc v pl pa next step).2.1 (f_X7_chain nx kc v pl pa next step).2.2.1 (f_X7_chain nx kc v pl pa next step).2.2.2.2 (f_X8_chain ac nw di pa next step).2.1 (f_X8_chain ac nw di pa next step).2.2.1 ∧ pPlan (f_X7_chain nx kc v pl pa next step).2.2.2.1 (f_X8_chain ac nw di pa next step).2.2.2 := by
  have hp : ¬ f_X4_hasPart v.1 pa = 0 := fun q => by
    unfold kd_X7_chain at hk
    rw [if_pos q] at hk
    exact absurd hk (by decide)
  have hmay : next = -10000 ∨ ¬ f_X4_mayChainTo pa next = 0 := by
    by_cases c : next = -10000
    · exact Or.inl c
    · refine Or.inr fun q => ?_
      unfold kd_X7_chain at hk
      rw [if_neg hp, if_neg c, if_pos q] at hk
      exact absurd hk (by decide)
  have hv := h
  obtain ⟨mn, e, hR⟩ := h
  rw [e] at hp
  have hm := hR.1
  obtain ⟨p, hp2, rfl⟩ := part_N hm hp
  have hq : next = -10000 ∨ ∃ q : Nat, q < p ∧ next = nI q := by
    rcases hmay with c | c
    · exact Or.inl c
    · right
      unfold f_X4_mayChainTo at c
      by_cases a : next < 0
      · rw [if_pos a] at c; exact absurd rfl c
      · rw [if_neg a] at c
        by_cases b : nI p ≤ next
        · rw [if_pos b] at c; exact absurd rfl c
        · obtain ⟨j, hj, ej⟩ := nI_of a
          refine ⟨j, ?_, ej⟩
          rw [ej] at b
          have : ¬ p ≤ j := fun z => b ((nI_leI (by omega) hj).mpr z)
          omega
  have n1 := pRel_chain (step := step) hp2 hq hR
  have n2 : pPlan (gChain v (nI p) next step) (f_X8_chainIn nw p next step) := by
    rw [gChain_eq]
    exact ⟨mn, e, n1⟩
  have n3 : cLen (gChain v (nI p) next step).2.2.2.2.2.2.1 9 (f_X4_ofPart (gChain v (nI p) next step).2.2.2.2.2.2.1 (nI p) 2) = nI (rLen (f_X8_chainIn nw p next step) 10 ((f_X8_chainIn nw p next step) (1 + 8 * p + 2)).toNatClampNeg 1) := by
    rw [gChain_eq]
    exact len_rel n1.1 n1.2.2.2.2.2.2.2.1 n1.2.2.2.2.2.2.2.2.2.2 9 p 1 hp2 (by omega) (by omega) 10 (by omega)
  unfold f_X7_chain f_X8_chain
  dsimp only
  rw [nI_clamp (n := p) (by omega)]
  by_cases c : next = -10000
  · rw [if_pos c, if_pos c]
    exact ⟨n3, pMem_remember hM hv, n2⟩
  · rw [if_neg c, if_neg c]
    exact ⟨n3, pMem_remember hM hv, n2⟩
theorem range_lo {low high : Int32} (h : ¬ f_X7_isRange low high = 0) : ¬ low = -10000 := fun q => by
  unfold f_X7_isRange at h
  rw [q, if_pos (by decide)] at h
  exact absurd rfl h
theorem putR {caller : Int32} {row p mn : Nat} {al ah gl gh : Int32} (e : v.1 = nI mn) (hR : pRel mn v.2.1 v.2.2.1 v.2.2.2.1 v.2.2.2.2.1 v.2.2.2.2.2.1 v.2.2.2.2.2.2.1 v.2.2.2.2.2.2.2.1 v.2.2.2.2.2.2.2.2.1 v.2.2.2.2.2.2.2.2.2 nw) (hp : p < mn) (hc : kCal caller row p) (ho : 10 ≤ row ∨ row < mn) (hal : ¬ al = -10000) : kRow caller (nI p) = row * 10 + p ∧ pPlan (gPut v al ah gl gh (kRow caller (nI p))) (f_X8_promise nw (kSide caller) p al ah gl gh) := by
  have hm := hR.1
  have ek : kRow caller (nI p) = row * 10 + p := by
    unfold kRow
    rcases hc with ⟨h1, h2⟩ | ⟨h1, h2⟩ | ⟨h1, h2, h3⟩
    · rw [if_pos h1, h2, nI_clamp (by omega)]
    · rw [if_neg (by rw [h1]; decide), if_pos h1, h2, nI_clamp (by omega)]
    · rw [if_neg (by rw [h1]; exact nI_ne1 (by omega)), if_neg (by rw [h1]; exact nI_ne (by omega)), h1, nI_clamp (by omega), nI_clamp (by omega)]
  have ho2 : 10 ≤ row ∨ p < row ∧ row < mn := by
    rcases hc with ⟨h1, h2⟩ | ⟨h1, h2⟩ | ⟨h1, h2, h3⟩
    · omega
    · omega
    · omega
  have n1 := pRel_put (al := al) (ah := ah) (gl := gl) (gh := gh) hp (kCal_lt hc) ho2 hal hR
  refine ⟨ek, ?_⟩
  rw [ek, kCal_side hc, gPut_eq]
  exact ⟨mn, e, n1⟩
theorem act_own (h : pPlan v nw) (hM : pMem nx kc pl ac di) {pa al ah gl gh : Int32} (hk : kd_X7_own v pa al ah gl gh = 0) : (f_X7_own nx kc v pl pa al ah gl gh).1 = (f_X8_own ac nw di pa al ah gl gh).1 ∧ pMem (f_X7_own nx kc v pl pa al ah gl gh).2.1 (f_X7_own nx kc v pl pa al ah gl gh).2.2.1 (f_X7_own nx kc v pl pa al ah gl gh).2.2.2.2 (f_X8_own ac nw di pa al ah gl gh).2.1 (f_X8_own ac nw di pa al ah gl gh).2.2.1 ∧ pPlan (f_X7_own nx kc v pl pa al ah gl gh).2.2.2.1 (f_X8_own ac nw di pa al ah gl gh).2.2.2 := by
  have hp : ¬ f_X4_hasPart v.1 pa = 0 := fun q => by
    unfold kd_X7_own at hk
    rw [if_pos q] at hk
    exact absurd hk (by decide)
  have hr : ¬ f_X7_isRange al ah = 0 := fun q => by
    unfold kd_X7_own at hk
    rw [if_neg hp, if_pos q] at hk
    exact absurd hk (by decide)
  have hv := h
  obtain ⟨mn, e, hR⟩ := h
  rw [e] at hp
  have hm := hR.1
  obtain ⟨p, hp2, rfl⟩ := part_N hm hp
  obtain ⟨_, n2⟩ := putR (al := al) (ah := ah) (gl := gl) (gh := gh) e hR hp2 (kCal_own p) (Or.inl (by omega)) (range_lo hr)
  rw [side_own] at n2
  have n3 : cRow (gPut v al ah gl gh (kRow (-10001) (nI p))).2.2.2.2.2.2.2.1 11 10 = rCnt (f_X8_promise nw 0 p al ah gl gh) mn 0 1 := by
    obtain ⟨m2, e2, R2⟩ := n2
    have e3 : m2 = mn := by
      have : (gPut v al ah gl gh (kRow (-10001) (nI p))).1 = v.1 := by rw [gPut_eq]; rfl
      rw [this, e] at e2
      exact ((nI_eq (by omega) (by have := R2.1; omega)).mp e2).symm
    subst e3
    exact own_eq R2.1 R2.2.2.2.2.2.2.2.2.1
  unfold f_X7_own f_X8_own
  dsimp only
  rw [nI_clamp (n := p) (by omega), hR.2.1, nI_clamp (n := mn) (by omega)]
  exact ⟨n3, pMem_remember hM hv, n2⟩
theorem act_link (h : pPlan v nw) (hM : pMem nx kc pl ac di) {caller pa al ah gl gh : Int32} (hk : kd_X7_link v caller pa al ah gl gh = 0) : (f_X7_link nx kc v pl caller pa al ah gl gh).1 = (f_X8_link ac nw di caller pa al ah gl gh).1 ∧ pMem (f_X7_link nx kc v pl caller pa al ah gl gh).2.1 (f_X7_link nx kc v pl caller pa al ah gl gh).2.2.1 (f_X7_link nx kc v pl caller pa al ah gl gh).2.2.2.2 (f_X8_link ac nw di caller pa al ah gl gh).2.1 (f_X8_link ac nw di caller pa al ah gl gh).2.2.1 ∧ pPlan (f_X7_link nx kc v pl caller pa al ah gl gh).2.2.2.1 (f_X8_link ac nw di caller pa al ah gl gh).2.2.2 := by
  have hp : ¬ f_X4_hasPart v.1 pa = 0 := fun q => by
    unfold kd_X7_link at hk
    rw [if_pos q] at hk
    exact absurd hk (by decide)
  have hv := h
  obtain ⟨mn, e, hR⟩ := h
  have hm := hR.1
  have hp9 := hp
  rw [e] at hp9
  obtain ⟨p, hp2, rfl⟩ := part_N hm hp9
  have hc : ∃ row, kCal caller row p ∧ (10 ≤ row ∨ row < mn) ∧ ¬ f_X7_isRange al ah = 0 := by
    unfold kd_X7_link at hk
    rw [if_neg hp] at hk
    by_cases c : caller = -10000
    · rw [if_pos c] at hk
      exact ⟨10, Or.inr (Or.inl ⟨c, rfl⟩), Or.inl (by omega), fun q => by rw [if_pos q] at hk; exact absurd hk (by decide)⟩
    · rw [if_neg c] at hk
      by_cases d : f_X4_hasPart v.1 caller = 0
      · rw [if_pos d] at hk; exact absurd hk (by decide)
      · rw [if_neg d] at hk
        by_cases l : caller ≤ nI p
        · rw [if_pos l] at hk; exact absurd hk (by decide)
        · rw [if_neg l] at hk
          rw [e] at d
          obtain ⟨cc, hcc, rfl⟩ := part_N hm d
          have : ¬ cc ≤ p := fun z => l ((nI_leI (by omega) (by omega)).mpr z)
          exact ⟨cc, Or.inr (Or.inr ⟨rfl, by omega, by omega⟩), Or.inr hcc, fun q => by rw [if_pos q] at hk; exact absurd hk (by decide)⟩
  obtain ⟨row, hc, ho, hr⟩ := hc
  obtain ⟨_, n2⟩ := putR (al := al) (ah := ah) (gl := gl) (gh := gh) e hR hp2 hc ho (range_lo hr)
  have n3 : cLnk (gPut v al ah gl gh (kRow caller (nI p))).2.2.2.2.2.2.2.1 11 = rCnt (f_X8_promise nw (kSide caller) p al ah gl gh) mn 1 11 := by
    obtain ⟨m2, e2, R2⟩ := n2
    have e3 : m2 = mn := by
      have : (gPut v al ah gl gh (kRow caller (nI p))).1 = v.1 := by rw [gPut_eq]; rfl
      rw [this, e] at e2
      exact ((nI_eq (by omega) (by have := R2.1; omega)).mp e2).symm
    subst e3
    exact links_eq R2.1 R2.2.2.2.2.2.2.2.2.1
  unfold f_X7_link f_X8_link
  dsimp only
  rw [nI_clamp (n := p) (by omega), hR.2.1, nI_clamp (n := mn) (by omega)]
  by_cases c : caller = -10000
  · rw [if_pos c, if_pos c]
    exact ⟨n3, pMem_remember hM hv, n2⟩
  · rw [if_neg c, if_neg c]
    exact ⟨n3, pMem_remember hM hv, n2⟩
/-- a contract that is there is taken away -/
theorem remR {caller : Int32} {row p mn : Nat} (e : v.1 = nI mn) (hR : pRel mn v.2.1 v.2.2.1 v.2.2.2.1 v.2.2.2.2.1 v.2.2.2.2.2.1 v.2.2.2.2.2.2.1 v.2.2.2.2.2.2.2.1 v.2.2.2.2.2.2.2.2.1 v.2.2.2.2.2.2.2.2.2 nw) (hp : p < 10) (hc : kCal caller row p) (hf : ¬ f_X1_find v.2.2.2.2.2.2.2.1 caller (nI p) = -10000) : (gRem v caller (nI p)).1 = 1 ∧ (gRem v caller (nI p)).2.1 = nI mn ∧ pPlan (gRem v caller (nI p)).2 (upd nw (81 + 5 * (10 * kSide caller + p) + 0) 0) := by
  have hr := kCal_lt hc
  have hb : ¬ v.2.2.2.2.2.2.2.1 ((row * 10 + p) * 4) = -10000 := fun q => hf ((find_ne hc hp).mpr q)
  have ef : f_X1_find v.2.2.2.2.2.2.2.1 caller (nI p) = nI ((row * 10 + p) * 4) := by rw [find_N hc hp, if_neg hb]
  have n1 := pRel_rem hp hr hR
  have er : f_X1_remove v.2.2.2.2.2.2.2.1 caller (nI p) = (1, upd v.2.2.2.2.2.2.2.1 ((row * 10 + p) * 4) (-10000)) := by
    unfold f_X1_remove
    rw [if_neg hf, ef, nI_clamp (by omega)]
  rw [gRem_eq, kCal_side hc]
  unfold gRem0
  rw [er]
  exact ⟨rfl, e, mn, e, n1⟩
theorem act_drop (h : pPlan v nw) (hM : pMem nx kc pl ac di) {caller pa : Int32} (hk : kd_X7_drop v caller pa = 0) : (f_X7_drop nx kc v pl caller pa).1 = (f_X8_drop ac nw di caller pa).1 ∧ pMem (f_X7_drop nx kc v pl caller pa).2.1 (f_X7_drop nx kc v pl caller pa).2.2.1 (f_X7_drop nx kc v pl caller pa).2.2.2.2 (f_X8_drop ac nw di caller pa).2.1 (f_X8_drop ac nw di caller pa).2.2.1 ∧ pPlan (f_X7_drop nx kc v pl caller pa).2.2.2.1 (f_X8_drop ac nw di caller pa).2.2.2 := by
  have ht : ¬ f_X1_isThere v.2.2.2.2.2.2.2.1 caller pa = 0 := fun q => by
    unfold kd_X7_drop at hk
    rw [if_pos q] at hk
    exact absurd hk (by decide)
  have hv := h
  obtain ⟨mn, e, hR⟩ := h
  have hm := hR.1
  obtain ⟨row, p, hp, rfl, hc, ho, hb, hf⟩ := there_at hm hR.2.2.2.2.2.2.2.2.1 (there_ne ht)
  obtain ⟨_, r2, r3⟩ := remR e hR (show p < 10 by omega) hc (there_ne ht)
  have n3 : cRow (gRem v caller (nI p)).2.2.2.2.2.2.2.2.1 11 10 + cLnk (gRem v caller (nI p)).2.2.2.2.2.2.2.2.1 11 = rCnt (upd nw (81 + 5 * (10 * kSide caller + p) + 0) 0) mn 0 12 := by
    obtain ⟨m2, e2, R2⟩ := r3
    have e3 : m2 = mn := by
      rw [r2] at e2
      exact ((nI_eq (by omega) (by have := R2.1; omega)).mp e2).symm
    subst e3
    exact all_eq R2.1 R2.2.2.2.2.2.2.2.2.1
  unfold f_X7_drop f_X8_drop
  dsimp only
  rw [nI_clamp (n := p) (by omega), hR.2.1, nI_clamp (n := mn) (by omega)]
  exact ⟨n3, pMem_remember hM hv, r3⟩
theorem act_undo (hM : pMem nx kc pl ac di) (hk : kd_X7_undo kc = 0) : nI (f_X7_undo nx kc pl).1 = nI (f_X8_undo ac nw di).1 ∧ pMem (f_X7_undo nx kc pl).2.1 (f_X7_undo nx kc pl).2.2.1 pl (f_X8_undo ac nw di).2.1 di ∧ pPlan (f_X7_undo nx kc pl).2.2.2 (f_X8_undo ac nw di).2.2 := by
  have h1 : 1 ≤ ac := by
    have := hM.2.1
    unfold kd_X7_undo at hk
    by_cases q : kc ≤ 0
    · rw [if_pos q] at hk; exact absurd hk (by decide)
    · omega
  obtain ⟨m1, m2⟩ := pMem_undo (nw := nw) hM h1
  unfold f_X7_undo f_X8_undo
  dsimp only
  refine ⟨?_, m1, m2⟩
  unfold f_X3_size f_X3_takeBackInto
  dsimp only
  rw [hM.2.1]
end PA
end
