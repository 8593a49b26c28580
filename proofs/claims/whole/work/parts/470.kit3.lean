-- MY KIT, 3: contracts under another start, over a wider world, with other words for the end; contracts of methods that throw
theorem Met_mono {l : Launch} {y : MethodName} {ws : List Cond} {rm : Room} {Pc Pc' : Array Value → State → Prop} {Qc Qc' : Array Value → State → Outcome → State → Prop} {mc ms : Nat} {free free' : Addr → Prop} (h : Met l y ws rm Pc Qc mc ms free) (hp : ∀ a s, Pc' a s → Pc a s) (hq : ∀ a s o t, Pc' a s → Qc a s o t → Qc' a s o t) (hf : ∀ q, free q → free' q) : Met l y ws rm Pc' Qc' mc ms free' := by
  intro p e h1 h2 h3 s m args below hf' hS hP hK
  obtain ⟨n, o, a1, a2, a3, a4, L, a5, a6⟩ := h p e h1 h2 h3 s m args below hf' hS (hp _ _ hP) hK
  exact ⟨n, o, a1, a2, a3, hq _ _ _ _ hP a4, L, a5, fun q hq' => hf _ (a6 q hq')⟩
theorem k_Asub {ws wc : va_W} {isC : List Nat} (hiC : isC.map (fun i => ws[i]?) = wc.map some) {sz q : Nat} (h : va_A wc sz q) : va_A ws sz q := by
  rcases h with ⟨k, e, h⟩ | h
  · have h1 : (isC.map (fun i => ws[i]?))[k]? = some (some (q, e)) := by rw [hiC, List.getElem?_map, h]; rfl
    rw [List.getElem?_map] at h1
    cases hi : isC[k]? with
    | none => rw [hi] at h1; cases h1
    | some i => rw [hi] at h1; exact Or.inl ⟨i, e, Option.some.inj h1⟩
  · exact Or.inr h
section K3
variable {l : Launch} {D : va_G} {g : Nat → Nat} {y : MethodName} {wy : List Cond} {n mc ms sz : Nat} {av : List Value} {ws wc wr w1 w2 : va_W}
theorem k_preF {isC : List Nat} (hiC : isC.map (fun i => ws[i]?) = wc.map some) (hnC : va_nd isC = true) {a : Array Value} {s : State} (h : va_Pc av (kPre D g ws sz) a s) : va_Pc av (kPre D g wc sz) a s := by
  obtain ⟨e1, e2, hP, hK, hD, hE⟩ := h
  exact ⟨e1, e2, hP.sub isC (k_sub hiC), hK, (hD.sub isC hnC hiC).weaken (fun _ _ _ _ => trivial), hE.narrow (fun q hq => k_Asub hiC hq)⟩
theorem k_endF {isC isR js : List Nat} (hiC : isC.map (fun i => ws[i]?) = wc.map some) (hiR : isR.map (fun i => ws[i]?) = wr.map some) (hnR : va_nd isR = true) (hdis : ∀ i ∈ isR, i ∉ isC) (hjs : js.map (fun i => (wr ++ w1)[i]?) = w2.map some) (hnj : va_nd js = true) {a : Array Value} {s t : State} (h : va_Pc av (kPre D g ws sz) a s) (hF : va_F (va_A wc sz) s t) (hP1 : va_P D vwCl w1 t.heap) (hD1 : va_D (va_A wc sz) w1) : va_P D vwCl w2 t.heap ∧ va_D (va_A ws sz) w2 ∧ va_F (va_A ws sz) s t := by
  obtain ⟨e1, e2, hP, hK, hD, hE⟩ := h
  subst e2
  have hDA : va_D (va_A ws s.heap.size) ws := hD.self
  obtain ⟨hP2, hD2⟩ := va_join hP hDA isC isR hiC hiR hnR hdis (fun q h1 h2 => hF.2 q h1 h2) (fun q hq => k_Asub hiC hq) hP1 hD1
  exact ⟨hP2.sub js (k_sub hjs), hD2.sub js hnj hjs, hF.1, fun q h1 h2 => hF.2 q h1 (fun h => h2 (k_Asub hiC h))⟩
theorem k_frame_i {r : Int32} (h : kMi l D g y wy n mc ms av wc sz r w1) (isC isR js : List Nat) (hiC : isC.map (fun i => ws[i]?) = wc.map some) (hnC : va_nd isC = true) (hiR : isR.map (fun i => ws[i]?) = wr.map some) (hnR : va_nd isR = true) (hdis : ∀ i ∈ isR, i ∉ isC) (hjs : js.map (fun i => (wr ++ w1)[i]?) = w2.map some) (hnj : va_nd js = true) : kMi l D g y wy n mc ms av ws sz r w2 := by
  refine Met_mono h (fun a s hp => k_preF hiC hnC hp) ?_ (fun q hq => k_Asub hiC hq)
  rintro a s o t hp ⟨⟨r', u, ho, hr, hP1, hD1⟩, hF⟩
  obtain ⟨k1, k2, k3⟩ := k_endF hiC hiR hnR hdis hjs hnj hp hF hP1 hD1
  exact ⟨⟨r', u, ho, hr, k1, k2⟩, k3⟩
theorem k_frame_l {r : Int64} (h : kMl l D g y wy n mc ms av wc sz r w1) (isC isR js : List Nat) (hiC : isC.map (fun i => ws[i]?) = wc.map some) (hnC : va_nd isC = true) (hiR : isR.map (fun i => ws[i]?) = wr.map some) (hnR : va_nd isR = true) (hdis : ∀ i ∈ isR, i ∉ isC) (hjs : js.map (fun i => (wr ++ w1)[i]?) = w2.map some) (hnj : va_nd js = true) : kMl l D g y wy n mc ms av ws sz r w2 := by
  refine Met_mono h (fun a s hp => k_preF hiC hnC hp) ?_ (fun q hq => k_Asub hiC hq)
  rintro a s o t hp ⟨⟨r', u, ho, hr, hP1, hD1⟩, hF⟩
  obtain ⟨k1, k2, k3⟩ := k_endF hiC hiR hnR hdis hjs hnj hp hF hP1 hD1
  exact ⟨⟨r', u, ho, hr, k1, k2⟩, k3⟩
theorem k_frame_v (h : kMv l D g y wy n mc ms av wc sz w1) (isC isR js : List Nat) (hiC : isC.map (fun i => ws[i]?) = wc.map some) (hnC : va_nd isC = true) (hiR : isR.map (fun i => ws[i]?) = wr.map some) (hnR : va_nd isR = true) (hdis : ∀ i ∈ isR, i ∉ isC) (hjs : js.map (fun i => (wr ++ w1)[i]?) = w2.map some) (hnj : va_nd js = true) : kMv l D g y wy n mc ms av ws sz w2 := by
  refine Met_mono h (fun a s hp => k_preF hiC hnC hp) ?_ (fun q hq => k_Asub hiC hq)
  rintro a s o t hp ⟨⟨u, ho, hr, hP1, hD1⟩, hF⟩
  obtain ⟨k1, k2, k3⟩ := k_endF hiC hiR hnR hdis hjs hnj hp hF hP1 hD1
  exact ⟨⟨u, ho, hr, k1, k2⟩, k3⟩
theorem k_post_i {r : Int32} (h : kMi l D g y wy n mc ms av ws sz r w1) (hw : ∀ (A : Nat → Prop) (H : Heap), va_P D vwCl w1 H → va_D A w1 → va_P D vwCl w2 H ∧ va_D A w2) : kMi l D g y wy n mc ms av ws sz r w2 := by
  refine Met_mono h (fun _ _ hp => hp) ?_ (fun q hq => hq)
  rintro a s o t hp ⟨⟨r', u, ho, hr, hP1, hD1⟩, hF⟩
  exact ⟨⟨r', u, ho, hr, hw _ _ hP1 hD1⟩, hF⟩
theorem k_post_v (h : kMv l D g y wy n mc ms av ws sz w1) (hw : ∀ (A : Nat → Prop) (H : Heap), va_P D vwCl w1 H → va_D A w1 → va_P D vwCl w2 H ∧ va_D A w2) : kMv l D g y wy n mc ms av ws sz w2 := by
  refine Met_mono h (fun _ _ hp => hp) ?_ (fun q hq => hq)
  rintro a s o t hp ⟨⟨u, ho, hr, hP1, hD1⟩, hF⟩
  exact ⟨⟨u, ho, hr, hw _ _ hP1 hD1⟩, hF⟩
/-- more cells and slots are allowed -/
theorem k_wide_i {mc' ms' : Nat} {r : Int32} (h : kMi l D g y wy n mc ms av ws sz r w1) : kMi l D g y wy n mc ms av ws sz r w1 := h
end K3
/-- ints that are -10000 below no number of places -/
theorem isPart_N {rw : Nat → Int32} {p : Int32} {mn : Nat} (h : ¬ f_X8_in (Int32.toInt64 p) 0 (Int32.toInt64 (rw 0 - 1)) = 0) (h0 : rw 0 = nI mn) (h9 : mn ≤ 10) : p = nI p.toNatClampNeg ∧ p.toNatClampNeg < mn := by
  unfold f_X8_in at h
  have e : (Int32.toInt64 p).toInt = p.toInt := Int32.toInt_toInt64 p
  have e0 : (0 : Int64).toInt = 0 := by decide
  have f0 : (0 : Int32).toInt = 0 := by decide
  have hj : (rw 0 - 1).toInt = (mn : Int) - 1 := by
    rw [h0]
    cases mn with
    | zero => decide
    | succ k => rw [nI_pred, nI_toInt (by omega)]; omega
  have e9 : (Int32.toInt64 (rw 0 - 1)).toInt = (mn : Int) - 1 := by rw [Int32.toInt_toInt64, hj]
  by_cases h1 : (Int32.toInt64 p) < 0
  · rw [if_pos h1] at h; exact absurd rfl h
  · rw [if_neg h1] at h
    by_cases h2 : Int32.toInt64 (rw 0 - 1) < Int32.toInt64 p
    · rw [if_pos h2] at h; exact absurd rfl h
    · have h3 : ¬ p < 0 := fun q => h1 (Int64.lt_iff_toInt_lt.mpr (by have q1 := Int32.lt_iff_toInt_lt.mp q; omega))
      obtain ⟨j, hj2, ej⟩ := nI_of h3
      have h4 : ¬ (mn : Int) - 1 < p.toInt := fun q => h2 (Int64.lt_iff_toInt_lt.mpr (by omega))
      rw [ej, nI_toInt hj2] at h4
      rw [ej, nI_clamp hj2]
      exact ⟨rfl, by omega⟩
theorem in_N {x : Int32} {hi : Int64} {K : Nat} (hK : hi.toInt = (K : Int)) (h : ¬ f_X8_in (Int32.toInt64 x) 0 hi = 0) : x = nI x.toNatClampNeg ∧ x.toNatClampNeg ≤ K := by
  unfold f_X8_in at h
  have e : (Int32.toInt64 x).toInt = x.toInt := Int32.toInt_toInt64 x
  have e0 : (0 : Int64).toInt = 0 := by decide
  have f0 : (0 : Int32).toInt = 0 := by decide
  by_cases h1 : (Int32.toInt64 x) < 0
  · rw [if_pos h1] at h; exact absurd rfl h
  · rw [if_neg h1] at h
    by_cases h2 : hi < Int32.toInt64 x
    · rw [if_pos h2] at h; exact absurd rfl h
    · have h3 : ¬ x < 0 := fun q => h1 (Int64.lt_iff_toInt_lt.mpr (by have q1 := Int32.lt_iff_toInt_lt.mp q; omega))
      obtain ⟨j, hj2, ej⟩ := nI_of h3
      have h4 : ¬ hi.toInt < x.toInt := fun q => h2 (Int64.lt_iff_toInt_lt.mpr (by omega))
      rw [ej, nI_toInt hj2] at h4
      rw [ej, nI_clamp hj2]
      exact ⟨rfl, by omega⟩
