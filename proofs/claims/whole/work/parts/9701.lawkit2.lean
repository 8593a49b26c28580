-- THE LAW, 1b: my kit, 7: cells put back ahead of a block that stands last
noncomputable section
theorem va_nd_app : ∀ (a b : List Nat), va_nd a = true → va_nd b = true → (∀ i ∈ a, i ∉ b) → va_nd (a ++ b) = true := by
  intro a
  induction a with
  | nil => intro b _ h _; exact h
  | cons x a ih =>
    intro b h1 h2 h3
    unfold va_nd at h1
    rw [Bool.and_eq_true] at h1
    show va_nd (x :: (a ++ b)) = true
    unfold va_nd
    rw [Bool.and_eq_true]
    refine ⟨decide_eq_true (fun q => ?_), ih b h1.2 h2 (fun i hi => h3 i (List.mem_cons_of_mem _ hi))⟩
    rcases List.mem_append.mp q with q | q
    · exact of_decide_eq_true h1.1 q
    · exact h3 x List.mem_cons_self q
theorem va_nd_rg : ∀ (n m : Nat), va_nd ((List.range n).map (fun k => m + k)) = true := by
  intro n
  induction n with
  | zero => intro m; rfl
  | succ n ih =>
    intro m
    rw [List.range_succ_eq_map, List.map_cons, List.map_map]
    have e : (List.range n).map ((fun k => m + k) ∘ Nat.succ) = (List.range n).map (fun k => m + 1 + k) := List.map_congr_left (fun k _ => by show m + (k + 1) = m + 1 + k; omega)
    rw [e]
    unfold va_nd
    rw [Bool.and_eq_true]
    refine ⟨decide_eq_true (fun q => ?_), ih (m + 1)⟩
    obtain ⟨k, _, hk⟩ := List.mem_map.mp q
    have hk : m + 1 + k = m + 0 := hk
    omega
section K2
variable {D : va_G} {A : Nat → Prop} {E Ec E1 E2 P P1 : va_W} {H H1 : Heap}
theorem k_at {isC : List Nat} (hiC : isC.map (fun i => E[i]?) = Ec.map some) (j : Nat) (c : Nat × va_E) (hj : Ec[j]? = some c) : ∃ i : Nat, isC[j]? = some i ∧ E[i]? = some c := by
  have h1 : (isC.map (fun i => E[i]?))[j]? = some (some c) := by rw [hiC, List.getElem?_map, hj]; rfl
  rw [List.getElem?_map] at h1
  cases hi : isC[j]? with
  | none => rw [hi] at h1; cases h1
  | some i => rw [hi] at h1; exact ⟨i, rfl, Option.some.inj h1⟩
theorem k_idx {isC : List Nat} (hiC : isC.map (fun i => E[i]?) = Ec.map some) (hnC : va_nd isC = true) : ∃ is2 : List Nat, is2.map (fun i => (E ++ P)[i]?) = (Ec ++ P).map some ∧ va_nd is2 = true := by
  have hlt : ∀ i ∈ isC, i < E.length := by
    intro i hi
    have h1 : E[i]? ∈ Ec.map some := by rw [← hiC]; exact List.mem_map.mpr ⟨i, hi, rfl⟩
    obtain ⟨c, _, hc⟩ := List.mem_map.mp h1
    exact (List.getElem?_eq_some_iff.mp hc.symm).1
  refine ⟨isC ++ (List.range P.length).map (fun k => E.length + k), ?_, va_nd_app _ _ hnC (va_nd_rg _ _) (fun i hi q => ?_)⟩
  · rw [List.map_append, List.map_append, ← hiC]
    have h1 : isC.map (fun i => (E ++ P)[i]?) = isC.map (fun i => E[i]?) := List.map_congr_left (fun i hi => List.getElem?_append_left (hlt i hi))
    have h2 : ((List.range P.length).map (fun k => E.length + k)).map (fun i => (E ++ P)[i]?) = P.map some := by
      rw [List.map_map]
      apply List.ext_getElem?
      intro k
      rw [List.getElem?_map, List.getElem?_map]
      by_cases h : k < P.length
      · have h3 : (List.range P.length)[k]? = some k := by rw [List.getElem?_eq_getElem (by rw [List.length_range]; exact h), List.getElem_range]
        have h4 : P[k]? = some P[k] := List.getElem?_eq_getElem h
        rw [h3, h4]
        show some ((E ++ P)[E.length + k]?) = some (some P[k])
        rw [k_suf h4]
      · have h3 : (List.range P.length)[k]? = none := List.getElem?_eq_none (by rw [List.length_range]; omega)
        have h4 : P[k]? = none := List.getElem?_eq_none (by omega)
        rw [h3, h4]
        rfl
    rw [h1, h2]
  · obtain ⟨k, _, hk⟩ := List.mem_map.mp q
    have hk : E.length + k = i := hk
    have := hlt i hi
    omega
theorem k_put2 (hP : va_P D vwCl (E ++ P) H) (hD : va_D A (E ++ P)) (isC : List Nat) (hiC : isC.map (fun i => E[i]?) = Ec.map some) (hnC : va_nd isC = true) (hw1 : E1.map Prod.fst = Ec.map Prod.fst) (h2 : setAll E isC E1 = E2) (hPa : P1.map Prod.fst = P.map Prod.fst) (hk1 : ∀ q : Nat, q < H.size → ¬ va_A (Ec ++ P) H.size q → H1[q]? = H[q]?) (hP1 : va_P D vwCl (E1 ++ P1) H1) : va_P D vwCl (E2 ++ P1) H1 ∧ va_D A (E2 ++ P1) := by
  subst h2
  have hl1 : E1.length = Ec.length := by
    have := congrArg List.length hw1
    rw [List.length_map, List.length_map] at this
    exact this
  have inE : ∀ {k : Nat} {q : Nat × va_E}, E[k]? = some q → (E ++ P)[k]? = some q := fun {k q} hk => by rw [List.getElem?_append_left (List.getElem?_eq_some_iff.mp hk).1]; exact hk
  have had : ∀ (k : Nat) (q : Nat × va_E), (setAll E isC E1)[k]? = some q → ∃ e : va_E, E[k]? = some (q.1, e) := by
    intro k q hk
    rcases setAll_get isC E1 E hnC k q hk with ⟨j, h1, h2⟩ | ⟨_, h2⟩
    · have h3 : (Ec.map Prod.fst)[j]? = some q.1 := by rw [← hw1, List.getElem?_map, h2]; rfl
      rw [List.getElem?_map] at h3
      cases hc : Ec[j]? with
      | none => rw [hc] at h3; cases h3
      | some c =>
        rw [hc] at h3
        have h4 : c.1 = q.1 := Option.some.inj h3
        obtain ⟨i, h5, h6⟩ := k_at hiC j c hc
        have h7 : i = k := Option.some.inj (h5.symm.trans h1)
        subst h7
        exact ⟨c.2, by rw [h6, ← h4]⟩
    · exact ⟨q.2, h2⟩
  have hlen : (setAll E isC E1).length = E.length := by
    have h3 : ∀ (is : List Nat) (cs ws : va_W), (setAll ws is cs).length = ws.length := by
      intro is
      induction is with
      | nil => intro cs ws; cases cs <;> rfl
      | cons i is ih =>
        intro cs ws
        cases cs with
        | nil => rfl
        | cons c cs =>
          show (setAll (ws.set i c) is cs).length = ws.length
          rw [ih, List.length_set]
    exact h3 isC E1 E
  have had2 : ∀ (k : Nat) (q : Nat × va_E), (setAll E isC E1 ++ P1)[k]? = some q → ∃ e : va_E, (E ++ P)[k]? = some (q.1, e) := by
    intro k q hk
    by_cases c : k < (setAll E isC E1).length
    · rw [List.getElem?_append_left c] at hk
      obtain ⟨e, h1⟩ := had k q hk
      exact ⟨e, inE h1⟩
    · rw [List.getElem?_append_right (by omega)] at hk
      have h3 : (P.map Prod.fst)[k - (setAll E isC E1).length]? = some q.1 := by rw [← hPa, List.getElem?_map, hk]; rfl
      rw [List.getElem?_map] at h3
      cases hc : P[k - (setAll E isC E1).length]? with
      | none => rw [hc] at h3; cases h3
      | some c9 =>
        rw [hc] at h3
        have h4 : c9.1 = q.1 := Option.some.inj h3
        refine ⟨c9.2, ?_⟩
        rw [List.getElem?_append_right (by omega), ← hlen, hc, ← h4]
  refine ⟨fun k q hk => ?_, fun i j p q hi hj h => ?_, fun k q hk => ?_⟩
  · by_cases c : k < (setAll E isC E1).length
    · rw [List.getElem?_append_left c] at hk
      rcases setAll_get isC E1 E hnC k q hk with ⟨j, h1, h2⟩ | ⟨hn, h2⟩
      · exact hP1 j q (by rw [List.getElem?_append_left (List.getElem?_eq_some_iff.mp h2).1]; exact h2)
      · refine (hP k q (inE h2)).kept (hk1 q.1 ((hP k q (inE h2)).lt) (fun h => ?_))
        rcases h with ⟨j, e, h⟩ | h
        · by_cases cj : j < Ec.length
          · rw [List.getElem?_append_left cj] at h
            obtain ⟨i, h5, h6⟩ := k_at hiC j (q.1, e) h
            have h7 : k = i := hD.1 k i q (q.1, e) (inE h2) (inE h6) rfl
            subst h7
            have h8 := hn j h5
            omega
          · rw [List.getElem?_append_right (by omega)] at h
            have h7 := hD.1 k _ q (q.1, e) (inE h2) (k_suf h) rfl
            have h9 := (List.getElem?_eq_some_iff.mp h2).1
            omega
        · have := (hP k q (inE h2)).lt
          omega
    · rw [List.getElem?_append_right (by omega)] at hk
      exact hP1 _ q (k_suf hk)
  · obtain ⟨e1, h1⟩ := had2 i p hi
    obtain ⟨e2, h2⟩ := had2 j q hj
    exact hD.1 i j (p.1, e1) (q.1, e2) h1 h2 h
  · obtain ⟨e1, h1⟩ := had2 k q hk
    exact hD.2 k (q.1, e1) h1
end K2
section KL2
variable {p : Program} {l : Launch} {e : Env} {R : Room} {s : State} {m : MethodId} {args : Array Value} {below : List Frame} {meth : Method} {c : Code} {H0 H : Heap} {locs : List Loc} {cells slots : Nat} {Q : State → Prop}
variable {cc : ByteArray} {pc : Nat} {ls : Array Slot} {rest st0 : List Value}
variable {D : va_G} {g : Nat → Nat} {A : Nat → Prop} {E Ec E1 E2 P P1 : va_W}
theorem kPV2 {C : String} {b : Addr} {As : List Value} (hP : va_P D vwCl (E ++ P) H) (hD : va_D A (E ++ P)) (hK : va_K D vwCl (kTy g) s) (hS : va_S A s.heap H locs) (hA : ∀ q : Nat, s.heap.size ≤ q → A q) (hE : kEnv g A s s.heap) (isC : List Nat) (hiC : isC.map (fun i => E[i]?) = Ec.map some) (hnC : va_nd isC = true) (qb ci : Nat) {fs : List Value} {q : vw_C} (hqb : E[qb]? = some (b, .inr (ci, fs))) (hcl : vwCl[ci]? = some q) (hq : q.1 = C) : PreV s H C b (va_Pc (.ref b :: As) (kPre D g (Ec ++ P) H.size)) As := by
  obtain ⟨is2, h1, h2⟩ := k_idx (P := P) hiC hnC
  exact kPV hP hD hK hS hA hE is2 h1 h2 qb ci (by rw [List.getElem?_append_left (List.getElem?_eq_some_iff.mp hqb).1]; exact hqb) hcl hq
/-- a call: the callee's cells put back at their places, a block that stands last among them -/
theorem k_aiS2 {r : Int32} {a : Array Value} {mc ms : Nat} (hr : va_Run p l e R s m args below meth c H locs cells slots mc ms (F0 m pc ls st0) rest (kQi D (E1 ++ P1) (va_A (Ec ++ P) H.size) r a) (va_A (Ec ++ P) H.size)) (hP : va_P D vwCl (E ++ P) H) (hD : va_D A (E ++ P)) (hS : va_S A H0 H locs) (hA : ∀ q : Nat, H0.size ≤ q → A q) (isC : List Nat) (hiC : isC.map (fun i => E[i]?) = Ec.map some) (hnC : va_nd isC = true) (hw1 : E1.map Prod.fst = Ec.map Prod.fst) (h2 : setAll E isC E1 = E2) (hPa : P1.map Prod.fst = P.map Prod.fst)
    (kk : ∀ (H1 : Heap) (locs1 : List Loc), va_P D vwCl (E2 ++ P1) H1 → va_D A (E2 ++ P1) → va_S A H0 H1 locs1 → W p l e R s m args below meth c H1 locs1 (cells + mc) (slots + ms) Q (F0 m (pc + 3) ls (.int r :: rest))) : W p l e R s m args below meth c H locs cells slots Q (F0 m pc ls st0) := by
  obtain ⟨is2, g1, g2⟩ := k_idx (P := P) hiC hnC
  have hFc := va_free hD hS hA is2 g1
  refine va_calli hr hS (fun q _ h => hFc q h) hFc (fun r' u t H1 locs1 ht hvm hw hB hz1 hk1 hS1 => ?_)
  obtain rfl : r' = r := hw
  obtain ⟨hP1, hD1⟩ := hB
  rw [ht] at hP1
  obtain ⟨hP2, hD2⟩ := k_put2 hP hD isC hiC hnC hw1 h2 hPa hk1 hP1
  exact kk H1 locs1 hP2 hD2 hS1
end KL2
theorem wPool_addr (g : Nat → Nat) (ad : Nat → Nat → Nat) (pl pl2 : Nat → KPV) : (wPool g ad pl2).map Prod.fst = (wPool g ad pl).map Prod.fst := rfl
end
