-- THE LAW, 1c: my kit, 8: many cells put back, told place by place
noncomputable section
theorem setAll_app (P : va_W) : ∀ (is : List Nat) (cs ws : va_W), (∀ i ∈ is, i < ws.length) → setAll (ws ++ P) is cs = setAll ws is cs ++ P := by
  intro is
  induction is with
  | nil => intro cs ws _; cases cs <;> rfl
  | cons i is ih =>
    intro cs ws h
    cases cs with
    | nil => rfl
    | cons c cs =>
      show setAll ((ws ++ P).set i c) is cs = setAll (ws.set i c) is cs ++ P
      rw [List.set_append_left _ _ (h i List.mem_cons_self)]
      exact ih cs (ws.set i c) (fun j hj => by rw [List.length_set]; exact h j (List.mem_cons_of_mem _ hj))
theorem setAll_len : ∀ (is : List Nat) (cs ws : va_W), (setAll ws is cs).length = ws.length := by
  intro is
  induction is with
  | nil => intro cs ws; cases cs <;> rfl
  | cons i is ih =>
    intro cs ws
    cases cs with
    | nil => rfl
    | cons c cs =>
      show (setAll (ws.set i c) is cs).length = ws.length
      rw [ih, List.length_set]
theorem setAll_by {E E1 E2 P : va_W} (ER : va_W) (isC isR : List Nat) (n : Nat) (hl : E.length = n) (hl2 : E2.length = n) (hlen : isC.length = E1.length) (hnC : va_nd isC = true) (hi : isC.all (fun i => decide (i < n)) = true) (hcov : (List.range n).all (fun i => decide (i ∈ isC) || decide (i ∈ isR)) = true) (h1 : isC.map (fun i => E2[i]?) = E1.map some) (hR1 : isR.map (fun i => E[i]?) = ER.map some) (hR2 : isR.map (fun i => E2[i]?) = ER.map some) : setAll (E ++ P) isC E1 = E2 ++ P := by
  rw [setAll_app P isC E1 E (fun i h => by rw [hl]; exact of_decide_eq_true (List.all_eq_true.mp hi i h))]
  congr 1
  apply List.ext_getElem?
  intro k
  by_cases hk : k < n
  · have hs : k < (setAll E isC E1).length := by rw [setAll_len, hl]; exact hk
    have e0 : (setAll E isC E1)[k]? = some (setAll E isC E1)[k] := List.getElem?_eq_getElem hs
    rw [e0]
    rcases setAll_get isC E1 E hnC k _ e0 with ⟨j, g1, g2⟩ | ⟨g1, g2⟩
    · have g3 : (isC.map (fun i => E2[i]?))[j]? = some (E2[k]?) := by rw [List.getElem?_map, g1]; rfl
      rw [h1, List.getElem?_map, g2] at g3
      exact Option.some.inj g3
    · have hn : ¬ k ∈ isC := fun q => by
        obtain ⟨j, hj⟩ := List.getElem?_of_mem q
        have g3 := g1 j hj
        have g4 := (List.getElem?_eq_some_iff.mp hj).1
        omega
      have hc := List.all_eq_true.mp hcov k (List.mem_range.mpr hk)
      rw [Bool.or_eq_true] at hc
      have hm : k ∈ isR := hc.elim (fun q => absurd (of_decide_eq_true q) hn) (fun q => of_decide_eq_true q)
      obtain ⟨j, hj⟩ := List.getElem?_of_mem hm
      have g3 : (isR.map (fun i => E[i]?))[j]? = some (E[k]?) := by rw [List.getElem?_map, hj]; rfl
      rw [hR1, ← hR2, List.getElem?_map, hj] at g3
      have g4 : E2[k]? = E[k]? := Option.some.inj g3
      rw [g4, g2]
  · rw [List.getElem?_eq_none (by rw [setAll_len, hl]; omega), List.getElem?_eq_none (by rw [hl2]; omega)]
end
