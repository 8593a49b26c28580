-- THE LAW, 1: my kit, 6: cells put back at their places; worlds side by side; methods that catch
noncomputable section
def setAll : va_W → List Nat → va_W → va_W
  | ws, i :: is, c :: cs => setAll (ws.set i c) is cs
  | ws, _, _ => ws
theorem setAll_get : ∀ (is : List Nat) (cs ws : va_W), va_nd is = true → ∀ (k : Nat) (q : Nat × va_E), (setAll ws is cs)[k]? = some q → (∃ j : Nat, is[j]? = some k ∧ cs[j]? = some q) ∨ ((∀ j : Nat, is[j]? = some k → cs.length ≤ j) ∧ ws[k]? = some q) := by
  intro is
  induction is with
  | nil =>
    intro cs ws _ k q h
    have h : ws[k]? = some q := by
      cases cs <;> exact h
    exact Or.inr ⟨fun j hj => (by cases hj), h⟩
  | cons i is ih =>
    intro cs ws hn k q h
    have hn1 : i ∉ is ∧ va_nd is = true := by
      have := hn
      unfold va_nd at this
      rw [Bool.and_eq_true] at this
      exact ⟨of_decide_eq_true this.1, this.2⟩
    cases cs with
    | nil =>
      have h : ws[k]? = some q := h
      exact Or.inr ⟨fun j _ => Nat.zero_le j, h⟩
    | cons c cs =>
      have h : (setAll (ws.set i c) is cs)[k]? = some q := h
      rcases ih cs (ws.set i c) hn1.2 k q h with ⟨j, h1, h2⟩ | ⟨h1, h2⟩
      · exact Or.inl ⟨j + 1, h1, h2⟩
      · by_cases e : i = k
        · subst e
          have hl : i < ws.length := by
            have := (List.getElem?_eq_some_iff.mp h2).1
            rw [List.length_set] at this
            exact this
          rw [List.getElem?_set_self hl] at h2
          cases h2
          exact Or.inl ⟨0, rfl, rfl⟩
        · rw [List.getElem?_set_ne e] at h2
          refine Or.inr ⟨fun j hj => ?_, h2⟩
          cases j with
          | zero => exact absurd (Option.some.inj hj) e
          | succ j => exact Nat.succ_le_succ (h1 j hj)
section KS
variable {D : va_G} {A : Nat → Prop} {ws wc w1 w2 : va_W} {H H1 : Heap}
theorem k_put (hP : va_P D vwCl ws H) (hD : va_D A ws) (isC : List Nat) (hiC : isC.map (fun i => ws[i]?) = wc.map some) (hnC : va_nd isC = true) (hw1 : w1.map Prod.fst = wc.map Prod.fst) (h2 : setAll ws isC w1 = w2) (hk1 : ∀ q : Nat, q < H.size → ¬ va_A wc H.size q → H1[q]? = H[q]?) (hP1 : va_P D vwCl w1 H1) : va_P D vwCl w2 H1 ∧ va_D A w2 := by
  subst h2
  have hl : isC.length = wc.length := by
    have := congrArg List.length hiC
    rw [List.length_map, List.length_map] at this
    exact this
  have hl1 : w1.length = wc.length := by
    have := congrArg List.length hw1
    rw [List.length_map, List.length_map] at this
    exact this
  have hat : ∀ (j : Nat) (c : Nat × va_E), wc[j]? = some c → ∃ i : Nat, isC[j]? = some i ∧ ws[i]? = some c := by
    intro j c hj
    have h1 : (isC.map (fun i => ws[i]?))[j]? = some (some c) := by rw [hiC, List.getElem?_map, hj]; rfl
    rw [List.getElem?_map] at h1
    cases hi : isC[j]? with
    | none => rw [hi] at h1; cases h1
    | some i => rw [hi] at h1; exact ⟨i, rfl, Option.some.inj h1⟩
  have had : ∀ (k : Nat) (q : Nat × va_E), (setAll ws isC w1)[k]? = some q → ∃ e : va_E, ws[k]? = some (q.1, e) := by
    intro k q hk
    rcases setAll_get isC w1 ws hnC k q hk with ⟨j, h1, h2⟩ | ⟨_, h2⟩
    · have h3 : (wc.map Prod.fst)[j]? = some q.1 := by rw [← hw1, List.getElem?_map, h2]; rfl
      rw [List.getElem?_map] at h3
      cases hc : wc[j]? with
      | none => rw [hc] at h3; cases h3
      | some c =>
        rw [hc] at h3
        have h4 : c.1 = q.1 := Option.some.inj h3
        obtain ⟨i, h5, h6⟩ := hat j c hc
        have h7 : i = k := Option.some.inj (h5.symm.trans h1)
        subst h7
        exact ⟨c.2, by rw [h6, ← h4]⟩
    · exact ⟨q.2, h2⟩
  refine ⟨fun k q hk => ?_, fun i j p q hi hj h => ?_, fun k q hk => ?_⟩
  · rcases setAll_get isC w1 ws hnC k q hk with ⟨j, h1, h2⟩ | ⟨hn, h2⟩
    · exact hP1 j q h2
    · refine (hP k q h2).kept (hk1 q.1 ((hP k q h2).lt) (fun h => ?_))
      rcases h with ⟨j, e, h⟩ | h
      · obtain ⟨i, h5, h6⟩ := hat j (q.1, e) h
        have h7 : k = i := hD.1 k i q (q.1, e) h2 h6 rfl
        subst h7
        have h8 := hn j h5
        have h9 := (List.getElem?_eq_some_iff.mp h).1
        omega
      · have := (hP k q h2).lt
        omega
  · obtain ⟨e1, h1⟩ := had i p hi
    obtain ⟨e2, h2⟩ := had j q hj
    exact hD.1 i j (p.1, e1) (q.1, e2) h1 h2 h
  · obtain ⟨e1, h1⟩ := had k q hk
    exact hD.2 k (q.1, e1) h1
/-- two groups of cells, the other way round -/
theorem k_swI {wa wb : va_W} {k : Nat} {q : Nat × va_E} (h : (wb ++ wa)[k]? = some q) : (wa ++ wb)[if k < wb.length then wa.length + k else k - wb.length]? = some q := by
  by_cases c : k < wb.length
  · rw [if_pos c]
    rw [List.getElem?_append_left c] at h
    exact k_suf h
  · rw [if_neg c]
    rw [List.getElem?_append_right (by omega)] at h
    rw [List.getElem?_append_left (List.getElem?_eq_some_iff.mp h).1]
    exact h
theorem k_swP {wa wb : va_W} (h : va_P D vwCl (wa ++ wb) H) : va_P D vwCl (wb ++ wa) H := fun _ q hk => h _ q (k_swI hk)
theorem k_swD {wa wb : va_W} (h : va_D A (wa ++ wb)) : va_D A (wb ++ wa) := by
  refine ⟨fun i j p q hi hj e => ?_, fun k q hk => h.2 _ q (k_swI hk)⟩
  have h1 := h.1 _ _ p q (k_swI hi) (k_swI hj) e
  have l1 := (List.getElem?_eq_some_iff.mp hi).1
  have l2 := (List.getElem?_eq_some_iff.mp hj).1
  rw [List.length_append] at l1 l2
  by_cases c1 : i < wb.length
  · by_cases c2 : j < wb.length
    · rw [if_pos c1, if_pos c2] at h1; omega
    · rw [if_pos c1, if_neg c2] at h1; omega
  · by_cases c2 : j < wb.length
    · rw [if_neg c1, if_pos c2] at h1; omega
    · rw [if_neg c1, if_neg c2] at h1; omega
end KS
theorem k_frameS {l : Launch} {D : va_G} {g : Nat → Nat} {y : MethodName} {wy : List Cond} {n mc ms sz : Nat} {av : List Value} {ws wc w1 w2 : va_W} {r : Int32} (h : kMi l D g y wy n mc ms av wc sz r w1) (isC : List Nat) (hiC : isC.map (fun i => ws[i]?) = wc.map some) (hnC : va_nd isC = true) (hw1 : w1.map Prod.fst = wc.map Prod.fst) (h2 : setAll ws isC w1 = w2) : kMi l D g y wy n mc ms av ws sz r w2 := by
  refine Met_mono h (fun a s hp => k_preF hiC hnC hp) ?_ (fun q hq => k_Asub hiC hq)
  rintro a s o t hp ⟨⟨r', u, ho, hr, hP1, hD1⟩, hF⟩
  obtain ⟨e1, e2, hP, hK, hD, hE⟩ := hp
  subst e2
  have hDA : va_D (va_A ws s.heap.size) ws := hD.self
  obtain ⟨k1, k2⟩ := k_put hP hDA isC hiC hnC hw1 h2 (fun q h1 h2 => hF.2 q h1 h2) hP1
  exact ⟨⟨r', u, ho, hr, k1, k2⟩, hF.1, fun q h1 h2 => hF.2 q h1 (fun h => h2 (k_Asub hiC h))⟩
section KL
variable {p : Program} {l : Launch} {e : Env} {R : Room} {s : State} {m : MethodId} {args : Array Value} {below : List Frame} {meth : Method} {c : Code} {H0 H : Heap} {locs : List Loc} {cells slots : Nat} {Q : State → Prop}
variable {cc : ByteArray} {pc : Nat} {ls : Array Slot} {rest st0 : List Value}
variable {D : va_G} {g : Nat → Nat} {A : Nat → Prop} {ws wa wc w1 w2 : va_W}
/-- a call: the callee's cells put back at their places -/
theorem k_aiS {r : Int32} {a : Array Value} {mc ms : Nat} (hr : va_Run p l e R s m args below meth c H locs cells slots mc ms (F0 m pc ls st0) rest (kQi D w1 (va_A wc H.size) r a) (va_A wc H.size)) (hP : va_P D vwCl ws H) (hD : va_D A ws) (hS : va_S A H0 H locs) (hA : ∀ q : Nat, H0.size ≤ q → A q) (isC : List Nat) (hiC : isC.map (fun i => ws[i]?) = wc.map some) (hnC : va_nd isC = true) (hw1 : w1.map Prod.fst = wc.map Prod.fst) (h2 : setAll ws isC w1 = w2)
    (kk : ∀ (H1 : Heap) (locs1 : List Loc), va_P D vwCl w2 H1 → va_D A w2 → va_S A H0 H1 locs1 → W p l e R s m args below meth c H1 locs1 (cells + mc) (slots + ms) Q (F0 m (pc + 3) ls (.int r :: rest))) : W p l e R s m args below meth c H locs cells slots Q (F0 m pc ls st0) := by
  have hFc := va_free hD hS hA isC hiC
  refine va_calli hr hS (fun q _ h => hFc q h) hFc (fun r' u t H1 locs1 ht hvm hw hB hz1 hk1 hS1 => ?_)
  obtain rfl : r' = r := hw
  obtain ⟨hP1, hD1⟩ := hB
  rw [ht] at hP1
  obtain ⟨hP2, hD2⟩ := k_put hP hD isC hiC hnC hw1 h2 hk1 hP1
  exact kk H1 locs1 hP2 hD2 hS1
/-- a call on the cells that stand last -/
theorem k_aiR {r : Int32} {a : Array Value} {mc ms : Nat} (hr : va_Run p l e R s m args below meth c H locs cells slots mc ms (F0 m pc ls st0) rest (kQi D w1 (va_A wc H.size) r a) (va_A wc H.size)) (hP : va_P D vwCl (wa ++ wc) H) (hD : va_D A (wa ++ wc)) (hS : va_S A H0 H locs) (hA : ∀ q : Nat, H0.size ≤ q → A q)
    (kk : ∀ (H1 : Heap) (locs1 : List Loc), va_P D vwCl (wa ++ w1) H1 → va_D A (wa ++ w1) → va_S A H0 H1 locs1 → W p l e R s m args below meth c H1 locs1 (cells + mc) (slots + ms) Q (F0 m (pc + 3) ls (.int r :: rest))) : W p l e R s m args below meth c H locs cells slots Q (F0 m pc ls st0) := by
  have hFc : ∀ q, va_A wc H.size q → A q := k_sufF hD hS hA
  have hPa : va_P D vwCl wa H := fun k q hk => hP k q (by rw [List.getElem?_append_left (List.getElem?_eq_some_iff.mp hk).1]; exact hk)
  have inA : ∀ {k : Nat} {q : Nat × va_E}, wa[k]? = some q → (wa ++ wc)[k]? = some q := fun {k q} hk => by rw [List.getElem?_append_left (List.getElem?_eq_some_iff.mp hk).1]; exact hk
  have apart : ∀ (k : Nat) (q : Nat × va_E), wa[k]? = some q → ¬ va_A wc H.size q.1 := by
    intro k q hk h
    rcases h with ⟨k2, e, h⟩ | h
    · have h1 := hD.1 _ _ q (q.1, e) (inA hk) (k_suf h) rfl
      have := (List.getElem?_eq_some_iff.mp hk).1
      omega
    · have := (hPa k q hk).lt
      omega
  refine va_calli hr hS (fun q _ h => hFc q h) hFc (fun r' u t H1 locs1 ht hvm hw hB hz1 hk1 hS1 => ?_)
  obtain rfl : r' = r := hw
  obtain ⟨hP1, hD1⟩ := hB
  rw [ht] at hP1
  exact kk H1 locs1 (va_P.app (fun k q hk => (hPa k q hk).kept (hk1 q.1 (hPa k q hk).lt (apart k q hk))) hP1) (va_D.app ⟨fun i j p q hi hj h => hD.1 i j p q (inA hi) (inA hj) h, fun k q hk => hD.2 k q (inA hk)⟩ (hD1.weaken (fun k q _ h => hFc q.1 h)) (fun i j x y hx hy hxy => apart i x hx (by rw [hxy]; exact hD1.2 j y hy))) hS1
theorem kPSsX {As : List Value} (hP : va_P D vwCl (wa ++ wc) H) (hD : va_D A (wa ++ wc)) (hK : va_K D vwCl (kTy g) s) (hS : va_S A s.heap H locs) (hA : ∀ q : Nat, s.heap.size ≤ q → A q) (hE : kEnv g A s s.heap) (hX : kExt s) : PreS s H (va_Pc As (kPreX D g wc H.size)) As :=
  ⟨kPreX_blind, fun U hU hW => ⟨((kPSs (As := As) hP hD hK hS hA hE).2 U hU hW).1, ((kPSs (As := As) hP hD hK hS hA hE).2 U hU hW).2, hX.warm hW⟩⟩
theorem kPVs {C : String} {b : Addr} {As : List Value} (hP : va_P D vwCl (wa ++ wc) H) (hD : va_D A (wa ++ wc)) (hK : va_K D vwCl (kTy g) s) (hS : va_S A s.heap H locs) (hA : ∀ q : Nat, s.heap.size ≤ q → A q) (hE : kEnv g A s s.heap) (k ci : Nat) {fs : List Value} {q : vw_C} (hqb : wc[k]? = some (b, .inr (ci, fs))) (hcl : vwCl[ci]? = some q) (hq : q.1 = C) : PreV s H C b (va_Pc (.ref b :: As) (kPre D g wc H.size)) As :=
  ⟨kPre_blind, by rw [← hq]; exact va_recv hK hP hcl (k_suf hqb), (kPSs (As := .ref b :: As) hP hD hK hS hA hE).2⟩
/-- a method with handlers, told as one that returns: what it answers, and its world then -/
def kMw (l : Launch) (D : va_G) (g : Nat → Nat) (y : MethodName) (wy : List Cond) (n mc ms : Nat) (av : List Value) (w : va_W) (sz : Nat) (r : Int32) (w' : va_W) : Prop := Met l y wy (kR n mc ms) (va_Pc av (kPreX D g w sz)) (kQi D w' (va_A w sz) r) mc ms (va_A w sz)
theorem k_enterW {y : MethodName} {nm own : String} {wy wy' : List Cond} {rm : Room} {mc ms maxL sz : Nat} {bytes : ByteArray} {ret : Option FieldType} {hh : List (Nat × Nat × Nat × Nat)} {av : List Value} {w : va_W} {Qf : (Nat → Prop) → Array Value → State → Outcome → State → Prop} (hy : plainName y.cls = true) (ho : y.cls = own) (hnm : y.name = nm) (hw : wy = Cond.codeWith y bytes maxL ret hh :: wy') (hlen : (lg_sl av).length ≤ maxL)
    (body : ∀ (p : Program) (e : Env) (s : State) (m : MethodId) (below : List Frame) (meth : Method) (c : Code) (A : Nat → Prop) (ls : Array Slot) (args : Array Value) (Q : State → Prop) (H : Heap) (locs : List Loc), Q = MQ below (Qf A) args s mc ms A → kAt p s m meth c nm own bytes maxL ret wy args → c.exceptionTable.toList = tableOf hh → va_P D vwCl w H → va_K D vwCl (kTy g) s → va_D A w → (∀ q : Nat, s.heap.size ≤ q → A q) → va_S A s.heap H locs → kEnv g A s s.heap → kExt s → lv_has ls maxL (lv_args 0 av) → W p l e rm s m args below meth c H locs 0 0 Q (F0 m 0 ls [])) : Met l y wy rm (va_Pc av (kPreX D g w sz)) (Qf (va_A w sz)) mc ms (va_A w sz) := by
  refine va_MetW (cc := bytes) (maxL := maxL) (ret := ret) (hh := hh) hy hw ?_
  intro p e s m args below meth c s₁ B hml hv
  obtain ⟨rfl, ⟨hsz, hP, hK, hD0, hE⟩, hX⟩ := hv
  have hts := atoms_spec (ws := wy) B.pre
  have hown : s.vm.findClass own = some m.cls := by rw [← ho]; exact findClass_of_methodNamed B.named
  have hin : meth.name = nm := by rw [← hnm]; exact (name_of_methodNamed B.named B.method).1
  have hex := vx_table (x := y) B (hts (Cond.codeWith y bytes maxL ret hh) (by rw [hw]; exact List.mem_cons_self))
  subst hsz
  have hl := lv_entry av (n := maxL) hlen
  rw [lg_entry_eq]
  exact body p e s m below meth c _ _ _ _ _ _ rfl ⟨B.exec, B.bytes, B.returns, hml, hown, hts, B.notSynchronized, hin⟩ hex hP hK hD0.self (fun q h => Or.inr h) va_S.rf hE hX hl
/-- the first of the handlers takes it -/
theorem k_catch1 {own E : String} {sp ep tgt ct : Nat} {hh : List (Nat × Nat × Nat × Nat)} {ce : Cell} {q : Addr} (hex : c.exceptionTable.toList = tableOf ((sp, ep, tgt, ct) :: hh)) (hown : s.vm.findClass own = some m.cls) (hX : kExt s) (hcv : covers (⟨sp, ep, tgt, ct⟩ : ExceptionTableEntry) pc = true)
    (h0 : ct ≠ 0) (hlink : (Cond.classLink own ct E).before args s = true) (hE : Cond.castable E E ∈ kXW) (hcell : H[q]? = some ce) (hv : ce.vm = .none) (hcl : s.vm.findClass E = some ce.cls)
    (kk : W p l e R s m args below meth c H locs cells slots Q (F0 m tgt ls [.ref q])) : vx_W p l e R s m args below meth c H locs cells slots Q (F0 m pc ls rest) q :=
  vx_catch hown [] (⟨sp, ep, tgt, ct⟩ : ExceptionTableEntry) (tableOf hh) hex (fun z hz => absurd hz List.not_mem_nil) hcv h0 hlink (va_Nw.use (kXW_tab _ hE) (hX.1 _ hE)) hcell hv hcl kk
/-- the second of them takes it -/
theorem k_catch2 {own E E1 : String} {sp1 ep1 tgt1 ct1 sp ep tgt ct : Nat} {hh : List (Nat × Nat × Nat × Nat)} {ce : Cell} {q : Addr} (hex : c.exceptionTable.toList = tableOf ((sp1, ep1, tgt1, ct1) :: (sp, ep, tgt, ct) :: hh)) (hown : s.vm.findClass own = some m.cls) (hX : kExt s) (h01 : ct1 ≠ 0) (hlink1 : (Cond.classLink own ct1 E1).before args s = true) (hn1 : E ∈ kXN) (hn2 : E1 ∈ kXN) (hne : E ≠ E1) (hcv : covers (⟨sp, ep, tgt, ct⟩ : ExceptionTableEntry) pc = true)
    (h0 : ct ≠ 0) (hlink : (Cond.classLink own ct E).before args s = true) (hE : Cond.castable E E ∈ kXW) (hcell : H[q]? = some ce) (hv : ce.vm = .none) (hcl : s.vm.findClass E = some ce.cls)
    (kk : W p l e R s m args below meth c H locs cells slots Q (F0 m tgt ls [.ref q])) : vx_W p l e R s m args below meth c H locs cells slots Q (F0 m pc ls rest) q := by
  refine vx_catch hown [(⟨sp1, ep1, tgt1, ct1⟩ : ExceptionTableEntry)] (⟨sp, ep, tgt, ct⟩ : ExceptionTableEntry) (tableOf hh) hex (fun z hz => ?_) hcv h0 hlink (va_Nw.use (kXW_tab _ hE) (hX.1 _ hE)) hcell hv hcl kk
  rw [List.mem_singleton] at hz
  subst hz
  exact Or.inr ⟨h01, E1, hlink1, hX.2 E hn1 E1 hn2 hne⟩
end KL
end
