-- MY KIT, 5: what is made: constructors
def kQe {S : Type} (px : S → Prop) (D : va_G) (w' : S → va_W) (A : Nat → Prop) : Array Value → State → Outcome → State → Prop := va_Qv px (fun u t => va_P D vwCl (w' u) t.heap ∧ va_D A (w' u)) A
/-- a method that makes cells: its end holds for some addresses -/
def kMe {S : Type} (l : Launch) (D : va_G) (g : Nat → Nat) (y : MethodName) (wy : List Cond) (n mc ms : Nat) (av : List Value) (w : va_W) (sz : Nat) (px : S → Prop) (w' : S → va_W) : Prop := Met l y wy (kR n mc ms) (va_Pc av (kPre D g w sz)) (kQe px D w' (va_A w sz)) mc ms (va_A w sz)
theorem va_RA_i {s : State} {D : va_G} {cl : List vw_C} {tys : List (ClassId × FieldType)} {ty : FieldType} {cA cB : ClassId} {k : Nat} (hK : va_K D cl tys s) (hk : tys[k]? = some (cB, ty)) (hK2 : va_K D cl (tys ++ [(cA, ty)]) s) : cA = cB := by
  have h1 := (hK.2 k _ hk).2
  have h2 := (hK2.2 tys.length (cA, ty) (by rw [List.getElem?_append_right (Nat.le_refl _), Nat.sub_self]; rfl)).2
  cases ty with
  | object C =>
    obtain ⟨kA, comp, -, -, -, h3⟩ := h1
    obtain ⟨kB, comp2, -, -, -, h4⟩ := h2
    exact Option.some.inj (h4.symm.trans h3)
  | _ => exact Option.some.inj (Eq.trans (Eq.symm h2) h1)
section KE
variable {p : Program} {l : Launch} {e : Env} {R : Room} {s : State} {m : MethodId} {args : Array Value} {below : List Frame} {meth : Method} {c : Code} {H0 H : Heap} {locs : List Loc} {cells slots : Nat} {Q : State → Prop}
variable {cc : ByteArray} {pc : Nat} {ls : Array Slot} {rest st0 : List Value}
variable {D : va_G} {g : Nat → Nat} {A : Nat → Prop} {ws wa wc : va_W}
theorem k_suf {k : Nat} {q : Nat × va_E} (h : wc[k]? = some q) : (wa ++ wc)[wa.length + k]? = some q := by
  rw [List.getElem?_append_right (by omega), show wa.length + k - wa.length = k by omega]
  exact h
theorem k_sufA {sz q : Nat} (h : va_A wc sz q) : va_A (wa ++ wc) sz q := by
  rcases h with ⟨k, e, h⟩ | h
  · exact Or.inl ⟨_, e, k_suf h⟩
  · exact Or.inr h
theorem k_sufF (hD : va_D A (wa ++ wc)) (hS : va_S A H0 H locs) (hA : ∀ q : Nat, H0.size ≤ q → A q) : ∀ q : Nat, va_A wc H.size q → A q := by
  intro q hq
  rcases hq with ⟨k, e, h⟩ | h
  · exact hD.2 _ (q, e) (k_suf h)
  · exact hA q (Nat.le_trans hS.1 h)
theorem k_sufD (hD : va_D A (wa ++ wc)) : va_D (fun _ => True) wc :=
  ⟨fun i j p q hi hj h => by have := hD.1 _ _ p q (k_suf (wa := wa) hi) (k_suf (wa := wa) hj) h; omega, fun _ _ _ => trivial⟩
theorem kPSs {As : List Value} (hP : va_P D vwCl (wa ++ wc) H) (hD : va_D A (wa ++ wc)) (hK : va_K D vwCl (kTy g) s) (hS : va_S A s.heap H locs) (hA : ∀ q : Nat, s.heap.size ≤ q → A q) (hE : kEnv g A s s.heap) : PreS s H (va_Pc As (kPre D g wc H.size)) As :=
  ⟨kPre_blind, fun U hU hW => ⟨rfl, by rw [hU], by rw [hU]; exact fun k q hk => hP _ q (k_suf hk), va_K.moved hW.alike hK, k_sufD hD, by rw [hU]; exact ((hE.kept hS.2.1).narrow (k_sufF hD hS hA)).warm hW⟩⟩
/-- a call on the cells that stand last; it makes cells -/
theorem k_ave {S : Type} {px : S → Prop} {w1 : S → va_W} {a : Array Value} {mc ms : Nat} (hr : va_Run p l e R s m args below meth c H locs cells slots mc ms (F0 m pc ls st0) rest (kQe px D w1 (va_A wc H.size) a) (va_A wc H.size)) (hP : va_P D vwCl (wa ++ wc) H) (hD : va_D A (wa ++ wc)) (hS : va_S A H0 H locs) (hA : ∀ q : Nat, H0.size ≤ q → A q)
    (kk : ∀ (u : S) (H1 : Heap) (locs1 : List Loc), px u → va_P D vwCl (wa ++ w1 u) H1 → va_D A (wa ++ w1 u) → va_S A H0 H1 locs1 → W p l e R s m args below meth c H1 locs1 (cells + mc) (slots + ms) Q (F0 m (pc + 3) ls rest)) : W p l e R s m args below meth c H locs cells slots Q (F0 m pc ls st0) := by
  have hFc : ∀ q, va_A wc H.size q → A q := k_sufF hD hS hA
  have hPa : va_P D vwCl wa H := fun k q hk => hP k q (by rw [List.getElem?_append_left (List.getElem?_eq_some_iff.mp hk).1]; exact hk)
  have inA : ∀ {k : Nat} {q : Nat × va_E}, wa[k]? = some q → (wa ++ wc)[k]? = some q := fun {k q} hk => by rw [List.getElem?_append_left (List.getElem?_eq_some_iff.mp hk).1]; exact hk
  have apart : ∀ (k : Nat) (q : Nat × va_E), wa[k]? = some q → ¬ va_A wc H.size q.1 := by
    intro k q hk h
    rcases h with ⟨k2, e, h⟩ | h
    · have h1 := hD.1 _ _ q (q.1, e) (inA hk) (k_suf h) rfl
      have := (List.getElem?_eq_some_iff.mp hk).1
      omega
    · have := (hPa k q hk).lt
      omega
  refine va_callv hr hS (fun q _ h => hFc q h) hFc (fun u t H1 locs1 ht hvm hw hB hz1 hk1 hS1 => ?_)
  obtain ⟨hP1, hD1⟩ := hB
  rw [ht] at hP1
  refine kk u H1 locs1 hw (va_P.app (fun k q hk => (hPa k q hk).kept (hk1 q.1 (hPa k q hk).lt (apart k q hk))) hP1) (va_D.app ⟨fun i j p q hi hj h => hD.1 i j p q (inA hi) (inA hj) h, fun k q hk => hD.2 k q (inA hk)⟩ (hD1.weaken (fun k q _ h => hFc q.1 h)) (fun i j x y hx hy hxy => apart i x hx (by rw [hxy]; exact hD1.2 j y hy))) hS1
theorem k_rve (hx : p.tables.exec = Jvm.exec) (hb : c.code = cc) (hr : meth.sig.returnType = none) (hlocks : meth.locks = false) (hP : va_P D vwCl ws H) (hD : va_D A ws) (hS : va_S A s.heap H locs) {S : Type} {px : S → Prop} {w' : S → va_W} (hdg : decode cc pc = .ok (.return_, 1)) (u : S) (hu : px u) (hw : ws = w' u) : W p l e R s m args below meth c H locs cells slots (MQ below (kQe px D w' A) args s cells slots A) (F0 m pc ls []) := by
  subst hw
  exact W.vret hx hb hr (fun t ht hW => ⟨⟨u, rfl, hu, by rw [ht]; exact hP, hD⟩, hS.F ht⟩) hS.2.2 hdg hlocks
/-- a new row of ints, chars, booleans: numbers all 0 -/
theorem k_newa (hexec : p.tables.exec = Jvm.exec) (hb : c.code = cc) {atype : ArrayType} {ty : FieldType} (k : Nat) {cB : ClassId} (harr : (Cond.arrayClass (newarray.typeOf atype)).before args s = true) (hty : newarray.typeOf atype = ty) (hdef : defaultValue ty = .int 0) (hK : va_K D vwCl (kTy g) s) (hk : (kTy g)[k]? = some (cB, ty)) (hP : va_P D vwCl ws H) (hD : va_D A ws) (hS : va_S A H0 H locs) (hA : ∀ q, H0.size ≤ q → A q)
    {n : Int32} {N' : Nat} (hn : ¬ n < 0) (hN : n.toNatClampNeg = N') (hbytes : N' * componentBytes ty ≤ 536870912) (hcells : cells + 1 ≤ R.cells) (hslots : slots + N' ≤ R.slots) (hdg : decode cc pc = .ok (.newarray atype, 2))
    (kk : ∀ (q : Nat) (H : Heap), va_P D vwCl (ws ++ [(q, .inl (cB, N', .inl (fun _ => 0)))]) H → va_D A (ws ++ [(q, .inl (cB, N', .inl (fun _ => 0)))]) → va_S A H0 H locs →
      W p l e R s m args below meth c H locs (cells + 1) (slots + N') Q (F0 m (pc + 2) ls (.ref q :: rest))) : W p l e R s m args below meth c H locs cells slots Q (F0 m pc ls (.int n :: rest)) := by
  refine va_newa hexec hb harr hty hK hP hD hS hA (a0 := (N', .inl (fun _ => 0))) (fun cA => by rw [vp_cell_i, hdef]) hn hN hbytes hcells hslots hdg (fun q cA H1 hK2 hP2 hD2 hS2 => ?_)
  obtain rfl := va_RA_i hK hk hK2
  exact kk q H1 hP2 hD2 hS2
theorem k_newl (hexec : p.tables.exec = Jvm.exec) (hb : c.code = cc) {cB : ClassId} (k : Nat) (harr : (Cond.arrayClass (newarray.typeOf .long)).before args s = true) (hK : va_K D vwCl (kTy g) s) (hk : (kTy g)[k]? = some (cB, .long)) (hP : va_P D vwCl ws H) (hD : va_D A ws) (hS : va_S A H0 H locs) (hA : ∀ q, H0.size ≤ q → A q)
    {n : Int32} {N' : Nat} (hn : ¬ n < 0) (hN : n.toNatClampNeg = N') (hbytes : N' * componentBytes .long ≤ 536870912) (hcells : cells + 1 ≤ R.cells) (hslots : slots + N' ≤ R.slots) (hdg : decode cc pc = .ok (.newarray .long, 2))
    (kk : ∀ (q : Nat) (H : Heap), va_P D vwCl (ws ++ [(q, .inl (cB, N', .inr (.inl (fun _ => 0))))]) H → va_D A (ws ++ [(q, .inl (cB, N', .inr (.inl (fun _ => 0))))]) → va_S A H0 H locs →
      W p l e R s m args below meth c H locs (cells + 1) (slots + N') Q (F0 m (pc + 2) ls (.ref q :: rest))) : W p l e R s m args below meth c H locs cells slots Q (F0 m pc ls (.int n :: rest)) := by
  refine va_newa hexec hb harr (ty := .long) rfl hK hP hD hS hA (a0 := (N', .inr (.inl (fun _ => 0)))) (fun cA => by rw [vp_cell_l]; rfl) hn hN hbytes hcells hslots hdg (fun q cA H1 hK2 hP2 hD2 hS2 => ?_)
  obtain rfl := va_RA_i hK hk hK2
  exact kk q H1 hP2 hD2 hS2
theorem k_newq (hexec : p.tables.exec = Jvm.exec) (hb : c.code = cc) {own C : String} {index k : Nat} {cB : ClassId} (hown : s.vm.findClass own = some m.cls) (hclink : (Cond.classLink own index C).before args s = true) (hover : va_AO C s) (hK : va_K D vwCl (kTy g) s) (hk : (kTy g)[k]? = some (cB, .object C)) (hP : va_P D vwCl ws H) (hD : va_D A ws) (hS : va_S A H0 H locs) (hA : ∀ q, H0.size ≤ q → A q)
    {n : Int32} {N' : Nat} (hn : ¬ n < 0) (hN : n.toNatClampNeg = N') (hbytes : N' * 4 ≤ 536870912) (hcells : cells + 1 ≤ R.cells) (hslots : slots + N' ≤ R.slots) (hdg : decode cc pc = .ok (.anewarray index, 3))
    (kk : ∀ (q : Nat) (H : Heap), va_P D vwCl (ws ++ [(q, .inl (cB, N', .inr (.inr (.inr (.inr (fun _ => none))))))]) H → va_D A (ws ++ [(q, .inl (cB, N', .inr (.inr (.inr (.inr (fun _ => none))))))]) → va_S A H0 H locs →
      W p l e R s m args below meth c H locs (cells + 1) (slots + N') Q (F0 m (pc + 3) ls (.ref q :: rest))) : W p l e R s m args below meth c H locs cells slots Q (F0 m pc ls (.int n :: rest)) := by
  refine va_newq hexec hb hown hclink hover hK hP hD hS hA hn hN hbytes hcells hslots hdg (fun q cA H1 hK2 hP2 hD2 hS2 => ?_)
  obtain rfl := va_RA_i hK hk hK2
  exact kk q H1 hP2 hD2 hS2
/-- contents of a row of plans, told otherwise where it has places -/
theorem k_swapQ {q0 a n : Nat} {cA : ClassId} {f f' : Nat → Option Nat} (hP : va_P D vwCl ws H) (hD : va_D A ws) (hq : ws[q0]? = some (a, .inl (cA, n, .inr (.inr (.inr (.inr f)))))) (hf : ∀ j, j < n → f j = f' j) : va_P D vwCl (ws.set q0 (a, .inl (cA, n, .inr (.inr (.inr (.inr f')))))) H ∧ va_D A (ws.set q0 (a, .inl (cA, n, .inr (.inr (.inr (.inr f')))))) := by
  refine ⟨fun k q hk => ?_, hD.set hq⟩
  by_cases h : k = q0
  · subst h
    have hl : k < ws.length := (List.getElem?_eq_some_iff.mp hq).1
    rw [List.getElem?_set_self hl] at hk
    cases hk
    have h1 : H[a]? = some (vp_cell cA (n, .inr (.inr (.inr (.inr f))))) := hP k _ hq
    show H[a]? = some (vp_cell cA (n, .inr (.inr (.inr (.inr f')))))
    rw [h1, vp_cell_q, vp_cell_q]
    exact congrArg some (k_arrE (fun j hj => by rw [hf j hj]))
  · rw [List.getElem?_set_ne (fun e => h e.symm)] at hk
    exact hP k q hk
end KE
/-- a start in which rows of plans can be made -/
def kPreA (D : va_G) (g : Nat → Nat) (w : va_W) (sz : Nat) (U : State) : Prop := kPre D g w sz U ∧ va_AO "BlameChains$Plan" U
def kMeA {S : Type} (l : Launch) (D : va_G) (g : Nat → Nat) (y : MethodName) (wy : List Cond) (n mc ms : Nat) (av : List Value) (w : va_W) (sz : Nat) (px : S → Prop) (w' : S → va_W) : Prop := Met l y wy (kR n mc ms) (va_Pc av (kPreA D g w sz)) (kQe px D w' (va_A w sz)) mc ms (va_A w sz)
theorem kPreA_blind {D : va_G} {g : Nat → Nat} {av : List Value} {w : va_W} {sz : Nat} : FrameBlind (va_Pc av (kPreA D g w sz)) := fun a U f mk q =>
  ⟨(kPre_blind (av := av) a U f mk ⟨q.1, q.2.1⟩).1, (kPre_blind (av := av) a U f mk ⟨q.1, q.2.1⟩).2, va_AO.moved (u := U) (U := U.calling f mk a) (Vm.Alike.refl U.vm) q.2.2⟩
section KA
variable {p : Program} {l : Launch} {e : Env} {R : Room} {s : State} {m : MethodId} {args : Array Value} {below : List Frame} {meth : Method} {c : Code} {H0 H : Heap} {locs : List Loc} {cells slots : Nat} {Q : State → Prop}
variable {D : va_G} {g : Nat → Nat} {A : Nat → Prop} {ws wa wc : va_W}
theorem kPSsA {As : List Value} (hP : va_P D vwCl (wa ++ wc) H) (hD : va_D A (wa ++ wc)) (hK : va_K D vwCl (kTy g) s) (hS : va_S A s.heap H locs) (hA : ∀ q : Nat, s.heap.size ≤ q → A q) (hE : kEnv g A s s.heap) (hO : va_AO "BlameChains$Plan" s) : PreS s H (va_Pc As (kPreA D g wc H.size)) As :=
  ⟨kPreA_blind, fun U hU hW => ⟨((kPSs (As := As) hP hD hK hS hA hE).2 U hU hW).1, ((kPSs (As := As) hP hD hK hS hA hE).2 U hU hW).2, hO.moved hW.alike⟩⟩
theorem k_enterA {y : MethodName} {nm own : String} {wy wy' : List Cond} {rm : Room} {mc ms maxL sz : Nat} {bytes : ByteArray} {ret : Option FieldType} {av : List Value} {w : va_W} {Qf : (Nat → Prop) → Array Value → State → Outcome → State → Prop} (hy : plainName y.cls = true) (ho : y.cls = own) (hnm : y.name = nm) (hw : wy = Cond.code y bytes maxL ret :: wy') (hlen : (lg_sl av).length ≤ maxL)
    (body : ∀ (p : Program) (e : Env) (s : State) (m : MethodId) (below : List Frame) (meth : Method) (c : Code) (A : Nat → Prop) (ls : Array Slot) (args : Array Value) (Q : State → Prop) (H : Heap) (locs : List Loc), Q = MQ below (Qf A) args s mc ms A → kAt p s m meth c nm own bytes maxL ret wy args → va_AO "BlameChains$Plan" s → va_P D vwCl w H → va_K D vwCl (kTy g) s → va_D A w → (∀ q : Nat, s.heap.size ≤ q → A q) → va_S A s.heap H locs → kEnv g A s s.heap → lv_has ls maxL (lv_args 0 av) → W p l e rm s m args below meth c H locs 0 0 Q (F0 m 0 ls [])) : Met l y wy rm (va_Pc av (kPreA D g w sz)) (Qf (va_A w sz)) mc ms (va_A w sz) := by
  refine Met.ofW (cc := bytes) (maxL := maxL) (ret := ret) hy hw ?_
  intro p e s m args below meth c s₁ B hml hv
  obtain ⟨rfl, ⟨hsz, hP, hK, hD0, hE⟩, hO⟩ := hv
  have hts := atoms_spec (ws := wy) B.pre
  have hown : s.vm.findClass own = some m.cls := by rw [← ho]; exact findClass_of_methodNamed B.named
  have hin : meth.name = nm := by rw [← hnm]; exact (name_of_methodNamed B.named B.method).1
  subst hsz
  have hl := lv_entry av (n := maxL) hlen
  rw [lg_entry_eq]
  exact body p e s m below meth c _ _ _ _ _ _ rfl ⟨B.exec, B.bytes, B.returns, hml, hown, hts, B.notSynchronized, hin⟩ hO hP hK hD0.self (fun q h => Or.inr h) va_S.rf hE hl
end KA
