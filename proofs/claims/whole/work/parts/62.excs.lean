-- MY KIT, 4: methods that throw
def kXC (D : va_G) (w : va_W) (E : String) (A : Nat → Prop) : String → State → State → Prop := vx_X (fun _ : Unit => True) (fun E' (_ : Unit) t => E' = E ∧ va_P D vwCl w t.heap ∧ va_D A w) A
/-- words that no list of a method's can hold: what may be thrown as what, the constructors of the exceptions' classes -/
def kXN : List String := ["java/lang/IllegalArgumentException", "java/lang/IllegalStateException", "java/lang/IndexOutOfBoundsException"]
def kXW : List Cond := [.castable "java/lang/IllegalArgumentException" "java/lang/IllegalArgumentException", .castable "java/lang/IllegalStateException" "java/lang/IllegalStateException", .castable "java/lang/IndexOutOfBoundsException" "java/lang/IndexOutOfBoundsException", .declares (Bundle.initS "java/lang/RuntimeException"), .declares (Bundle.initS "java/lang/Exception"), .declares (Bundle.initS Bundle.tN)]
def kExt (U : State) : Prop := (∀ w ∈ kXW, va_Nw w U) ∧ ∀ C ∈ kXN, ∀ T ∈ kXN, C ≠ T → va_Nc C T U
theorem kXW_tab : ∀ w ∈ kXW, w.onTables = true := by
  intro w hw
  simp only [kXW, List.mem_cons, List.not_mem_nil, or_false] at hw
  rcases hw with rfl | rfl | rfl | rfl | rfl | rfl <;> rfl
theorem kExt.warm {s U : State} (hW : s.WarmedH U.vm) (h : kExt s) : kExt U := by
  refine ⟨fun w hw => ?_, fun C hC T hT hn => (h.2 C hC T hT hn).moved hW.alike⟩
  have h1 := h.1 w hw
  simp only [kXW, List.mem_cons, List.not_mem_nil, or_false] at hw
  rcases hw with rfl | rfl | rfl | rfl | rfl | rfl
  · exact va_Nw.warmC hW h1
  · exact va_Nw.warmC hW h1
  · exact va_Nw.warmC hW h1
  · exact va_Nw.warmD hW h1
  · exact va_Nw.warmD hW h1
  · exact va_Nw.warmD hW h1
theorem kExt.same {u U : State} (hv : u.vm = U.vm) (h : kExt u) : kExt U := ⟨fun w hw => va_Nw.same (kXW_tab w hw) hv (h.1 w hw), fun C hC T hT hn => (h.2 C hC T hT hn).moved (hv ▸ Vm.Alike.refl u.vm)⟩
def kPreX (D : va_G) (g : Nat → Nat) (w : va_W) (sz : Nat) (U : State) : Prop := kPre D g w sz U ∧ kExt U
theorem kPreX_blind {D : va_G} {g : Nat → Nat} {av : List Value} {w : va_W} {sz : Nat} : FrameBlind (va_Pc av (kPreX D g w sz)) := fun a U f mk q =>
  ⟨(kPre_blind (av := av) a U f mk ⟨q.1, q.2.1⟩).1, (kPre_blind (av := av) a U f mk ⟨q.1, q.2.1⟩).2, kExt.same (u := U) (U := U.calling f mk a) rfl q.2.2⟩
def kNo (A : Nat → Prop) : Array Value → State → Outcome → State → Prop := va_Qv (fun _ : Unit => False) (fun (_ : Unit) (_ : State) => True) A
/-- a method that throws E, and leaves the world as it was -/
def kMx (l : Launch) (D : va_G) (g : Nat → Nat) (y : MethodName) (wy : List Cond) (n mc ms : Nat) (av : List Value) (w : va_W) (sz : Nat) (E : String) : Prop := vx_Met l y wy (kR n mc ms) (va_Pc av (kPreX D g w sz)) (kNo (va_A w sz)) (kXC D w E (va_A w sz)) mc ms (va_A w sz)
section KX
variable {p : Program} {l : Launch} {e : Env} {R : Room} {s : State} {m : MethodId} {args : Array Value} {below : List Frame} {meth : Method} {c : Code} {H0 H : Heap} {locs : List Loc} {cells slots : Nat} {Q : State → Prop}
variable {cc : ByteArray} {pc : Nat} {ls : Array Slot} {rest st0 : List Value}
variable {D : va_G} {g : Nat → Nat} {A : Nat → Prop} {ws : va_W}
theorem k_enterX {y : MethodName} {nm own E : String} {wy wy' : List Cond} {rm : Room} {mc ms maxL sz : Nat} {bytes : ByteArray} {ret : Option FieldType} {av : List Value} {w : va_W} (hy : plainName y.cls = true) (ho : y.cls = own) (hnm : y.name = nm) (hw : wy = Cond.code y bytes maxL ret :: wy') (hlen : (lg_sl av).length ≤ maxL)
    (body : ∀ (p : Program) (e : Env) (s : State) (m : MethodId) (below : List Frame) (meth : Method) (c : Code) (A : Nat → Prop) (ls : Array Slot) (args : Array Value) (Q : State → Prop) (H : Heap) (locs : List Loc), Q = vx_MQ below (kNo A) (kXC D w E A) args s mc ms A → kAt p s m meth c nm own bytes maxL ret wy args → (∀ x ∈ c.exceptionTable.toList, False) → va_P D vwCl w H → va_K D vwCl (kTy g) s → va_D A w → (∀ q : Nat, s.heap.size ≤ q → A q) → va_S A s.heap H locs → kEnv g A s s.heap → kExt s → lv_has ls maxL (lv_args 0 av) → W p l e rm s m args below meth c H locs 0 0 Q (F0 m 0 ls [])) : vx_Met l y wy rm (va_Pc av (kPreX D g w sz)) (kNo (va_A w sz)) (kXC D w E (va_A w sz)) mc ms (va_A w sz) := by
  refine vx_ofW (cc := bytes) (maxL := maxL) (ret := ret) hy hw ?_
  intro p e s m args below meth c s₁ B hml hex hv
  obtain ⟨rfl, ⟨hsz, hP, hK, hD0, hE⟩, hX⟩ := hv
  have hts := atoms_spec (ws := wy) B.pre
  have hown : s.vm.findClass own = some m.cls := by rw [← ho]; exact findClass_of_methodNamed B.named
  have hin : meth.name = nm := by rw [← hnm]; exact (name_of_methodNamed B.named B.method).1
  subst hsz
  have hl := lv_entry av (n := maxL) hlen
  rw [lg_entry_eq]
  exact body p e s m below meth c _ _ _ _ _ _ rfl ⟨B.exec, B.bytes, B.returns, hml, hown, hts, B.notSynchronized, hin⟩ hex hP hK hD0.self (fun q h => Or.inr h) va_S.rf hE hX hl
/-- a new exception is made and thrown -/
theorem k_throw (hx : p.tables.exec = Jvm.exec) (hb : c.code = cc) (hst : l.stackTraces = false) {own cls text : String} {names : List String} {ik is ic mc ms sa maxL : Nat} {wy : List Cond} (hml : c.maxLocals = maxL) {cs : List (Nat × Value)} (hl : lv_has ls maxL cs)
    (hown : s.vm.findClass own = some m.cls) (hcls : Bundle.fit cls = true) (hnames : names.all (fun n => Bundle.fit n) = true)
    (hts : ∀ w ∈ wy, w.before args s = true) (hk : Cond.classLink own ik cls ∈ wy) (hini : Cond.initialized cls ∈ wy) (hX : kExt s) (hat : ∀ w ∈ (vx_atS own ic cls names).filter goodWord, w ∈ wy) (hat2 : ((vx_atS own ic cls names).filter (fun w => !goodWord w)).all (fun w => decide (w ∈ kXW)) = true) (hgood : (Cond.classLink own ik cls :: Cond.initialized cls :: vx_atS own ic cls names).all vx_ot = true)
    (hstr : vk_R own is text sa s) (hE : kEnv g A s s.heap) (hP : va_P D vwCl ws H) (hD : va_D A ws) (hS : va_S A s.heap H locs)
    (d0 : decode cc pc = .ok (.new ik, 3)) (d3 : decode cc (pc + 3) = .ok (.dup, 1)) (d4 : decode cc (pc + 4) = .ok (.ldc is, 2)) (d6 : decode cc (pc + 6) = .ok (.invokespecial ic, 3)) (d9 : decode cc (pc + 9) = .ok (.athrow, 1))
    (hex : ∀ x ∈ c.exceptionTable.toList, False)
    (hRframes : names.length + 3 < R.frames) (hRlocals : (rest.map fun v => v.category).sum + (13 * (names.length + 1) + 43) ≤ R.locals) (hRcells : cells + 1 ≤ R.cells) (hRslots : slots + 6 ≤ R.slots) (hlocks : meth.locks = false) (hc : cells + 1 ≤ mc) (hs : slots + 6 ≤ ms) :
    W p l e R s m args below meth c H locs cells slots (vx_MQ below (kNo A) (kXC D ws cls A) args s mc ms A) (F0 m pc ls rest) := by
  have hg := List.all_eq_true.mp hgood
  refine vx_throwS hx hb hst hown hcls (fun n hn => List.all_eq_true.mp hnames n hn) (hts _ hk) (hts _ hini) hstr (vx_hat (fun w hw => hts w (hat w hw)) (fun w hw => of_decide_eq_true (List.all_eq_true.mp hat2 w hw)) (fun w hw => va_Nw.use (kXW_tab w hw) (hX.1 w hw))) (fun w hw => hg w hw) hE.2.2.2.1 hE.2.2.2.2.1 hS (by rw [hml]; exact hl.1) d0 d3 d4 d6 d9 (fun x h => (hex x h).elim) hRframes hRlocals hRcells hRslots hlocks ?_ hS.2.2 hc hs
  intro t ht h1 h2
  refine ⟨(), trivial, ⟨rfl, hP.kept (fun k q hk => h2 q.1 (hP k q hk).lt), hD⟩, Nat.le_trans hS.1 h1, fun q q1 q2 => ?_⟩
  rw [h2 q (Nat.lt_of_lt_of_le q1 hS.1)]
  exact hS.2.1 q q1 q2
/-- likewise, its text loaded by a wide row -/
theorem k_throwW (hx : p.tables.exec = Jvm.exec) (hb : c.code = cc) (hst : l.stackTraces = false) {own cls text : String} {names : List String} {ik is ic mc ms sa maxL : Nat} {wy : List Cond} (hml : c.maxLocals = maxL) {cs : List (Nat × Value)} (hl : lv_has ls maxL cs)
    (hown : s.vm.findClass own = some m.cls) (hcls : Bundle.fit cls = true) (hnames : names.all (fun n => Bundle.fit n) = true)
    (hts : ∀ w ∈ wy, w.before args s = true) (hk : Cond.classLink own ik cls ∈ wy) (hini : Cond.initialized cls ∈ wy) (hX : kExt s) (hat : ∀ w ∈ (vx_atS own ic cls names).filter goodWord, w ∈ wy) (hat2 : ((vx_atS own ic cls names).filter (fun w => !goodWord w)).all (fun w => decide (w ∈ kXW)) = true) (hgood : (Cond.classLink own ik cls :: Cond.initialized cls :: vx_atS own ic cls names).all vx_ot = true)
    (hstr : vk_R own is text sa s) (hE : kEnv g A s s.heap) (hP : va_P D vwCl ws H) (hD : va_D A ws) (hS : va_S A s.heap H locs)
    (d0 : decode cc pc = .ok (.new ik, 3)) (d3 : decode cc (pc + 3) = .ok (.dup, 1)) (d4 : decode cc (pc + 4) = .ok (.ldc_w is, 3)) (d6 : decode cc (pc + 7) = .ok (.invokespecial ic, 3)) (d9 : decode cc (pc + 10) = .ok (.athrow, 1))
    (hex : ∀ x ∈ c.exceptionTable.toList, False)
    (hRframes : names.length + 3 < R.frames) (hRlocals : (rest.map fun v => v.category).sum + (13 * (names.length + 1) + 43) ≤ R.locals) (hRcells : cells + 1 ≤ R.cells) (hRslots : slots + 6 ≤ R.slots) (hlocks : meth.locks = false) (hc : cells + 1 ≤ mc) (hs : slots + 6 ≤ ms) :
    W p l e R s m args below meth c H locs cells slots (vx_MQ below (kNo A) (kXC D ws cls A) args s mc ms A) (F0 m pc ls rest) := by
  have hg := List.all_eq_true.mp hgood
  refine vx_throwSW hx hb hst hown hcls (fun n hn => List.all_eq_true.mp hnames n hn) (hts _ hk) (hts _ hini) hstr (vx_hat (fun w hw => hts w (hat w hw)) (fun w hw => of_decide_eq_true (List.all_eq_true.mp hat2 w hw)) (fun w hw => va_Nw.use (kXW_tab w hw) (hX.1 w hw))) (fun w hw => hg w hw) hE.2.2.2.1 hE.2.2.2.2.1 hS (by rw [hml]; exact hl.1) d0 d3 d4 d6 d9 (fun x h => (hex x h).elim) hRframes hRlocals hRcells hRslots hlocks ?_ hS.2.2 hc hs
  intro t ht h1 h2
  refine ⟨(), trivial, ⟨rfl, hP.kept (fun k q hk => h2 q.1 (hP k q hk).lt), hD⟩, Nat.le_trans hS.1 h1, fun q q1 q2 => ?_⟩
  rw [h2 q (Nat.lt_of_lt_of_le q1 hS.1)]
  exact hS.2.1 q q1 q2
theorem kPSx {As : List Value} {wc : va_W} (hP : va_P D vwCl ws H) (hD : va_D A ws) (hK : va_K D vwCl (kTy g) s) (hS : va_S A s.heap H locs) (hA : ∀ q : Nat, s.heap.size ≤ q → A q) (hE : kEnv g A s s.heap) (hX : kExt s) (isC : List Nat) (hiC : isC.map (fun i => ws[i]?) = wc.map some) (hnC : va_nd isC = true) : PreS s H (va_Pc As (kPreX D g wc H.size)) As :=
  ⟨kPreX_blind, fun U hU hW => ⟨((kPS (As := As) hP hD hK hS hA hE isC hiC hnC).2 U hU hW).1, ((kPS (As := As) hP hD hK hS hA hE isC hiC hnC).2 U hU hW).2, hX.warm hW⟩⟩
theorem kPVx {C : String} {b : Addr} {As : List Value} {wc : va_W} (hP : va_P D vwCl ws H) (hD : va_D A ws) (hK : va_K D vwCl (kTy g) s) (hS : va_S A s.heap H locs) (hA : ∀ q : Nat, s.heap.size ≤ q → A q) (hE : kEnv g A s s.heap) (hX : kExt s) (isC : List Nat) (hiC : isC.map (fun i => ws[i]?) = wc.map some) (hnC : va_nd isC = true) (qb ci : Nat) {fs : List Value} {q : vw_C} (hqb : ws[qb]? = some (b, .inr (ci, fs))) (hcl : vwCl[ci]? = some q) (hq : q.1 = C) : PreV s H C b (va_Pc (.ref b :: As) (kPreX D g wc H.size)) As :=
  ⟨kPreX_blind, by rw [← hq]; exact va_recv hK hP hcl hqb, fun U hU hW => ⟨((kPV (As := As) hP hD hK hS hA hE isC hiC hnC qb ci hqb hcl hq).2.2 U hU hW).1, ((kPV (As := As) hP hD hK hS hA hE isC hiC hnC qb ci hqb hcl hq).2.2 U hU hW).2, hX.warm hW⟩⟩
/-- a callee that throws: its exception stands over this frame, the world is as it was -/
theorem k_xc {wc : va_W} {E : String} {a : Array Value} {mc ms : Nat} (hr : vx_Run p l e R s m args below meth c H locs cells slots mc ms (F0 m pc ls st0) rest (kNo (va_A wc H.size) a) (kXC D wc E (va_A wc H.size)) (va_A wc H.size)) (hP : va_P D vwCl ws H) (hD : va_D A ws) (hS : va_S A H0 H locs) (hA : ∀ q : Nat, H0.size ≤ q → A q) (isC : List Nat) (hiC : isC.map (fun i => ws[i]?) = wc.map some)
    (kx : ∀ (ce : Cell) (q9 : Addr) (H1 : Heap) (locs1 : List Loc), va_P D vwCl ws H1 → va_S A H0 H1 locs1 → H1[q9]? = some ce → ce.vm = .none → s.vm.findClass E = some ce.cls → vx_W p l e R s m args below meth c H1 locs1 (cells + mc) (slots + ms) Q (F0 m pc ls rest) q9) : W p l e R s m args below meth c H locs cells slots Q (F0 m pc ls st0) := by
  have hFc := va_free hD hS hA isC hiC
  refine vx_callv hr hS (fun q _ h => hFc q h) hFc (fun q _ h => hFc q h) (fun E' ce q9 u t H1 locs1 ht hvm _ hB hz1 hk1 hS1 hc1 hc2 hc3 => ?_) (fun u t H1 locs1 ht hvm hp => hp.elim)
  obtain ⟨rfl, hP1, hD1⟩ := hB
  rw [ht] at hP1
  refine kx ce q9 H1 locs1 (fun k q hk => ?_) hS1 hc1 hc2 hc3
  by_cases h : va_A wc H.size q.1
  · rcases h with ⟨k2, e2, h⟩ | h
    · obtain ⟨i, h1, h2⟩ := va_in_of isC hiC h
      have h3 := hD.1 k i q (q.1, e2) hk h2 rfl
      subst h3
      rw [hk] at h2
      have h4 : q = (q.1, e2) := Option.some.inj h2
      have h5 := hP1 k2 _ h
      rw [← h4] at h5
      exact h5
    · have := (hP k q hk).lt
      omega
  · exact (hP k q hk).kept (hk1 q.1 ((hP k q hk).lt) h)
/-- not caught here -/
theorem k_xout {E : String} {ce : Cell} {q : Addr} {mc ms : Nat} {w' : va_W} (hex : ∀ x ∈ c.exceptionTable.toList, False) (hlocks : meth.locks = false) (hcell : H[q]? = some ce) (hv : ce.vm = .none) (hcl : s.vm.findClass E = some ce.cls) (hP : va_P D vwCl ws H) (hD : va_D A ws) (hS : va_S A s.heap H locs) (hw : ws = w') (hc : cells ≤ mc) (hs : slots ≤ ms) :
    vx_W p l e R s m args below meth c H locs cells slots (vx_MQ below (kNo A) (kXC D w' E A) args s mc ms A) (F0 m pc ls rest) q := by
  subst hw
  exact vx_out (fun x h => (hex x h).elim) hlocks hcell hv hcl (fun t ht ha => ⟨(), trivial, ⟨rfl, by rw [ht]; exact hP, hD⟩, hS.F ht⟩) hS.2.2 hc hs
end KX
