-- MY KIT: contracts that answer one value and leave one world, entered, called and left by one row each
section KK
variable {p : Program} {l : Launch} {e : Env} {R : Room} {s : State} {m : MethodId} {args : Array Value} {below : List Frame} {meth : Method} {c : Code} {H0 H : Heap} {locs : List Loc} {cells slots : Nat} {Q : State → Prop}
variable {cc : ByteArray} {pc : Nat} {ls : Array Slot} {rest st0 : List Value}
variable {D : va_G} {g : Nat → Nat} {A : Nat → Prop} {ws : va_W}
/-- the array classes: int, char, boolean, rows of plans, long -/
abbrev kTy (g : Nat → Nat) : List (ClassId × FieldType) := [(g 0, .int), (g 1, .char), (g 2, .boolean), (g 3, .object "BlameChains$Plan"), (g 4, .long)]
/-- links of nest mates, by lists -/
def kNF : List (String × Nat × String × String × String) := [("BlameChains$Loader", 46, "BlameChains$Plan", "contracts", "LBlameChains$Contracts;"), ("BlameChains$Script", 37, "BlameChains$Plan", "contracts", "LBlameChains$Contracts;"), ("BlameChains", 91, "BlameChains$Plan", "contracts", "LBlameChains$Contracts;"), ("BlameChains", 118, "BlameChains$Plan", "blames", "LBlameChains$Blames;"), ("BlameChains$Loader", 89, "BlameChains$Plan", "parts", "I"), ("BlameChains", 87, "BlameChains$Plan", "parts", "I"), ("BlameChains", 103, "BlameChains$Plan", "calls", "I"), ("BlameChains", 106, "BlameChains$Plan", "callsFromOutside", "I"), ("BlameChains$Script", 49, "BlameChains$Plan", "arisen", "I"), ("BlameChains", 109, "BlameChains$Plan", "arisen", "I"), ("BlameChains", 112, "BlameChains$Plan", "cameOut", "I"), ("BlameChains", 115, "BlameChains$Plan", "caught", "I")]
def kNM : List (String × Nat × MethodName) := [("BlameChains", 11, yX6_init), ("BlameChains", 18, yX4_init), ("BlameChains$Plan", 20, yX0_init), ("BlameChains$Memory", 15, yX4_init), ("BlameChains$Loader", 82, yX7_isRange)]
def kNest (U : State) : Prop := (∀ (i : Nat) (q : String × Nat × String × String × String), kNF[i]? = some q → va_Nw (.fieldLinkNest q.1 q.2.1 q.2.2.1 q.2.2.2.1 q.2.2.2.2 "BlameChains") U) ∧ ∀ (i : Nat) (q : String × Nat × MethodName), kNM[i]? = some q → va_Nw (.methodLinkNest q.1 q.2.1 q.2.2 "BlameChains") U
/-- the String constants -/
def kSL : List (String × Nat × String) := [("BlameChains", 237, "an argument is out of its range"), ("BlameChains", 244, "the state does not allow this call"), ("BlameChains", 249, "there is no such save slot"), ("BlameChains", 252, "there is no such part"), ("BlameChains", 257, "there is no such part or contract"), ("BlameChains$Text", 47, "s0dsdd"), ("BlameChains$Text", 49, "ddsdd"), ("BlameChains$Text", 51, "dsddsddsddsdd"), ("BlameChains$Text", 53, "sdd"), ("BlameChains$Text", 55, "d"), ("BlameChains$Text", 57, "")]
def kStr (g : Nat → Nat) (U : State) : Prop := ∀ (i : Nat) (q : String × Nat × String), kSL[i]? = some q → vk_R q.1 q.2.1 q.2.2 (g (10 + i)) U
def kByt : List (List Int32) := [[97, 110, 32, 97, 114, 103, 117, 109, 101, 110, 116, 32, 105, 115, 32, 111, 117, 116, 32, 111, 102, 32, 105, 116, 115, 32, 114, 97, 110, 103, 101], [116, 104, 101, 32, 115, 116, 97, 116, 101, 32, 100, 111, 101, 115, 32, 110, 111, 116, 32, 97, 108, 108, 111, 119, 32, 116, 104, 105, 115, 32, 99, 97, 108, 108], [116, 104, 101, 114, 101, 32, 105, 115, 32, 110, 111, 32, 115, 117, 99, 104, 32, 115, 97, 118, 101, 32, 115, 108, 111, 116], [116, 104, 101, 114, 101, 32, 105, 115, 32, 110, 111, 32, 115, 117, 99, 104, 32, 112, 97, 114, 116], [116, 104, 101, 114, 101, 32, 105, 115, 32, 110, 111, 32, 115, 117, 99, 104, 32, 112, 97, 114, 116, 32, 111, 114, 32, 99, 111, 110, 116, 114, 97, 99, 116], [115, 48, 100, 115, 100, 100], [100, 100, 115, 100, 100], [100, 115, 100, 100, 115, 100, 100, 115, 100, 100, 115, 100, 100], [115, 100, 100], [100], []]
def kLen : List Nat := [31, 34, 26, 21, 33, 6, 5, 13, 3, 1, 0]
/-- what every method may ask of its start: links, constants, statics, none of them among the cells that it may change -/
def kEnv (g : Nat → Nat) (A : Nat → Prop) (U : State) (H : Heap) : Prop := kNest U ∧ kStr g U ∧ vk_S 11 kLen kByt (fun i => g (10 + i)) (fun i => g (30 + i)) A U H ∧ vx_Zq Bundle.tN "UNASSIGNED_STACK" Bundle.steD A U H ∧ vx_Zq Bundle.tN "SUPPRESSED_SENTINEL" Bundle.listD A U H ∧ va_Z "java/lang/String" "COMPACT_STRINGS" "Z" (.int 1) A U H ∧ va_Zq "jdk/internal/util/Preconditions" "SIOOBE_FORMATTER" "Ljava/util/function/BiFunction;" A U H
theorem kNest.warm {s U : State} (hW : s.WarmedH U.vm) (h : kNest s) : kNest U := ⟨fun i q hq => va_Nw.warmF hW (h.1 i q hq), fun i q hq => va_Nw.warmM hW (h.2 i q hq)⟩
theorem kNest.same {u U : State} (hv : u.vm = U.vm) (h : kNest u) : kNest U := ⟨fun i q hq => va_Nw.same rfl hv (h.1 i q hq), fun i q hq => va_Nw.same rfl hv (h.2 i q hq)⟩
theorem kEnv.warm {g : Nat → Nat} {A : Nat → Prop} {s U : State} {H : Heap} (hW : s.WarmedH U.vm) (h : kEnv g A s H) : kEnv g A U H := ⟨h.1.warm hW, fun i q hq => (h.2.1 i q hq).warm hW, h.2.2.1.moved hW.alike, h.2.2.2.1.moved hW.alike, h.2.2.2.2.1.moved hW.alike, h.2.2.2.2.2.1.moved hW.alike, h.2.2.2.2.2.2.moved hW.alike⟩
theorem kEnv.same {g : Nat → Nat} {A : Nat → Prop} {u U : State} {H : Heap} (hv : u.vm = U.vm) (h : kEnv g A u H) : kEnv g A U H := by
  have ha : u.vm.Alike U.vm := hv ▸ Vm.Alike.refl u.vm
  exact ⟨h.1.same hv, fun i q hq => (h.2.1 i q hq).same hv.symm, h.2.2.1.moved ha, h.2.2.2.1.moved ha, h.2.2.2.2.1.moved ha, h.2.2.2.2.2.1.moved ha, h.2.2.2.2.2.2.moved ha⟩
theorem kEnv.kept {g : Nat → Nat} {A : Nat → Prop} {U : State} {H H1 : Heap} (h : kEnv g A U H) (hq : ∀ a : Nat, a < H.size → ¬ A a → H1[a]? = H[a]?) : kEnv g A U H1 := ⟨h.1, h.2.1, h.2.2.1.kept hq, h.2.2.2.1.kept hq, h.2.2.2.2.1.kept hq, h.2.2.2.2.2.1.kept hq, h.2.2.2.2.2.2.kept hq⟩
theorem kEnv.narrow {g : Nat → Nat} {A B : Nat → Prop} {U : State} {H : Heap} (h : kEnv g A U H) (hAB : ∀ q, B q → A q) : kEnv g B U H := ⟨h.1, h.2.1, h.2.2.1.narrow hAB, h.2.2.2.1.narrow hAB, h.2.2.2.2.1.narrow hAB, h.2.2.2.2.2.1.narrow hAB, h.2.2.2.2.2.2.narrow hAB⟩
def kPre (D : va_G) (g : Nat → Nat) (w : va_W) (sz : Nat) (U : State) : Prop := U.heap.size = sz ∧ va_P D vwCl w U.heap ∧ va_K D vwCl (kTy g) U ∧ va_D (fun _ => True) w ∧ kEnv g (va_A w sz) U U.heap
abbrev kR (n mc ms : Nat) : Room := { frames := 2 * n + 2, cells := mc, slots := ms, locals := 100 * n + 100 }
def kB (D : va_G) (w' : va_W) (A : Nat → Prop) : Unit → State → Prop := fun _ t => va_P D vwCl w' t.heap ∧ va_D A w'
def kQi (D : va_G) (w' : va_W) (A : Nat → Prop) (r : Int32) : Array Value → State → Outcome → State → Prop := va_Qi (fun (r' : Int32) (_ : Unit) => r' = r) (kB D w' A) A
def kQl (D : va_G) (w' : va_W) (A : Nat → Prop) (r : Int64) : Array Value → State → Outcome → State → Prop := va_Ql (fun (r' : Int64) (_ : Unit) => r' = r) (kB D w' A) A
def kQv (D : va_G) (w' : va_W) (A : Nat → Prop) : Array Value → State → Outcome → State → Prop := va_Qv (fun (_ : Unit) => True) (kB D w' A) A
def kMi (l : Launch) (D : va_G) (g : Nat → Nat) (y : MethodName) (wy : List Cond) (n mc ms : Nat) (av : List Value) (w : va_W) (sz : Nat) (r : Int32) (w' : va_W) : Prop := Met l y wy (kR n mc ms) (va_Pc av (kPre D g w sz)) (kQi D w' (va_A w sz) r) mc ms (va_A w sz)
def kMl (l : Launch) (D : va_G) (g : Nat → Nat) (y : MethodName) (wy : List Cond) (n mc ms : Nat) (av : List Value) (w : va_W) (sz : Nat) (r : Int64) (w' : va_W) : Prop := Met l y wy (kR n mc ms) (va_Pc av (kPre D g w sz)) (kQl D w' (va_A w sz) r) mc ms (va_A w sz)
def kMv (l : Launch) (D : va_G) (g : Nat → Nat) (y : MethodName) (wy : List Cond) (n mc ms : Nat) (av : List Value) (w : va_W) (sz : Nat) (w' : va_W) : Prop := Met l y wy (kR n mc ms) (va_Pc av (kPre D g w sz)) (kQv D w' (va_A w sz)) mc ms (va_A w sz)
theorem kPre_blind {av : List Value} {w : va_W} {sz : Nat} : FrameBlind (va_Pc av (kPre D g w sz)) := fun a U f mk q => by
  obtain ⟨q0, q1, qP, qK, qD, qE⟩ := q
  exact ⟨q0, q1, qP, va_K.moved (u := U) (U := U.calling f mk a) (Vm.Alike.refl U.vm) qK, qD, kEnv.same (u := U) (U := U.calling f mk a) rfl qE⟩
/-- what stands at a method's entry -/
def kAt (p : Program) (s : State) (m : MethodId) (meth : Method) (c : Code) (nm own : String) (bytes : ByteArray) (maxL : Nat) (ret : Option FieldType) (wy : List Cond) (args : Array Value) : Prop := p.tables.exec = Jvm.exec ∧ c.code = bytes ∧ meth.sig.returnType = ret ∧ c.maxLocals = maxL ∧ s.vm.findClass own = some m.cls ∧ (∀ w ∈ wy, w.before args s = true) ∧ meth.locks = false ∧ meth.name = nm
theorem k_enter {y : MethodName} {nm own : String} {wy wy' : List Cond} {rm : Room} {mc ms maxL sz : Nat} {bytes : ByteArray} {ret : Option FieldType} {av : List Value} {w : va_W} {Qf : (Nat → Prop) → Array Value → State → Outcome → State → Prop} (hy : plainName y.cls = true) (ho : y.cls = own) (hnm : y.name = nm) (hw : wy = Cond.code y bytes maxL ret :: wy') (hlen : (lg_sl av).length ≤ maxL)
    (body : ∀ (p : Program) (e : Env) (s : State) (m : MethodId) (below : List Frame) (meth : Method) (c : Code) (A : Nat → Prop) (ls : Array Slot) (args : Array Value) (Q : State → Prop) (H : Heap) (locs : List Loc), Q = MQ below (Qf A) args s mc ms A → kAt p s m meth c nm own bytes maxL ret wy args → va_P D vwCl w H → va_K D vwCl (kTy g) s → va_D A w → (∀ q : Nat, s.heap.size ≤ q → A q) → va_S A s.heap H locs → kEnv g A s s.heap → lv_has ls maxL (lv_args 0 av) → W p l e rm s m args below meth c H locs 0 0 Q (F0 m 0 ls [])) : Met l y wy rm (va_Pc av (kPre D g w sz)) (Qf (va_A w sz)) mc ms (va_A w sz) := by
  refine Met.ofW (cc := bytes) (maxL := maxL) (ret := ret) hy hw ?_
  intro p e s m args below meth c s₁ B hml hv
  obtain ⟨rfl, hsz, hP, hK, hD0, hE⟩ := hv
  have hts := atoms_spec (ws := wy) B.pre
  have hown : s.vm.findClass own = some m.cls := by rw [← ho]; exact findClass_of_methodNamed B.named
  have hin : meth.name = nm := by rw [← hnm]; exact (name_of_methodNamed B.named B.method).1
  subst hsz
  have hl := lv_entry av (n := maxL) hlen
  rw [lg_entry_eq]
  exact body p e s m below meth c _ _ _ _ _ _ rfl ⟨B.exec, B.bytes, B.returns, hml, hown, hts, B.notSynchronized, hin⟩ hP hK hD0.self (fun q h => Or.inr h) va_S.rf hE hl
theorem k_ri (hx : p.tables.exec = Jvm.exec) (hb : c.code = cc) (hr : meth.sig.returnType = some .int) (hlocks : meth.locks = false) (hP : va_P D vwCl ws H) (hD : va_D A ws) (hS : va_S A s.heap H locs) {v r : Int32} {w' : va_W} (hdg : decode cc pc = .ok (.ireturn, 1)) (hv : v = r) (hw : ws = w') : W p l e R s m args below meth c H locs cells slots (MQ below (kQi D w' A r) args s cells slots A) (F0 m pc ls [.int v]) := by
  subst hv
  subst hw
  exact W.iret hx hb hr (fun t ht hW => ⟨⟨v, (), rfl, rfl, by rw [ht]; exact hP, hD⟩, hS.F ht⟩) hS.2.2 hdg hlocks
theorem k_rz (hx : p.tables.exec = Jvm.exec) (hb : c.code = cc) {ty : FieldType} (hr : meth.sig.returnType = some ty) (hlocks : meth.locks = false) (hP : va_P D vwCl ws H) (hD : va_D A ws) (hS : va_S A s.heap H locs) {v r : Int32} {w' : va_W} (hdg : decode cc pc = .ok (.ireturn, 1)) (hn : narrow ty (.int v) = .int v) (hv : v = r) (hw : ws = w') : W p l e R s m args below meth c H locs cells slots (MQ below (kQi D w' A r) args s cells slots A) (F0 m pc ls [.int v]) := by
  subst hv
  subst hw
  exact W.zret hx hb hr hn (fun t ht hW => ⟨⟨v, (), rfl, rfl, by rw [ht]; exact hP, hD⟩, hS.F ht⟩) hS.2.2 hdg hlocks
theorem k_rl (hx : p.tables.exec = Jvm.exec) (hb : c.code = cc) (hr : meth.sig.returnType = some .long) (hlocks : meth.locks = false) (hP : va_P D vwCl ws H) (hD : va_D A ws) (hS : va_S A s.heap H locs) {v r : Int64} {w' : va_W} (hdg : decode cc pc = .ok (.lreturn, 1)) (hv : v = r) (hw : ws = w') : W p l e R s m args below meth c H locs cells slots (MQ below (kQl D w' A r) args s cells slots A) (F0 m pc ls [.long v]) := by
  subst hv
  subst hw
  exact W.lret hx hb hr (fun t ht hW => ⟨⟨v, (), rfl, rfl, by rw [ht]; exact hP, hD⟩, hS.F ht⟩) hS.2.2 hdg hlocks
theorem k_rv (hx : p.tables.exec = Jvm.exec) (hb : c.code = cc) (hr : meth.sig.returnType = none) (hlocks : meth.locks = false) (hP : va_P D vwCl ws H) (hD : va_D A ws) (hS : va_S A s.heap H locs) {w' : va_W} (hdg : decode cc pc = .ok (.return_, 1)) (hw : ws = w') : W p l e R s m args below meth c H locs cells slots (MQ below (kQv D w' A) args s cells slots A) (F0 m pc ls []) := by
  subst hw
  exact W.vret hx hb hr (fun t ht hW => ⟨⟨(), rfl, trivial, by rw [ht]; exact hP, hD⟩, hS.F ht⟩) hS.2.2 hdg hlocks
theorem k_sub {wc : va_W} {is : List Nat} (h : is.map (fun i => ws[i]?) = wc.map some) : is.filterMap (fun i => ws[i]?) = wc := by
  induction is generalizing wc with
  | nil => cases wc with
    | nil => rfl
    | cons a w => simp at h
  | cons i is ih => cases wc with
    | nil => simp at h
    | cons a w =>
      simp only [List.map_cons, List.cons.injEq] at h
      rw [List.filterMap_cons, h.1]
      show a :: _ = _
      rw [ih h.2]
theorem kPV {C : String} {b : Addr} {As : List Value} {wc : va_W} (hP : va_P D vwCl ws H) (hD : va_D A ws) (hK : va_K D vwCl (kTy g) s) (hS : va_S A s.heap H locs) (hA : ∀ q : Nat, s.heap.size ≤ q → A q) (hE : kEnv g A s s.heap) (isC : List Nat) (hiC : isC.map (fun i => ws[i]?) = wc.map some) (hnC : va_nd isC = true) (qb ci : Nat) {fs : List Value} {q : vw_C} (hqb : ws[qb]? = some (b, .inr (ci, fs))) (hcl : vwCl[ci]? = some q) (hq : q.1 = C) : PreV s H C b (va_Pc (.ref b :: As) (kPre D g wc H.size)) As :=
  ⟨kPre_blind, by rw [← hq]; exact va_recv hK hP hcl hqb, fun U hU hW => ⟨rfl, by rw [hU], by rw [hU]; exact hP.sub isC (k_sub hiC), va_K.moved hW.alike hK, (hD.sub isC hnC hiC).weaken (fun _ _ _ _ => trivial), by rw [hU]; exact ((hE.kept hS.2.1).narrow (va_free hD hS hA isC hiC)).warm hW⟩⟩
theorem kPS {As : List Value} {wc : va_W} (hP : va_P D vwCl ws H) (hD : va_D A ws) (hK : va_K D vwCl (kTy g) s) (hS : va_S A s.heap H locs) (hA : ∀ q : Nat, s.heap.size ≤ q → A q) (hE : kEnv g A s s.heap) (isC : List Nat) (hiC : isC.map (fun i => ws[i]?) = wc.map some) (hnC : va_nd isC = true) : PreS s H (va_Pc As (kPre D g wc H.size)) As :=
  ⟨kPre_blind, fun U hU hW => ⟨rfl, by rw [hU], by rw [hU]; exact hP.sub isC (k_sub hiC), va_K.moved hW.alike hK, (hD.sub isC hnC hiC).weaken (fun _ _ _ _ => trivial), by rw [hU]; exact ((hE.kept hS.2.1).narrow (va_free hD hS hA isC hiC)).warm hW⟩⟩
theorem k_ai {wc wr w1 w2 : va_W} {r : Int32} {a : Array Value} {mc ms : Nat} (hr : va_Run p l e R s m args below meth c H locs cells slots mc ms (F0 m pc ls st0) rest (kQi D w1 (va_A wc H.size) r a) (va_A wc H.size)) (hP : va_P D vwCl ws H) (hD : va_D A ws) (hS : va_S A H0 H locs) (hA : ∀ q : Nat, H0.size ≤ q → A q) (isC isR js : List Nat) (hiC : isC.map (fun i => ws[i]?) = wc.map some) (hiR : isR.map (fun i => ws[i]?) = wr.map some) (hnR : va_nd isR = true) (hdis : ∀ i ∈ isR, i ∉ isC) (hjs : js.map (fun i => (wr ++ w1)[i]?) = w2.map some) (hnj : va_nd js = true)
    (kk : ∀ (H1 : Heap) (locs1 : List Loc), va_P D vwCl w2 H1 → va_D A w2 → va_S A H0 H1 locs1 → W p l e R s m args below meth c H1 locs1 (cells + mc) (slots + ms) Q (F0 m (pc + 3) ls (.int r :: rest))) : W p l e R s m args below meth c H locs cells slots Q (F0 m pc ls st0) := by
  have hFc := va_free hD hS hA isC hiC
  refine va_calli hr hS (fun q _ h => hFc q h) hFc (fun r' u t H1 locs1 ht hvm hw hB hz1 hk1 hS1 => ?_)
  obtain rfl : r' = r := hw
  obtain ⟨hP1, hD1⟩ := hB
  rw [ht] at hP1
  obtain ⟨hP2, hD2⟩ := va_join hP hD isC isR hiC hiR hnR hdis hk1 hFc hP1 hD1
  exact kk H1 locs1 (hP2.sub js (k_sub hjs)) (hD2.sub js hnj hjs) hS1
theorem k_al {wc wr w1 w2 : va_W} {r : Int64} {a : Array Value} {mc ms : Nat} (hr : va_Run p l e R s m args below meth c H locs cells slots mc ms (F0 m pc ls st0) rest (kQl D w1 (va_A wc H.size) r a) (va_A wc H.size)) (hP : va_P D vwCl ws H) (hD : va_D A ws) (hS : va_S A H0 H locs) (hA : ∀ q : Nat, H0.size ≤ q → A q) (isC isR js : List Nat) (hiC : isC.map (fun i => ws[i]?) = wc.map some) (hiR : isR.map (fun i => ws[i]?) = wr.map some) (hnR : va_nd isR = true) (hdis : ∀ i ∈ isR, i ∉ isC) (hjs : js.map (fun i => (wr ++ w1)[i]?) = w2.map some) (hnj : va_nd js = true)
    (kk : ∀ (H1 : Heap) (locs1 : List Loc), va_P D vwCl w2 H1 → va_D A w2 → va_S A H0 H1 locs1 → W p l e R s m args below meth c H1 locs1 (cells + mc) (slots + ms) Q (F0 m (pc + 3) ls (.long r :: rest))) : W p l e R s m args below meth c H locs cells slots Q (F0 m pc ls st0) := by
  have hFc := va_free hD hS hA isC hiC
  refine va_calll hr hS (fun q _ h => hFc q h) hFc (fun r' u t H1 locs1 ht hvm hw hB hz1 hk1 hS1 => ?_)
  obtain rfl : r' = r := hw
  obtain ⟨hP1, hD1⟩ := hB
  rw [ht] at hP1
  obtain ⟨hP2, hD2⟩ := va_join hP hD isC isR hiC hiR hnR hdis hk1 hFc hP1 hD1
  exact kk H1 locs1 (hP2.sub js (k_sub hjs)) (hD2.sub js hnj hjs) hS1
theorem k_av {wc wr w1 w2 : va_W} {a : Array Value} {mc ms : Nat} (hr : va_Run p l e R s m args below meth c H locs cells slots mc ms (F0 m pc ls st0) rest (kQv D w1 (va_A wc H.size) a) (va_A wc H.size)) (hP : va_P D vwCl ws H) (hD : va_D A ws) (hS : va_S A H0 H locs) (hA : ∀ q : Nat, H0.size ≤ q → A q) (isC isR js : List Nat) (hiC : isC.map (fun i => ws[i]?) = wc.map some) (hiR : isR.map (fun i => ws[i]?) = wr.map some) (hnR : va_nd isR = true) (hdis : ∀ i ∈ isR, i ∉ isC) (hjs : js.map (fun i => (wr ++ w1)[i]?) = w2.map some) (hnj : va_nd js = true)
    (kk : ∀ (H1 : Heap) (locs1 : List Loc), va_P D vwCl w2 H1 → va_D A w2 → va_S A H0 H1 locs1 → W p l e R s m args below meth c H1 locs1 (cells + mc) (slots + ms) Q (F0 m (pc + 3) ls rest)) : W p l e R s m args below meth c H locs cells slots Q (F0 m pc ls st0) := by
  have hFc := va_free hD hS hA isC hiC
  refine va_callv hr hS (fun q _ h => hFc q h) hFc (fun u t H1 locs1 ht hvm hw hB hz1 hk1 hS1 => ?_)
  obtain ⟨hP1, hD1⟩ := hB
  rw [ht] at hP1
  obtain ⟨hP2, hD2⟩ := va_join hP hD isC isR hiC hiR hnR hdis hk1 hFc hP1 hD1
  exact kk H1 locs1 (hP2.sub js (k_sub hjs)) (hD2.sub js hnj hjs) hS1
/-- the number on top, written otherwise -/
theorem k_top {x y : Int32} (h : x = y) (k : W p l e R s m args below meth c H locs cells slots Q (F0 m pc ls (.int y :: rest))) : W p l e R s m args below meth c H locs cells slots Q (F0 m pc ls (.int x :: rest)) := h ▸ k
theorem k_topl {x y : Int64} (h : x = y) (k : W p l e R s m args below meth c H locs cells slots Q (F0 m pc ls (.long y :: rest))) : W p l e R s m args below meth c H locs cells slots Q (F0 m pc ls (.long x :: rest)) := h ▸ k
theorem k_cells {k n : Nat} (h1 : cells = k) (h2 : slots = n) (kk : W p l e R s m args below meth c H locs k n Q (F0 m pc ls rest)) : W p l e R s m args below meth c H locs cells slots Q (F0 m pc ls rest) := by
  subst h1; subst h2; exact kk
theorem k_tabIn (hx : p.tables.exec = Jvm.exec) (hb : c.code = cc) {dflt lo hi : Int} {offs : Array Int} {len : Nat} {x v : Int32} {off : Int} {tgt : Nat} (hdg : decode cc pc = .ok (.tableswitch dflt lo hi offs, len)) (hxv : x = v) (h1 : ¬ v.toInt < lo) (h2 : ¬ hi < v.toInt) (ho : offs[(v.toInt - lo).toNat]? = some off) (ht : (pc : Int) + off = (tgt : Int)) (k : W p l e R s m args below meth c H locs cells slots Q (F0 m tgt ls rest)) : W p l e R s m args below meth c H locs cells slots Q (F0 m pc ls (.int x :: rest)) := by
  subst hxv; exact lv_tableIn hx hb hdg h1 h2 ho ht k
theorem k_lookIn (hx : p.tables.exec = Jvm.exec) (hb : c.code = cc) {dflt : Int} {ps : Array (Int × Int)} {len : Nat} {x v : Int32} {off : Int} {tgt : Nat} (hdg : decode cc pc = .ok (.lookupswitch dflt ps, len)) (hxv : x = v) (hp : (ps.toList.zip (ps.toList.drop 1)).all (fun (a, next) => a.1 < next.1) = true) (ho : Op.lookupswitch.offset ps.toList dflt v.toInt = off) (ht : (pc : Int) + off = (tgt : Int)) (k : W p l e R s m args below meth c H locs cells slots Q (F0 m tgt ls rest)) : W p l e R s m args below meth c H locs cells slots Q (F0 m pc ls (.int x :: rest)) := by
  subst hxv; exact lv_lookup hx hb hdg hp ho ht k
end KK
def k_max (x y : Int32) : Int32 := if x < y then y else x
def k_min (x y : Int32) : Int32 := if y < x then y else x
theorem k_nneg {e : Nat} {v : Int32} (h : e < 2 ^ 31) (hv : v < 0) : ¬ nI e = v := fun q => nI_pos h (q ▸ hv)
theorem k_ti {x k : Int32} {v : Int} (hk : k.toInt = v) (h : x.toInt = v) : x = k := Int32.toInt_inj.mp (h.trans hk.symm)
theorem k_tout {x : Int32} {lo hi : Int} (h : ∀ v : Int, lo ≤ v → v ≤ hi → x.toInt = v → False) : x.toInt < lo ∨ hi < x.toInt := by
  by_cases h1 : x.toInt < lo
  · exact Or.inl h1
  · by_cases h2 : hi < x.toInt
    · exact Or.inr h2
    · exact (h x.toInt (by omega) (by omega) rfl).elim
theorem k_lvl {n' n maxL mc ms mc' ms' : Nat} (h : n' < n) (hm : maxL ≤ 80) : (kR n' mc' ms').frames + 1 ≤ (kR n mc ms).frames ∧ 8 + (maxL + 11) + (kR n' mc' ms').locals ≤ (kR n mc ms).locals := ⟨by show 2 * n' + 2 + 1 ≤ 2 * n + 2; omega, by show 8 + (maxL + 11) + (100 * n' + 100) ≤ 100 * n + 100; omega⟩
theorem k_cl {x : Int32} (h : ¬ x < 0) : x = nI x.toNatClampNeg := by
  obtain ⟨j, hj, e⟩ := nI_of h
  rw [e, nI_clamp hj]
theorem k_mulc {x : Int32} (h : ¬ x < 0) (n : Nat) : x * nI n = nI (x.toNatClampNeg * n) := by
  rw [← pk_mul, ← k_cl h]
theorem k_addc {x : Int32} (h : ¬ x < 0) (n : Nat) : x + nI n = nI (x.toNatClampNeg + n) := by
  rw [← nI_add, ← k_cl h]
theorem k_clt {x M : Int32} {n : Nat} (hM : M.toInt = n) (h0 : ¬ x < 0) (h : ¬ M ≤ x) : x.toNatClampNeg < n := by
  obtain ⟨j, hj, e⟩ := nI_of h0
  have h1 := Int32.lt_iff_toInt_lt.mp (Int32.not_le.mp h)
  rw [e, nI_toInt hj, hM] at h1
  rw [e, nI_clamp hj]
  omega
theorem k_rng {lo v : Int} (h : lo ≤ v) : v = lo ∨ lo + 1 ≤ v := by omega
