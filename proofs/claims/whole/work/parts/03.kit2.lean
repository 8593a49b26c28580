-- MY KIT, 2
theorem k_arrE {cI : ClassId} {N : Nat} {f f' : Nat → Value} (h : ∀ j, j < N → f j = f' j) : arrV cI N f = arrV cI N f' := by
  unfold arrV
  congr 1
  refine Array.ext (by simp) fun i h1 h2 => ?_
  simp only [Array.getElem_ofFn]
  exact h i (by simpa using h1)
theorem k_swap {D : va_G} {A : Nat → Prop} {ws : va_W} {H : Heap} {q0 a n : Nat} {cA : ClassId} {f f' : Nat → Int32} (hP : va_P D vwCl ws H) (hD : va_D A ws) (hq : ws[q0]? = some (a, .inl (cA, n, .inl f))) (hf : ∀ j, j < n → f j = f' j) : va_P D vwCl (ws.set q0 (a, .inl (cA, n, .inl f'))) H ∧ va_D A (ws.set q0 (a, .inl (cA, n, .inl f'))) := by
  refine ⟨fun k q hk => ?_, hD.set hq⟩
  by_cases h : k = q0
  · subst h
    have hl : k < ws.length := (List.getElem?_eq_some_iff.mp hq).1
    rw [List.getElem?_set_self hl] at hk
    cases hk
    have h1 : H[a]? = some (vp_cell cA (n, .inl f)) := hP k _ hq
    show H[a]? = some (vp_cell cA (n, .inl f'))
    rw [h1, vp_cell_i, vp_cell_i]
    exact congrArg some (k_arrE (fun j hj => by rw [hf j hj]))
  · rw [List.getElem?_set_ne (fun e => h e.symm)] at hk
    exact hP k q hk
theorem k_full {D : va_G} {A : Nat → Prop} {ws : va_W} {H : Heap} {q0 a n : Nat} {cA : ClassId} {f f' : Nat → Int32} (hP : va_P D vwCl ws H) (hD : va_D A ws) (hq : ws[q0]? = some (a, .inl (cA, n, .inl (va_cpy f f' 0 0 n)))) : va_P D vwCl (ws.set q0 (a, .inl (cA, n, .inl f))) H ∧ va_D A (ws.set q0 (a, .inl (cA, n, .inl f))) :=
  k_swap hP hD hq (fun j hj => by rw [pk_cpy_in (Nat.zero_le _) (by omega)]; congr 1; omega)
section KK2
variable {p : Program} {l : Launch} {e : Env} {R : Room} {s : State} {m : MethodId} {args : Array Value} {below : List Frame} {meth : Method} {c : Code} {H0 H : Heap} {locs : List Loc} {cells slots : Nat} {Q : State → Prop}
variable {cc : ByteArray} {pc : Nat} {ls : Array Slot} {rest st0 : List Value}
variable {D : va_G} {g : Nat → Nat} {A : Nat → Prop} {ws : va_W}
/-- contracts that answer one reference -/
def kQr (D : va_G) (w' : va_W) (A : Nat → Prop) (r : Nat) : Array Value → State → Outcome → State → Prop := va_Qr (fun (_ : Unit) => True) (fun (_ : Unit) (a : Nat) (t : State) => a = r ∧ va_P D vwCl w' t.heap ∧ va_D A w') A
def kMr (l : Launch) (D : va_G) (g : Nat → Nat) (y : MethodName) (wy : List Cond) (n mc ms : Nat) (av : List Value) (w : va_W) (sz : Nat) (r : Nat) (w' : va_W) : Prop := Met l y wy (kR n mc ms) (va_Pc av (kPre D g w sz)) (kQr D w' (va_A w sz) r) mc ms (va_A w sz)
theorem k_rr (hx : p.tables.exec = Jvm.exec) (hb : c.code = cc) {rt : FieldType} (hr : meth.sig.returnType = some rt) (hlocks : meth.locks = false) (hP : va_P D vwCl ws H) (hD : va_D A ws) (hS : va_S A s.heap H locs) {v r : Nat} {w' : va_W} (hdg : decode cc pc = .ok (.areturn, 1)) (hrt : (∃ n, rt = .object n) ∨ ∃ t, rt = .array t) (hv : v = r) (hw : ws = w') : W p l e R s m args below meth c H locs cells slots (MQ below (kQr D w' A r) args s cells slots A) (F0 m pc ls [.ref v]) := by
  subst hv
  subst hw
  exact W.aret hx hb hr hrt (Or.inr ⟨v, rfl⟩) (fun t ht hW => ⟨⟨(), v, rfl, trivial, rfl, by rw [ht]; exact hP, hD⟩, hS.F ht⟩) hS.2.2 hdg hlocks
theorem k_ar {wc wr w1 w2 : va_W} {r : Nat} {a : Array Value} {mc ms : Nat} (hr : va_Run p l e R s m args below meth c H locs cells slots mc ms (F0 m pc ls st0) rest (kQr D w1 (va_A wc H.size) r a) (va_A wc H.size)) (hP : va_P D vwCl ws H) (hD : va_D A ws) (hS : va_S A H0 H locs) (hA : ∀ q : Nat, H0.size ≤ q → A q) (isC isR js : List Nat) (hiC : isC.map (fun i => ws[i]?) = wc.map some) (hiR : isR.map (fun i => ws[i]?) = wr.map some) (hnR : va_nd isR = true) (hdis : ∀ i ∈ isR, i ∉ isC) (hjs : js.map (fun i => (wr ++ w1)[i]?) = w2.map some) (hnj : va_nd js = true)
    (kk : ∀ (H1 : Heap) (locs1 : List Loc), va_P D vwCl w2 H1 → va_D A w2 → va_S A H0 H1 locs1 → W p l e R s m args below meth c H1 locs1 (cells + mc) (slots + ms) Q (F0 m (pc + 3) ls (.ref r :: rest))) : W p l e R s m args below meth c H locs cells slots Q (F0 m pc ls st0) := by
  have hFc := va_free hD hS hA isC hiC
  refine va_callr hr hS (fun q _ h => hFc q h) hFc (fun u r' t H1 locs1 ht hvm hw hB hz1 hk1 hS1 => ?_)
  obtain ⟨hr9, hP1, hD1⟩ := hB
  subst hr9
  rw [ht] at hP1
  obtain ⟨hP2, hD2⟩ := va_join hP hD isC isR hiC hiR hnR hdis hk1 hFc hP1 hD1
  exact kk H1 locs1 (hP2.sub js (k_sub hjs)) (hD2.sub js hnj hjs) hS1
theorem kPVr {C : String} {b : Addr} {As : List Value} {wc : va_W} (hP : va_P D vwCl ws H) (hD : va_D A ws) (hK : va_K D vwCl (kTy g) s) (hS : va_S A s.heap H locs) (hA : ∀ q : Nat, s.heap.size ≤ q → A q) (hE : kEnv g A s s.heap) (isC : List Nat) (hiC : isC.map (fun i => ws[i]?) = wc.map some) (hnC : va_nd isC = true) (hrec : ∃ cell : Cell, H[b]? = some cell ∧ cell.vm.isStatics = false ∧ s.vm.findClass C = some cell.cls) : PreV s H C b (va_Pc (.ref b :: As) (kPre D g wc H.size)) As :=
  ⟨kPre_blind, hrec, fun U hU hW => ⟨rfl, by rw [hU], by rw [hU]; exact hP.sub isC (k_sub hiC), va_K.moved hW.alike hK, (hD.sub isC hnC hiC).weaken (fun _ _ _ _ => trivial), by rw [hU]; exact ((hE.kept hS.2.1).narrow (va_free hD hS hA isC hiC)).warm hW⟩⟩
/-- a place of a table that leads where the rest leads -/
theorem k_tabDef (hx : p.tables.exec = Jvm.exec) (hb : c.code = cc) {dflt lo hi : Int} {offs : Array Int} {len : Nat} {x : Int32} {tgt : Nat} (hdg : decode cc pc = .ok (.tableswitch dflt lo hi offs, len)) (h : ∀ v : Int, lo ≤ v → v ≤ hi → x.toInt = v → offs[(v - lo).toNat]? = some dflt) (ht : (pc : Int) + dflt = (tgt : Int)) (k : W p l e R s m args below meth c H locs cells slots Q (F0 m tgt ls rest)) : W p l e R s m args below meth c H locs cells slots Q (F0 m pc ls (.int x :: rest)) := by
  by_cases h1 : x.toInt < lo
  · exact lv_tableOut hx hb hdg (Or.inl h1) ht k
  · by_cases h2 : hi < x.toInt
    · exact lv_tableOut hx hb hdg (Or.inr h2) ht k
    · exact lv_tableIn hx hb hdg h1 h2 (h x.toInt (by omega) (by omega) rfl) ht k
end KK2
/-- the character of a String constant -/
def kCh (i k : Nat) : Int32 := ((((kByt.getD i []).getD k 0) &&& 255).toUInt32 % 65536).toInt32
