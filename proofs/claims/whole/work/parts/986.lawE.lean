-- THE LAW, 6: its loop's body: what stands around it, and the rows that each case has
noncomputable section
abbrev lwA (s : State) : Nat → Prop := fun q => s.heap.size ≤ q
/-- what stays while the law runs -/
def LwC (p : Program) (l : Launch) (s : State) (m : MethodId) (c : Code) (D : va_G) (g : Nat → Nat) (b L : Nat) (xs : Nat → Int32) : Prop := p.tables.exec = Jvm.exec ∧ c.code = cL_law ∧ c.maxLocals = 7 ∧ s.vm.findClass RL = some m.cls ∧ (∀ w ∈ wsL_law, w.before #[Value.ref b] s = true) ∧ va_X b L xs s s.heap ∧ b < s.heap.size ∧ l.stackTraces = false ∧ va_K D vwCl (kTy g) s ∧ kEnv g (lwA s) s s.heap ∧ kExt s ∧ L ≤ 3584
/-- from the end of a case on -/
def LwK (p : Program) (l : Launch) (e : Env) (s : State) (m : MethodId) (below : List Frame) (meth : Method) (c : Code) (D : va_G) (g : Nat → Nat) (o0 x0 m0 : Nat) (ua ub : Nat → Nat → Nat) (uu : Nat → Nat) (b i : Nat) (Q : State → Prop) : Prop := ∀ (S : KC) (R : KR) (H : Heap) (locs : List Loc) (ls : Array Slot), INV (3000 * i + 3000) S R → va_P D vwCl (w8 g m0 uu R ++ wK g o0 x0 ua ub S) H → va_D (lwA s) (w8 g m0 uu R ++ wK g o0 x0 ua ub S) → va_S (lwA s) s.heap H locs → lv_has ls 7 [(0, .ref b), (1, .ref x0), (2, .ref m0), (3, .ref o0), (4, .int (nI i))] → W p l e room_1 s m #[Value.ref b] below meth c H locs (200 + i + 1) (40000 + 6 * i + 6) Q (F0 m 1929 ls [])
theorem INV.pre {N : Nat} {S : KC} {R : KR} (h : INV N S R) : S.1 ≤ 120 ∧ S.2.2.2.2.2.1 < 14 ∧ S.2.2.2.2.2.2.1 ≤ 14 ∧ ¬ 10 < S.2.2.1.1 ∧ S.2.2.1.1 = nI S.2.2.1.1.toNatClampNeg ∧ S.2.2.1.1.toNatClampNeg ≤ 10 ∧ R.2.1 ≤ 120 ∧ rdOk R.2.2.2.2.2.2.2.2.1 ∧ R.2.2.2.2.2.1 ≤ 14 := by
  obtain ⟨h1, h2, h3, h4, h5, h6⟩ := h
  obtain ⟨k1, k2, k3, k4⟩ := pPlan_ok h4
  exact ⟨h3, h5.1, (by rw [h5.2.1]; exact h5.2.2.1), k2, k3, k4, (by rw [← h1]; exact h3), k1, h5.2.2.1⟩
section LW
variable {p : Program} {l : Launch} {e : Env} {R : Room} {s : State} {m : MethodId} {args : Array Value} {below : List Frame} {meth : Method} {c : Code} {H : Heap} {locs : List Loc} {cells slots : Nat} {Q : State → Prop}
variable {cc : ByteArray} {pc : Nat} {ls : Array Slot} {st : List Value} {A : Nat → Prop}
/-- a number of the script -/
theorem law_ld {b L i k : Nat} {xs : Nat → Int32} {kv : Int32} (hk : kv = nI k) (hlt : i + k < L) (hL : L ≤ 3584) (hx : p.tables.exec = Jvm.exec) (hb : c.code = cc) (hX : va_X b L xs s s.heap) (hbl : b < s.heap.size) (hbA : ¬ A b) (hS : va_S A s.heap H locs) (d3 : decode cc pc = .ok (.iadd, 1)) (d4 : decode cc (pc + 1) = .ok (.iaload, 1))
    (kk : W p l e R s m args below meth c H locs cells slots Q (F0 m (pc + 2) ls (.int (xs (i + k)) :: st))) : W p l e R s m args below meth c H locs cells slots Q (F0 m pc ls (.int kv :: .int (nI i) :: .ref b :: st)) := by
  subst hk
  refine lv_iadd hx hb d3 ?_
  refine k_top (y := nI (i + k)) (nI_add i k) ?_
  refine va_sld hx hb hX hbl hbA hS (vp_in_nI hlt (by omega)) d4 ?_
  exact k_top (y := xs (i + k)) (by rw [nI_clamp (by omega)]) kk
/-- whether a number is not 0 -/
theorem law_bool {tX tY : Nat} {o1 o2 : Int} {x : Int32} (hx : p.tables.exec = Jvm.exec) (hb : c.code = cc) (d0 : decode cc pc = .ok (.ifCond .eq o1, 3)) (h1 : (pc : Int) + o1 = (tX : Int)) (d1 : decode cc (pc + 3) = .ok (.iconst 1, 1)) (d2 : decode cc (pc + 3 + 1) = .ok (.goto o2, 3)) (h2 : ((pc + 3 + 1 : Nat) : Int) + o2 = (tY : Int)) (d3 : decode cc tX = .ok (.iconst 0, 1)) (h3 : tX + 1 = tY)
    (kk : W p l e R s m args below meth c H locs cells slots Q (F0 m tY ls (.int (if x = 0 then 0 else 1) :: st))) : W p l e R s m args below meth c H locs cells slots Q (F0 m pc ls (.int x :: st)) := by
  refine lv_if_eq hx hb d0 h1 (fun c1 => ?_) (fun c1 => ?_)
  · refine lv_iconst (v := 0) hx hb d3 (by decide) ?_
    rw [if_pos c1, ← h3] at kk
    exact kk
  · refine lv_iconst (v := 1) hx hb d1 (by decide) ?_
    refine lv_goto (tgt := tY) hx hb d2 h2 ?_
    rw [if_neg c1] at kk
    exact kk
end LW
set_option maxHeartbeats 4000000 in
set_option maxRecDepth 100000 in
theorem law_0 {p : Program} {l : Launch} {e : Env} {s : State} {m : MethodId} {below : List Frame} {meth : Method} {c : Code} {D : va_G} {g : Nat → Nat} {o0 x0 m0 : Nat} {ua ub : Nat → Nat → Nat} {uu : Nat → Nat} {b L : Nat} {xs : Nat → Int32} (C : LwC p l s m c D g b L xs) {i : Nat} (hi : i + 7 ≤ L) {Q : State → Prop} (K : LwK p l e s m below meth c D g o0 x0 m0 ua ub uu b i Q) {S : KC} {R : KR} {H : Heap} {locs : List Loc} {ls : Array Slot} (hI : INV (3000 * i) S R) (hP : va_P D vwCl ((w8 g m0 uu R) ++ (wK g o0 x0 ua ub S)) H) (hD : va_D (lwA s) ((w8 g m0 uu R) ++ (wK g o0 x0 ua ub S))) (hS : va_S (lwA s) s.heap H locs) (hl : lv_has ls 7 [(0, .ref b), (1, .ref x0), (2, .ref m0), (3, .ref o0), (4, .int (nI i))]) : W p l e room_1 s m #[Value.ref b] below meth c H locs (200 + i) (40000 + 6 * i) Q (F0 m 160 ls []) := by
  obtain ⟨hx, hb, hml, hown, hts, hX0, hbl, hst, hK, hE, hX, hL⟩ := C
  have hA : ∀ q : Nat, s.heap.size ≤ q → lwA s q := fun _ h => h
  have hbA : ¬ lwA s b := Nat.not_le.mpr hbl
  obtain ⟨p1, p2, p3, p4, p5, p6, p7, p8, p9⟩ := INV.pre hI
  refine lv_aload_n hx hb dL_law_160 rfl (lv_at hl 1 rfl) ?_
  refine lv_aload_n hx hb dL_law_161 rfl (lv_at hl 0 rfl) ?_
  refine lv_iload hx hb dL_law_162 (lv_at hl 4 rfl) ?_
  refine lv_iconst (v := 1) hx hb dL_law_164 (by decide) ?_
  refine law_ld (k := 1) rfl (by omega) hL hx hb hX0 hbl hbA hS dL_law_165 dL_law_166 ?_
  refine lv_aload_n hx hb dL_law_167 rfl (lv_at hl 3 rfl) ?_
  obtain ⟨hI2, hk2, ha2⟩ := inv_append (N := 3000 * i) (xs (i + 1)) hI (by omega)
  refine k_aiR (wa := (w8 g m0 uu R)) (w1 := (wK g o0 x0 ua ub (sL_append (xs (i + 1)) S))) (vx_runSW (As := [.ref x0, .int (xs (i + 1)), .ref o0]) (rest := []) ⟨hx, hb, hml, hown, hts⟩ (c_L_append l D g o0 x0 ua ub H.size S (xs (i + 1)) hst p1 p2 p3 p4 p5 p6) (vx_cwSW 3 hts gL_law_L_append rfl rfl rfl (by decide +kernel) ⟨Nat.le_of_ble_eq_true rfl, Nat.le_of_ble_eq_true rfl⟩) (kPSsX (wa := (w8 g m0 uu R)) hP hD hK hS hA hE hX) rfl rfl hl.1 rfl (lv_room (Nat.le_of_ble_eq_true rfl)) dL_law_168 ⟨by show 200 + i + 1 ≤ 601024; omega, by show 40000 + 6 * i + 6 ≤ 7293034; omega⟩) hP hD hS hA (fun H locs hP hD hS => ?_)
  refine lv_topi (fun k9 ek9 => ?_)
  refine lv_istore (lv' := [(5, .int k9), (0, .ref b), (1, .ref x0), (2, .ref m0), (3, .ref o0), (4, .int (nI i))]) hx hb dL_law_171 hl (by decide) rfl (fun ls hl => ?_)
  generalize (sL_append (xs (i + 1)) S) = S2 at hP hD hI2 ha2
  have hl0 := hl
  refine lv_aload_n hx hb dL_law_173 rfl (lv_at hl 3 rfl) ?_
  refine lv_aload_n hx hb dL_law_174 rfl (lv_at hl 1 rfl) ?_
  refine lv_iload hx hb dL_law_175 (lv_at hl 5 rfl) ?_
  refine lv_iconst (v := 1) hx hb dL_law_177 (by decide) ?_
  refine law_ld (k := 1) rfl (by omega) hL hx hb hX0 hbl hbA hS dL_law_178 dL_law_179 ?_
  have hP := k_swP hP
  have hD := k_swD hD
  refine k_aiR (wa := (wK g o0 x0 ua ub S2)) (w1 := (w8 g m0 uu (sR_append (xs (i + 1)) R))) (va_runV (As := [.int (xs (i + 1))]) (rest := []) ⟨hx, hb, hml, hown, hts⟩ (c_8_append l D g m0 uu H.size R (xs (i + 1)) p7 p8 p9) (cwV 1 hts gL_law_X8_append rfl rfl rfl (by decide +kernel) ⟨Nat.le_of_ble_eq_true rfl, Nat.le_of_ble_eq_true rfl⟩) (kPVs (wa := (wK g o0 x0 ua ub S2)) hP hD hK hS hA hE 0 8 rfl rfl rfl) rfl rfl hl.1 rfl (lv_room (Nat.le_of_ble_eq_true rfl)) dL_law_180 ⟨by show 200 + i + 1 ≤ 601024; omega, by show 40000 + 6 * i + 6 ≤ 7293034; omega⟩) hP hD hS hA (fun H locs hP hD hS => ?_)
  generalize (sR_append (xs (i + 1)) R) = R2 at hP hD hI2 hk2
  refine lv_topi (fun b9 eb9 => ?_)
  refine lv_istore (lv' := [(6, .int b9), (5, .int k9), (0, .ref b), (1, .ref x0), (2, .ref m0), (3, .ref o0), (4, .int (nI i))]) hx hb dL_law_183 hl (by decide) rfl (fun ls hl => ?_)
  refine lv_aload_n hx hb dL_law_185 rfl (lv_at hl 4 rfl) ?_
  obtain ⟨_, _, _, _, _, _, q7, q8, q9⟩ := INV.pre hI2
  refine k_aiR (wa := (wK g o0 x0 ua ub S2)) (w1 := (w8 g m0 uu R2)) (va_runV (As := []) (rest := []) ⟨hx, hb, hml, hown, hts⟩ (c_8_thrown l D g m0 uu H.size R2 q7 q8 q9) (cwV 0 hts gL_law_X8_thrown rfl rfl rfl (by decide +kernel) ⟨Nat.le_of_ble_eq_true rfl, Nat.le_of_ble_eq_true rfl⟩) (kPVs (wa := (wK g o0 x0 ua ub S2)) hP hD hK hS hA hE 0 8 rfl rfl rfl) rfl rfl hl.1 rfl (lv_room (Nat.le_of_ble_eq_true rfl)) dL_law_186 ⟨by show 200 + i + 1 ≤ 601024; omega, by show 40000 + 6 * i + 6 ≤ 7293034; omega⟩) hP hD hS hA (fun H locs hP hD hS => ?_)
  refine lv_iload hx hb dL_law_189 (lv_at hl 1 rfl) ?_
  refine lv_icmp_eq (tgt := 196) hx hb dL_law_191 (by decide) (fun c1 => ?_) (fun c1 => absurd (ek9.trans hk2).symm c1)
  refine lv_iload hx hb dL_law_196 (lv_at hl 1 rfl) ?_
  have hG : ∀ (H : Heap) (locs : List Loc), va_P D vwCl ((wK g o0 x0 ua ub S2) ++ (w8 g m0 uu R2)) H → va_D (lwA s) ((wK g o0 x0 ua ub S2) ++ (w8 g m0 uu R2)) → va_S (lwA s) s.heap H locs → W p l e room_1 s m #[Value.ref b] below meth c H locs (200 + i + 1) (40000 + 6 * i + 6) Q (F0 m 213 ls []) := by
    intro H locs hP hD hS
    refine lv_goto (tgt := 1929) hx hb dL_law_213 (by decide) ?_
    exact K S2 R2 _ _ _ hI2 (k_swP hP) (k_swD hD) hS (lv_sub hl [2, 3, 4, 5, 6] rfl)
  refine lv_if_ne (tgt := 213) hx hb dL_law_198 (by decide) (fun c2 => hG _ _ hP hD hS) (fun c2 => ?_)
  refine lv_aload_n hx hb dL_law_201 rfl (lv_at hl 5 rfl) ?_
  refine lv_iconst (v := 0) hx hb dL_law_202 (by decide) ?_
  refine va_lald (i := 0) hx hb hK hP 0 4 rfl rfl (by unfold vp_in; decide) dL_law_203 ?_
  refine k_topl (y := S2.2.2.2.2.2.2.2.2.2.2.2 0) rfl ?_
  refine lv_iload hx hb dL_law_204 (lv_at hl 0 rfl) ?_
  refine lv_i2l (v := Int32.toInt64 b9) hx hb dL_law_206 rfl ?_
  refine W.lcmp hx hb dL_law_207 ?_
  refine lv_if_eq (tgt := 213) hx hb dL_law_208 (by decide) (fun c3 => hG _ _ hP hD hS) (fun c3 => absurd ((lg_cmp_eq _ _).mpr ((ha2 (ek9.symm.trans c2)).trans (congrArg Int32.toInt64 eb9.symm))) c3)
set_option maxHeartbeats 4000000 in
set_option maxRecDepth 100000 in
theorem law_1 {p : Program} {l : Launch} {e : Env} {s : State} {m : MethodId} {below : List Frame} {meth : Method} {c : Code} {D : va_G} {g : Nat → Nat} {o0 x0 m0 : Nat} {ua ub : Nat → Nat → Nat} {uu : Nat → Nat} {b L : Nat} {xs : Nat → Int32} (C : LwC p l s m c D g b L xs) {i : Nat} (hi : i + 7 ≤ L) {Q : State → Prop} (K : LwK p l e s m below meth c D g o0 x0 m0 ua ub uu b i Q) {S : KC} {R : KR} {H : Heap} {locs : List Loc} {ls : Array Slot} (hI : INV (3000 * i) S R) (hP : va_P D vwCl ((w8 g m0 uu R) ++ (wK g o0 x0 ua ub S)) H) (hD : va_D (lwA s) ((w8 g m0 uu R) ++ (wK g o0 x0 ua ub S))) (hS : va_S (lwA s) s.heap H locs) (hl : lv_has ls 7 [(0, .ref b), (1, .ref x0), (2, .ref m0), (3, .ref o0), (4, .int (nI i))]) : W p l e room_1 s m #[Value.ref b] below meth c H locs (200 + i) (40000 + 6 * i) Q (F0 m 216 ls []) := by
  obtain ⟨hx, hb, hml, hown, hts, hX0, hbl, hst, hK, hE, hX, hL⟩ := C
  have hA : ∀ q : Nat, s.heap.size ≤ q → lwA s q := fun _ h => h
  have hbA : ¬ lwA s b := Nat.not_le.mpr hbl
  obtain ⟨p1, p2, p3, p4, p5, p6, p7, p8, p9⟩ := INV.pre hI
  refine lv_aload_n hx hb dL_law_216 rfl (lv_at hl 1 rfl) ?_
  obtain ⟨hI2, hr2⟩ := inv_clearText (N := 3000 * i) hI (by omega)
  refine k_aiR (wa := (w8 g m0 uu R)) (w1 := (wK g o0 x0 ua ub (sL_clearText S))) (va_runV (As := []) (rest := []) ⟨hx, hb, hml, hown, hts⟩ (c_7_clearText l D g o0 x0 ua ub H.size S hst p1 p2 p3 p4 p5 p6) (cwV 0 hts gL_law_X7_clearText rfl rfl rfl (by decide +kernel) ⟨Nat.le_of_ble_eq_true rfl, Nat.le_of_ble_eq_true rfl⟩) (kPVs (wa := (w8 g m0 uu R)) hP hD hK hS hA hE 1 7 rfl rfl rfl) rfl rfl hl.1 rfl (lv_room (Nat.le_of_ble_eq_true rfl)) dL_law_217 ⟨by show 200 + i ≤ 601024; omega, by show 40000 + 6 * i ≤ 7293034; omega⟩) hP hD hS hA (fun H locs hP hD hS => ?_)
  generalize (sL_clearText S) = S2 at hP hD hI2 
  refine lv_aload_n hx hb dL_law_220 rfl (lv_at hl 2 rfl) ?_
  have hP := k_swP hP
  have hD := k_swD hD
  refine k_aiR (wa := (wK g o0 x0 ua ub S2)) (w1 := (w8 g m0 uu (sR_clearText R))) (va_runV (As := []) (rest := [.int (nI (f_X7_clearText S.1))]) ⟨hx, hb, hml, hown, hts⟩ (c_8_clearText l D g m0 uu H.size R  p7 p8 p9) (cwV 0 hts gL_law_X8_clearText rfl rfl rfl (by decide +kernel) ⟨Nat.le_of_ble_eq_true rfl, Nat.le_of_ble_eq_true rfl⟩) (kPVs (wa := (wK g o0 x0 ua ub S2)) hP hD hK hS hA hE 0 8 rfl rfl rfl) rfl rfl hl.1 rfl (lv_room (Nat.le_of_ble_eq_true rfl)) dL_law_221 ⟨by show 200 + i ≤ 601024; omega, by show 40000 + 6 * i ≤ 7293034; omega⟩) hP hD hS hA (fun H locs hP hD hS => ?_)
  generalize (sR_clearText R) = R2 at hP hD hI2 
  refine lv_icmp_eq (tgt := 1929) hx hb dL_law_224 (by decide) (fun c1 => ?_) (fun c1 => absurd hr2 c1)
  refine W.widen (k := 200 + i + 1) (n := 40000 + 6 * i + 6) (by show 200 + i ≤ _; omega) (by show 40000 + 6 * i ≤ _; omega) ?_
  exact K S2 R2 _ _ _ hI2 (k_swP hP) (k_swD hD) hS (lv_sub hl [0, 1, 2, 3, 4] rfl)
set_option maxHeartbeats 4000000 in
set_option maxRecDepth 100000 in
theorem law_2 {p : Program} {l : Launch} {e : Env} {s : State} {m : MethodId} {below : List Frame} {meth : Method} {c : Code} {D : va_G} {g : Nat → Nat} {o0 x0 m0 : Nat} {ua ub : Nat → Nat → Nat} {uu : Nat → Nat} {b L : Nat} {xs : Nat → Int32} (C : LwC p l s m c D g b L xs) {i : Nat} (hi : i + 7 ≤ L) {Q : State → Prop} (K : LwK p l e s m below meth c D g o0 x0 m0 ua ub uu b i Q) {S : KC} {R : KR} {H : Heap} {locs : List Loc} {ls : Array Slot} (hI : INV (3000 * i) S R) (hP : va_P D vwCl ((w8 g m0 uu R) ++ (wK g o0 x0 ua ub S)) H) (hD : va_D (lwA s) ((w8 g m0 uu R) ++ (wK g o0 x0 ua ub S))) (hS : va_S (lwA s) s.heap H locs) (hl : lv_has ls 7 [(0, .ref b), (1, .ref x0), (2, .ref m0), (3, .ref o0), (4, .int (nI i))]) : W p l e room_1 s m #[Value.ref b] below meth c H locs (200 + i) (40000 + 6 * i) Q (F0 m 229 ls []) := by
  obtain ⟨hx, hb, hml, hown, hts, hX0, hbl, hst, hK, hE, hX, hL⟩ := C
  have hA : ∀ q : Nat, s.heap.size ≤ q → lwA s q := fun _ h => h
  have hbA : ¬ lwA s b := Nat.not_le.mpr hbl
  obtain ⟨p1, p2, p3, p4, p5, p6, p7, p8, p9⟩ := INV.pre hI
  refine lv_aload_n hx hb dL_law_229 rfl (lv_at hl 1 rfl) ?_
  obtain ⟨hI2, hr2⟩ := inv_errorPosition (N := 3000 * i) hI (by omega)
  refine k_aiR (wa := (w8 g m0 uu R)) (w1 := (wK g o0 x0 ua ub (sL_errorPosition S))) (va_runV (As := []) (rest := []) ⟨hx, hb, hml, hown, hts⟩ (c_7_errorPosition l D g o0 x0 ua ub H.size S hst p1 p2 p3 p4 p5 p6) (cwV 0 hts gL_law_X7_errorPosition rfl rfl rfl (by decide +kernel) ⟨Nat.le_of_ble_eq_true rfl, Nat.le_of_ble_eq_true rfl⟩) (kPVs (wa := (w8 g m0 uu R)) hP hD hK hS hA hE 1 7 rfl rfl rfl) rfl rfl hl.1 rfl (lv_room (Nat.le_of_ble_eq_true rfl)) dL_law_230 ⟨by show 200 + i ≤ 601024; omega, by show 40000 + 6 * i ≤ 7293034; omega⟩) hP hD hS hA (fun H locs hP hD hS => ?_)
  generalize (sL_errorPosition S) = S2 at hP hD hI2 
  refine lv_aload_n hx hb dL_law_233 rfl (lv_at hl 2 rfl) ?_
  have hP := k_swP hP
  have hD := k_swD hD
  refine k_aiR (wa := (wK g o0 x0 ua ub S2)) (w1 := (w8 g m0 uu (sR_errorPosition R))) (va_runV (As := []) (rest := [.int (f_X7_errorPosition S.1 S.2.1)]) ⟨hx, hb, hml, hown, hts⟩ (c_8_errorPosition l D g m0 uu H.size R  p7 p8 p9) (cwV 0 hts gL_law_X8_errorPosition rfl rfl rfl (by decide +kernel) ⟨Nat.le_of_ble_eq_true rfl, Nat.le_of_ble_eq_true rfl⟩) (kPVs (wa := (wK g o0 x0 ua ub S2)) hP hD hK hS hA hE 0 8 rfl rfl rfl) rfl rfl hl.1 rfl (lv_room (Nat.le_of_ble_eq_true rfl)) dL_law_234 ⟨by show 200 + i ≤ 601024; omega, by show 40000 + 6 * i ≤ 7293034; omega⟩) hP hD hS hA (fun H locs hP hD hS => ?_)
  generalize (sR_errorPosition R) = R2 at hP hD hI2 
  refine lv_icmp_eq (tgt := 1929) hx hb dL_law_237 (by decide) (fun c1 => ?_) (fun c1 => absurd hr2 c1)
  refine W.widen (k := 200 + i + 1) (n := 40000 + 6 * i + 6) (by show 200 + i ≤ _; omega) (by show 40000 + 6 * i ≤ _; omega) ?_
  exact K S2 R2 _ _ _ hI2 (k_swP hP) (k_swD hD) hS (lv_sub hl [0, 1, 2, 3, 4] rfl)
set_option maxHeartbeats 4000000 in
set_option maxRecDepth 100000 in
theorem law_3 {p : Program} {l : Launch} {e : Env} {s : State} {m : MethodId} {below : List Frame} {meth : Method} {c : Code} {D : va_G} {g : Nat → Nat} {o0 x0 m0 : Nat} {ua ub : Nat → Nat → Nat} {uu : Nat → Nat} {b L : Nat} {xs : Nat → Int32} (C : LwC p l s m c D g b L xs) {i : Nat} (hi : i + 7 ≤ L) {Q : State → Prop} (K : LwK p l e s m below meth c D g o0 x0 m0 ua ub uu b i Q) {S : KC} {R : KR} {H : Heap} {locs : List Loc} {ls : Array Slot} (hI : INV (3000 * i) S R) (hP : va_P D vwCl ((w8 g m0 uu R) ++ (wK g o0 x0 ua ub S)) H) (hD : va_D (lwA s) ((w8 g m0 uu R) ++ (wK g o0 x0 ua ub S))) (hS : va_S (lwA s) s.heap H locs) (hl : lv_has ls 7 [(0, .ref b), (1, .ref x0), (2, .ref m0), (3, .ref o0), (4, .int (nI i))]) : W p l e room_1 s m #[Value.ref b] below meth c H locs (200 + i) (40000 + 6 * i) Q (F0 m 242 ls []) := by
  obtain ⟨hx, hb, hml, hown, hts, hX0, hbl, hst, hK, hE, hX, hL⟩ := C
  have hA : ∀ q : Nat, s.heap.size ≤ q → lwA s q := fun _ h => h
  have hbA : ¬ lwA s b := Nat.not_le.mpr hbl
  obtain ⟨p1, p2, p3, p4, p5, p6, p7, p8, p9⟩ := INV.pre hI
  refine lv_aload_n hx hb dL_law_242 rfl (lv_at hl 1 rfl) ?_
  refine lv_aload_n hx hb dL_law_243 rfl (lv_at hl 3 rfl) ?_
  obtain ⟨hI2, hk2, ha2⟩ := inv_load (N := 3000 * i) hI (by omega)
  refine k_aiR (wa := (w8 g m0 uu R)) (w1 := (wK g o0 x0 ua ub (sL_load S))) (vx_runSW (As := [.ref x0, .ref o0]) (rest := []) ⟨hx, hb, hml, hown, hts⟩ (c_L_load l D g o0 x0 ua ub H.size S  hst p1 p2 p3 p4 p5 p6) (vx_cwSW 2 hts gL_law_L_load rfl rfl rfl (by decide +kernel) ⟨Nat.le_of_ble_eq_true rfl, Nat.le_of_ble_eq_true rfl⟩) (kPSsX (wa := (w8 g m0 uu R)) hP hD hK hS hA hE hX) rfl rfl hl.1 rfl (lv_room (Nat.le_of_ble_eq_true rfl)) dL_law_244 ⟨by show 200 + i + 1 ≤ 601024; omega, by show 40000 + 6 * i + 6 ≤ 7293034; omega⟩) hP hD hS hA (fun H locs hP hD hS => ?_)
  refine lv_topi (fun k9 ek9 => ?_)
  refine lv_istore (lv' := [(5, .int k9), (0, .ref b), (1, .ref x0), (2, .ref m0), (3, .ref o0), (4, .int (nI i))]) hx hb dL_law_247 hl (by decide) rfl (fun ls hl => ?_)
  generalize (sL_load S) = S2 at hP hD hI2 ha2
  have hl0 := hl
  refine lv_aload_n hx hb dL_law_249 rfl (lv_at hl 3 rfl) ?_
  have hP := k_swP hP
  have hD := k_swD hD
  refine k_aiR (wa := (wK g o0 x0 ua ub S2)) (w1 := (w8 g m0 uu (sR_load R))) (va_runV (As := []) (rest := []) ⟨hx, hb, hml, hown, hts⟩ (c_8_load l D g m0 uu H.size R  p7 p8 p9) (cwV 0 hts gL_law_X8_load rfl rfl rfl (by decide +kernel) ⟨Nat.le_of_ble_eq_true rfl, Nat.le_of_ble_eq_true rfl⟩) (kPVs (wa := (wK g o0 x0 ua ub S2)) hP hD hK hS hA hE 0 8 rfl rfl rfl) rfl rfl hl.1 rfl (lv_room (Nat.le_of_ble_eq_true rfl)) dL_law_250 ⟨by show 200 + i + 1 ≤ 601024; omega, by show 40000 + 6 * i + 6 ≤ 7293034; omega⟩) hP hD hS hA (fun H locs hP hD hS => ?_)
  generalize (sR_load R) = R2 at hP hD hI2 hk2
  refine lv_topi (fun b9 eb9 => ?_)
  refine lv_istore (lv' := [(6, .int b9), (5, .int k9), (0, .ref b), (1, .ref x0), (2, .ref m0), (3, .ref o0), (4, .int (nI i))]) hx hb dL_law_253 hl (by decide) rfl (fun ls hl => ?_)
  refine lv_aload_n hx hb dL_law_255 rfl (lv_at hl 4 rfl) ?_
  obtain ⟨_, _, _, _, _, _, q7, q8, q9⟩ := INV.pre hI2
  refine k_aiR (wa := (wK g o0 x0 ua ub S2)) (w1 := (w8 g m0 uu R2)) (va_runV (As := []) (rest := []) ⟨hx, hb, hml, hown, hts⟩ (c_8_thrown l D g m0 uu H.size R2 q7 q8 q9) (cwV 0 hts gL_law_X8_thrown rfl rfl rfl (by decide +kernel) ⟨Nat.le_of_ble_eq_true rfl, Nat.le_of_ble_eq_true rfl⟩) (kPVs (wa := (wK g o0 x0 ua ub S2)) hP hD hK hS hA hE 0 8 rfl rfl rfl) rfl rfl hl.1 rfl (lv_room (Nat.le_of_ble_eq_true rfl)) dL_law_256 ⟨by show 200 + i + 1 ≤ 601024; omega, by show 40000 + 6 * i + 6 ≤ 7293034; omega⟩) hP hD hS hA (fun H locs hP hD hS => ?_)
  refine lv_iload hx hb dL_law_259 (lv_at hl 1 rfl) ?_
  refine lv_icmp_eq (tgt := 266) hx hb dL_law_261 (by decide) (fun c1 => ?_) (fun c1 => absurd (ek9.trans hk2).symm c1)
  refine lv_iload hx hb dL_law_266 (lv_at hl 1 rfl) ?_
  have hG : ∀ (H : Heap) (locs : List Loc), va_P D vwCl ((wK g o0 x0 ua ub S2) ++ (w8 g m0 uu R2)) H → va_D (lwA s) ((wK g o0 x0 ua ub S2) ++ (w8 g m0 uu R2)) → va_S (lwA s) s.heap H locs → W p l e room_1 s m #[Value.ref b] below meth c H locs (200 + i + 1) (40000 + 6 * i + 6) Q (F0 m 283 ls []) := by
    intro H locs hP hD hS
    refine lv_goto (tgt := 1929) hx hb dL_law_283 (by decide) ?_
    exact K S2 R2 _ _ _ hI2 (k_swP hP) (k_swD hD) hS (lv_sub hl [2, 3, 4, 5, 6] rfl)
  refine lv_if_ne (tgt := 283) hx hb dL_law_268 (by decide) (fun c2 => hG _ _ hP hD hS) (fun c2 => ?_)
  refine lv_aload_n hx hb dL_law_271 rfl (lv_at hl 5 rfl) ?_
  refine lv_iconst (v := 0) hx hb dL_law_272 (by decide) ?_
  refine va_lald (i := 0) hx hb hK hP 0 4 rfl rfl (by unfold vp_in; decide) dL_law_273 ?_
  refine k_topl (y := S2.2.2.2.2.2.2.2.2.2.2.2 0) rfl ?_
  refine lv_iload hx hb dL_law_274 (lv_at hl 0 rfl) ?_
  refine lv_i2l (v := Int32.toInt64 b9) hx hb dL_law_276 rfl ?_
  refine W.lcmp hx hb dL_law_277 ?_
  refine lv_if_eq (tgt := 283) hx hb dL_law_278 (by decide) (fun c3 => hG _ _ hP hD hS) (fun c3 => absurd ((lg_cmp_eq _ _).mpr ((ha2 (ek9.symm.trans c2)).trans (congrArg Int32.toInt64 eb9.symm))) c3)
set_option maxHeartbeats 4000000 in
set_option maxRecDepth 100000 in
theorem law_4 {p : Program} {l : Launch} {e : Env} {s : State} {m : MethodId} {below : List Frame} {meth : Method} {c : Code} {D : va_G} {g : Nat → Nat} {o0 x0 m0 : Nat} {ua ub : Nat → Nat → Nat} {uu : Nat → Nat} {b L : Nat} {xs : Nat → Int32} (C : LwC p l s m c D g b L xs) {i : Nat} (hi : i + 7 ≤ L) {Q : State → Prop} (K : LwK p l e s m below meth c D g o0 x0 m0 ua ub uu b i Q) {S : KC} {R : KR} {H : Heap} {locs : List Loc} {ls : Array Slot} (hI : INV (3000 * i) S R) (hP : va_P D vwCl ((w8 g m0 uu R) ++ (wK g o0 x0 ua ub S)) H) (hD : va_D (lwA s) ((w8 g m0 uu R) ++ (wK g o0 x0 ua ub S))) (hS : va_S (lwA s) s.heap H locs) (hl : lv_has ls 7 [(0, .ref b), (1, .ref x0), (2, .ref m0), (3, .ref o0), (4, .int (nI i))]) : W p l e room_1 s m #[Value.ref b] below meth c H locs (200 + i) (40000 + 6 * i) Q (F0 m 286 ls []) := by
  obtain ⟨hx, hb, hml, hown, hts, hX0, hbl, hst, hK, hE, hX, hL⟩ := C
  have hA : ∀ q : Nat, s.heap.size ≤ q → lwA s q := fun _ h => h
  have hbA : ¬ lwA s b := Nat.not_le.mpr hbl
  obtain ⟨p1, p2, p3, p4, p5, p6, p7, p8, p9⟩ := INV.pre hI
  refine lv_aload_n hx hb dL_law_286 rfl (lv_at hl 1 rfl) ?_
  refine lv_aload_n hx hb dL_law_287 rfl (lv_at hl 0 rfl) ?_
  refine lv_iload hx hb dL_law_288 (lv_at hl 4 rfl) ?_
  refine lv_iconst (v := 1) hx hb dL_law_290 (by decide) ?_
  refine law_ld (k := 1) rfl (by omega) hL hx hb hX0 hbl hbA hS dL_law_291 dL_law_292 ?_
  refine lv_aload_n hx hb dL_law_293 rfl (lv_at hl 3 rfl) ?_
  obtain ⟨hI2, hk2, ha2⟩ := inv_about (N := 3000 * i) (xs (i + 1)) hI (by omega)
  refine k_aiR (wa := (w8 g m0 uu R)) (w1 := (wK g o0 x0 ua ub (sL_about (xs (i + 1)) S))) (vx_runSW (As := [.ref x0, .int (xs (i + 1)), .ref o0]) (rest := []) ⟨hx, hb, hml, hown, hts⟩ (c_L_about l D g o0 x0 ua ub H.size S (xs (i + 1)) hst p1 p2 p3 p4 p5 p6) (vx_cwSW 3 hts gL_law_L_about rfl rfl rfl (by decide +kernel) ⟨Nat.le_of_ble_eq_true rfl, Nat.le_of_ble_eq_true rfl⟩) (kPSsX (wa := (w8 g m0 uu R)) hP hD hK hS hA hE hX) rfl rfl hl.1 rfl (lv_room (Nat.le_of_ble_eq_true rfl)) dL_law_294 ⟨by show 200 + i + 1 ≤ 601024; omega, by show 40000 + 6 * i + 6 ≤ 7293034; omega⟩) hP hD hS hA (fun H locs hP hD hS => ?_)
  refine lv_topi (fun k9 ek9 => ?_)
  refine lv_istore (lv' := [(5, .int k9), (0, .ref b), (1, .ref x0), (2, .ref m0), (3, .ref o0), (4, .int (nI i))]) hx hb dL_law_297 hl (by decide) rfl (fun ls hl => ?_)
  generalize (sL_about (xs (i + 1)) S) = S2 at hP hD hI2 ha2
  have hl0 := hl
  refine lv_aload_n hx hb dL_law_299 rfl (lv_at hl 3 rfl) ?_
  refine lv_aload_n hx hb dL_law_300 rfl (lv_at hl 1 rfl) ?_
  refine lv_iload hx hb dL_law_301 (lv_at hl 5 rfl) ?_
  refine lv_iconst (v := 1) hx hb dL_law_303 (by decide) ?_
  refine law_ld (k := 1) rfl (by omega) hL hx hb hX0 hbl hbA hS dL_law_304 dL_law_305 ?_
  have hP := k_swP hP
  have hD := k_swD hD
  refine k_aiR (wa := (wK g o0 x0 ua ub S2)) (w1 := (w8 g m0 uu (sR_about (xs (i + 1)) R))) (va_runV (As := [.int (xs (i + 1))]) (rest := []) ⟨hx, hb, hml, hown, hts⟩ (c_8_about l D g m0 uu H.size R (xs (i + 1)) p7 p8 p9) (cwV 1 hts gL_law_X8_about rfl rfl rfl (by decide +kernel) ⟨Nat.le_of_ble_eq_true rfl, Nat.le_of_ble_eq_true rfl⟩) (kPVs (wa := (wK g o0 x0 ua ub S2)) hP hD hK hS hA hE 0 8 rfl rfl rfl) rfl rfl hl.1 rfl (lv_room (Nat.le_of_ble_eq_true rfl)) dL_law_306 ⟨by show 200 + i + 1 ≤ 601024; omega, by show 40000 + 6 * i + 6 ≤ 7293034; omega⟩) hP hD hS hA (fun H locs hP hD hS => ?_)
  generalize (sR_about (xs (i + 1)) R) = R2 at hP hD hI2 hk2
  refine lv_topi (fun b9 eb9 => ?_)
  refine lv_istore (lv' := [(6, .int b9), (5, .int k9), (0, .ref b), (1, .ref x0), (2, .ref m0), (3, .ref o0), (4, .int (nI i))]) hx hb dL_law_309 hl (by decide) rfl (fun ls hl => ?_)
  refine lv_aload_n hx hb dL_law_311 rfl (lv_at hl 4 rfl) ?_
  obtain ⟨_, _, _, _, _, _, q7, q8, q9⟩ := INV.pre hI2
  refine k_aiR (wa := (wK g o0 x0 ua ub S2)) (w1 := (w8 g m0 uu R2)) (va_runV (As := []) (rest := []) ⟨hx, hb, hml, hown, hts⟩ (c_8_thrown l D g m0 uu H.size R2 q7 q8 q9) (cwV 0 hts gL_law_X8_thrown rfl rfl rfl (by decide +kernel) ⟨Nat.le_of_ble_eq_true rfl, Nat.le_of_ble_eq_true rfl⟩) (kPVs (wa := (wK g o0 x0 ua ub S2)) hP hD hK hS hA hE 0 8 rfl rfl rfl) rfl rfl hl.1 rfl (lv_room (Nat.le_of_ble_eq_true rfl)) dL_law_312 ⟨by show 200 + i + 1 ≤ 601024; omega, by show 40000 + 6 * i + 6 ≤ 7293034; omega⟩) hP hD hS hA (fun H locs hP hD hS => ?_)
  refine lv_iload hx hb dL_law_315 (lv_at hl 1 rfl) ?_
  refine lv_icmp_eq (tgt := 322) hx hb dL_law_317 (by decide) (fun c1 => ?_) (fun c1 => absurd (ek9.trans hk2).symm c1)
  refine lv_iload hx hb dL_law_322 (lv_at hl 1 rfl) ?_
  have hG : ∀ (H : Heap) (locs : List Loc), va_P D vwCl ((wK g o0 x0 ua ub S2) ++ (w8 g m0 uu R2)) H → va_D (lwA s) ((wK g o0 x0 ua ub S2) ++ (w8 g m0 uu R2)) → va_S (lwA s) s.heap H locs → W p l e room_1 s m #[Value.ref b] below meth c H locs (200 + i + 1) (40000 + 6 * i + 6) Q (F0 m 339 ls []) := by
    intro H locs hP hD hS
    refine lv_goto (tgt := 1929) hx hb dL_law_339 (by decide) ?_
    exact K S2 R2 _ _ _ hI2 (k_swP hP) (k_swD hD) hS (lv_sub hl [2, 3, 4, 5, 6] rfl)
  refine lv_if_ne (tgt := 339) hx hb dL_law_324 (by decide) (fun c2 => hG _ _ hP hD hS) (fun c2 => ?_)
  refine lv_aload_n hx hb dL_law_327 rfl (lv_at hl 5 rfl) ?_
  refine lv_iconst (v := 0) hx hb dL_law_328 (by decide) ?_
  refine va_lald (i := 0) hx hb hK hP 0 4 rfl rfl (by unfold vp_in; decide) dL_law_329 ?_
  refine k_topl (y := S2.2.2.2.2.2.2.2.2.2.2.2 0) rfl ?_
  refine lv_iload hx hb dL_law_330 (lv_at hl 0 rfl) ?_
  refine lv_i2l (v := Int32.toInt64 b9) hx hb dL_law_332 rfl ?_
  refine W.lcmp hx hb dL_law_333 ?_
  refine lv_if_eq (tgt := 339) hx hb dL_law_334 (by decide) (fun c3 => hG _ _ hP hD hS) (fun c3 => absurd ((lg_cmp_eq _ _).mpr ((ha2 (ek9.symm.trans c2)).trans (congrArg Int32.toInt64 eb9.symm))) c3)
set_option maxHeartbeats 4000000 in
set_option maxRecDepth 100000 in
theorem law_5 {p : Program} {l : Launch} {e : Env} {s : State} {m : MethodId} {below : List Frame} {meth : Method} {c : Code} {D : va_G} {g : Nat → Nat} {o0 x0 m0 : Nat} {ua ub : Nat → Nat → Nat} {uu : Nat → Nat} {b L : Nat} {xs : Nat → Int32} (C : LwC p l s m c D g b L xs) {i : Nat} (hi : i + 7 ≤ L) {Q : State → Prop} (K : LwK p l e s m below meth c D g o0 x0 m0 ua ub uu b i Q) {S : KC} {R : KR} {H : Heap} {locs : List Loc} {ls : Array Slot} (hI : INV (3000 * i) S R) (hP : va_P D vwCl ((w8 g m0 uu R) ++ (wK g o0 x0 ua ub S)) H) (hD : va_D (lwA s) ((w8 g m0 uu R) ++ (wK g o0 x0 ua ub S))) (hS : va_S (lwA s) s.heap H locs) (hl : lv_has ls 7 [(0, .ref b), (1, .ref x0), (2, .ref m0), (3, .ref o0), (4, .int (nI i))]) : W p l e room_1 s m #[Value.ref b] below meth c H locs (200 + i) (40000 + 6 * i) Q (F0 m 342 ls []) := by
  obtain ⟨hx, hb, hml, hown, hts, hX0, hbl, hst, hK, hE, hX, hL⟩ := C
  have hA : ∀ q : Nat, s.heap.size ≤ q → lwA s q := fun _ h => h
  have hbA : ¬ lwA s b := Nat.not_le.mpr hbl
  obtain ⟨p1, p2, p3, p4, p5, p6, p7, p8, p9⟩ := INV.pre hI
  refine lv_aload_n hx hb dL_law_342 rfl (lv_at hl 1 rfl) ?_
  refine lv_aload_n hx hb dL_law_343 rfl (lv_at hl 0 rfl) ?_
  refine lv_iload hx hb dL_law_344 (lv_at hl 4 rfl) ?_
  refine lv_iconst (v := 1) hx hb dL_law_346 (by decide) ?_
  refine law_ld (k := 1) rfl (by omega) hL hx hb hX0 hbl hbA hS dL_law_347 dL_law_348 ?_
  refine lv_aload_n hx hb dL_law_349 rfl (lv_at hl 0 rfl) ?_
  refine lv_iload hx hb dL_law_350 (lv_at hl 4 rfl) ?_
  refine lv_iconst (v := 2) hx hb dL_law_352 (by decide) ?_
  refine law_ld (k := 2) rfl (by omega) hL hx hb hX0 hbl hbA hS dL_law_353 dL_law_354 ?_
  refine lv_aload_n hx hb dL_law_355 rfl (lv_at hl 3 rfl) ?_
  obtain ⟨hI2, hk2, ha2⟩ := inv_part (N := 3000 * i) (xs (i + 1)) (xs (i + 2)) hI (by omega)
  refine k_aiR (wa := (w8 g m0 uu R)) (w1 := (wK g o0 x0 ua ub (sL_part (xs (i + 1)) (xs (i + 2)) S))) (vx_runSW (As := [.ref x0, .int (xs (i + 1)), .int (xs (i + 2)), .ref o0]) (rest := []) ⟨hx, hb, hml, hown, hts⟩ (c_L_part l D g o0 x0 ua ub H.size S (xs (i + 1)) (xs (i + 2)) hst p1 p2 p3 p4 p5 p6) (vx_cwSW 4 hts gL_law_L_part rfl rfl rfl (by decide +kernel) ⟨Nat.le_of_ble_eq_true rfl, Nat.le_of_ble_eq_true rfl⟩) (kPSsX (wa := (w8 g m0 uu R)) hP hD hK hS hA hE hX) rfl rfl hl.1 rfl (lv_room (Nat.le_of_ble_eq_true rfl)) dL_law_356 ⟨by show 200 + i + 1 ≤ 601024; omega, by show 40000 + 6 * i + 6 ≤ 7293034; omega⟩) hP hD hS hA (fun H locs hP hD hS => ?_)
  refine lv_topi (fun k9 ek9 => ?_)
  refine lv_istore (lv' := [(5, .int k9), (0, .ref b), (1, .ref x0), (2, .ref m0), (3, .ref o0), (4, .int (nI i))]) hx hb dL_law_359 hl (by decide) rfl (fun ls hl => ?_)
  generalize (sL_part (xs (i + 1)) (xs (i + 2)) S) = S2 at hP hD hI2 ha2
  have hl0 := hl
  refine lv_aload_n hx hb dL_law_361 rfl (lv_at hl 3 rfl) ?_
  refine lv_aload_n hx hb dL_law_362 rfl (lv_at hl 1 rfl) ?_
  refine lv_iload hx hb dL_law_363 (lv_at hl 5 rfl) ?_
  refine lv_iconst (v := 1) hx hb dL_law_365 (by decide) ?_
  refine law_ld (k := 1) rfl (by omega) hL hx hb hX0 hbl hbA hS dL_law_366 dL_law_367 ?_
  refine lv_aload_n hx hb dL_law_368 rfl (lv_at hl 1 rfl) ?_
  refine lv_iload hx hb dL_law_369 (lv_at hl 5 rfl) ?_
  refine lv_iconst (v := 2) hx hb dL_law_371 (by decide) ?_
  refine law_ld (k := 2) rfl (by omega) hL hx hb hX0 hbl hbA hS dL_law_372 dL_law_373 ?_
  have hP := k_swP hP
  have hD := k_swD hD
  refine k_aiR (wa := (wK g o0 x0 ua ub S2)) (w1 := (w8 g m0 uu (sR_part (xs (i + 1)) (xs (i + 2)) R))) (va_runV (As := [.int (xs (i + 1)), .int (xs (i + 2))]) (rest := []) ⟨hx, hb, hml, hown, hts⟩ (c_8_part l D g m0 uu H.size R (xs (i + 1)) (xs (i + 2)) p7 p8 p9) (cwV 2 hts gL_law_X8_part rfl rfl rfl (by decide +kernel) ⟨Nat.le_of_ble_eq_true rfl, Nat.le_of_ble_eq_true rfl⟩) (kPVs (wa := (wK g o0 x0 ua ub S2)) hP hD hK hS hA hE 0 8 rfl rfl rfl) rfl rfl hl.1 rfl (lv_room (Nat.le_of_ble_eq_true rfl)) dL_law_374 ⟨by show 200 + i + 1 ≤ 601024; omega, by show 40000 + 6 * i + 6 ≤ 7293034; omega⟩) hP hD hS hA (fun H locs hP hD hS => ?_)
  generalize (sR_part (xs (i + 1)) (xs (i + 2)) R) = R2 at hP hD hI2 hk2
  refine lv_topi (fun b9 eb9 => ?_)
  refine lv_istore (lv' := [(6, .int b9), (5, .int k9), (0, .ref b), (1, .ref x0), (2, .ref m0), (3, .ref o0), (4, .int (nI i))]) hx hb dL_law_377 hl (by decide) rfl (fun ls hl => ?_)
  refine lv_aload_n hx hb dL_law_379 rfl (lv_at hl 4 rfl) ?_
  obtain ⟨_, _, _, _, _, _, q7, q8, q9⟩ := INV.pre hI2
  refine k_aiR (wa := (wK g o0 x0 ua ub S2)) (w1 := (w8 g m0 uu R2)) (va_runV (As := []) (rest := []) ⟨hx, hb, hml, hown, hts⟩ (c_8_thrown l D g m0 uu H.size R2 q7 q8 q9) (cwV 0 hts gL_law_X8_thrown rfl rfl rfl (by decide +kernel) ⟨Nat.le_of_ble_eq_true rfl, Nat.le_of_ble_eq_true rfl⟩) (kPVs (wa := (wK g o0 x0 ua ub S2)) hP hD hK hS hA hE 0 8 rfl rfl rfl) rfl rfl hl.1 rfl (lv_room (Nat.le_of_ble_eq_true rfl)) dL_law_380 ⟨by show 200 + i + 1 ≤ 601024; omega, by show 40000 + 6 * i + 6 ≤ 7293034; omega⟩) hP hD hS hA (fun H locs hP hD hS => ?_)
  refine lv_iload hx hb dL_law_383 (lv_at hl 1 rfl) ?_
  refine lv_icmp_eq (tgt := 390) hx hb dL_law_385 (by decide) (fun c1 => ?_) (fun c1 => absurd (ek9.trans hk2).symm c1)
  refine lv_iload hx hb dL_law_390 (lv_at hl 1 rfl) ?_
  have hG : ∀ (H : Heap) (locs : List Loc), va_P D vwCl ((wK g o0 x0 ua ub S2) ++ (w8 g m0 uu R2)) H → va_D (lwA s) ((wK g o0 x0 ua ub S2) ++ (w8 g m0 uu R2)) → va_S (lwA s) s.heap H locs → W p l e room_1 s m #[Value.ref b] below meth c H locs (200 + i + 1) (40000 + 6 * i + 6) Q (F0 m 407 ls []) := by
    intro H locs hP hD hS
    refine lv_goto (tgt := 1929) hx hb dL_law_407 (by decide) ?_
    exact K S2 R2 _ _ _ hI2 (k_swP hP) (k_swD hD) hS (lv_sub hl [2, 3, 4, 5, 6] rfl)
  refine lv_if_ne (tgt := 407) hx hb dL_law_392 (by decide) (fun c2 => hG _ _ hP hD hS) (fun c2 => ?_)
  refine lv_aload_n hx hb dL_law_395 rfl (lv_at hl 5 rfl) ?_
  refine lv_iconst (v := 0) hx hb dL_law_396 (by decide) ?_
  refine va_lald (i := 0) hx hb hK hP 0 4 rfl rfl (by unfold vp_in; decide) dL_law_397 ?_
  refine k_topl (y := S2.2.2.2.2.2.2.2.2.2.2.2 0) rfl ?_
  refine lv_iload hx hb dL_law_398 (lv_at hl 0 rfl) ?_
  refine lv_i2l (v := Int32.toInt64 b9) hx hb dL_law_400 rfl ?_
  refine W.lcmp hx hb dL_law_401 ?_
  refine lv_if_eq (tgt := 407) hx hb dL_law_402 (by decide) (fun c3 => hG _ _ hP hD hS) (fun c3 => absurd ((lg_cmp_eq _ _).mpr ((ha2 (ek9.symm.trans c2)).trans (congrArg Int32.toInt64 eb9.symm))) c3)
set_option maxHeartbeats 4000000 in
set_option maxRecDepth 100000 in
theorem law_6 {p : Program} {l : Launch} {e : Env} {s : State} {m : MethodId} {below : List Frame} {meth : Method} {c : Code} {D : va_G} {g : Nat → Nat} {o0 x0 m0 : Nat} {ua ub : Nat → Nat → Nat} {uu : Nat → Nat} {b L : Nat} {xs : Nat → Int32} (C : LwC p l s m c D g b L xs) {i : Nat} (hi : i + 7 ≤ L) {Q : State → Prop} (K : LwK p l e s m below meth c D g o0 x0 m0 ua ub uu b i Q) {S : KC} {R : KR} {H : Heap} {locs : List Loc} {ls : Array Slot} (hI : INV (3000 * i) S R) (hP : va_P D vwCl ((w8 g m0 uu R) ++ (wK g o0 x0 ua ub S)) H) (hD : va_D (lwA s) ((w8 g m0 uu R) ++ (wK g o0 x0 ua ub S))) (hS : va_S (lwA s) s.heap H locs) (hl : lv_has ls 7 [(0, .ref b), (1, .ref x0), (2, .ref m0), (3, .ref o0), (4, .int (nI i))]) : W p l e room_1 s m #[Value.ref b] below meth c H locs (200 + i) (40000 + 6 * i) Q (F0 m 410 ls []) := by
  obtain ⟨hx, hb, hml, hown, hts, hX0, hbl, hst, hK, hE, hX, hL⟩ := C
  have hA : ∀ q : Nat, s.heap.size ≤ q → lwA s q := fun _ h => h
  have hbA : ¬ lwA s b := Nat.not_le.mpr hbl
  obtain ⟨p1, p2, p3, p4, p5, p6, p7, p8, p9⟩ := INV.pre hI
  refine lv_aload_n hx hb dL_law_410 rfl (lv_at hl 1 rfl) ?_
  refine lv_aload_n hx hb dL_law_411 rfl (lv_at hl 0 rfl) ?_
  refine lv_iload hx hb dL_law_412 (lv_at hl 4 rfl) ?_
  refine lv_iconst (v := 1) hx hb dL_law_414 (by decide) ?_
  refine law_ld (k := 1) rfl (by omega) hL hx hb hX0 hbl hbA hS dL_law_415 dL_law_416 ?_
  refine lv_aload_n hx hb dL_law_417 rfl (lv_at hl 0 rfl) ?_
  refine lv_iload hx hb dL_law_418 (lv_at hl 4 rfl) ?_
  refine lv_iconst (v := 2) hx hb dL_law_420 (by decide) ?_
  refine law_ld (k := 2) rfl (by omega) hL hx hb hX0 hbl hbA hS dL_law_421 dL_law_422 ?_
  refine lv_aload_n hx hb dL_law_423 rfl (lv_at hl 0 rfl) ?_
  refine lv_iload hx hb dL_law_424 (lv_at hl 4 rfl) ?_
  refine lv_iconst (v := 3) hx hb dL_law_426 (by decide) ?_
  refine law_ld (k := 3) rfl (by omega) hL hx hb hX0 hbl hbA hS dL_law_427 dL_law_428 ?_
  refine lv_aload_n hx hb dL_law_429 rfl (lv_at hl 3 rfl) ?_
  obtain ⟨hI2, hk2, ha2⟩ := inv_contract (N := 3000 * i) (xs (i + 1)) (xs (i + 2)) (xs (i + 3)) hI (by omega)
  refine k_aiR (wa := (w8 g m0 uu R)) (w1 := (wK g o0 x0 ua ub (sL_contract (xs (i + 1)) (xs (i + 2)) (xs (i + 3)) S))) (vx_runSW (As := [.ref x0, .int (xs (i + 1)), .int (xs (i + 2)), .int (xs (i + 3)), .ref o0]) (rest := []) ⟨hx, hb, hml, hown, hts⟩ (c_L_contract l D g o0 x0 ua ub H.size S (xs (i + 1)) (xs (i + 2)) (xs (i + 3)) hst p1 p2 p3 p4 p5 p6) (vx_cwSW 5 hts gL_law_L_contract rfl rfl rfl (by decide +kernel) ⟨Nat.le_of_ble_eq_true rfl, Nat.le_of_ble_eq_true rfl⟩) (kPSsX (wa := (w8 g m0 uu R)) hP hD hK hS hA hE hX) rfl rfl hl.1 rfl (lv_room (Nat.le_of_ble_eq_true rfl)) dL_law_430 ⟨by show 200 + i + 1 ≤ 601024; omega, by show 40000 + 6 * i + 6 ≤ 7293034; omega⟩) hP hD hS hA (fun H locs hP hD hS => ?_)
  refine lv_topi (fun k9 ek9 => ?_)
  refine lv_istore (lv' := [(5, .int k9), (0, .ref b), (1, .ref x0), (2, .ref m0), (3, .ref o0), (4, .int (nI i))]) hx hb dL_law_433 hl (by decide) rfl (fun ls hl => ?_)
  generalize (sL_contract (xs (i + 1)) (xs (i + 2)) (xs (i + 3)) S) = S2 at hP hD hI2 ha2
  have hl0 := hl
  refine lv_aload_n hx hb dL_law_435 rfl (lv_at hl 3 rfl) ?_
  refine lv_aload_n hx hb dL_law_436 rfl (lv_at hl 1 rfl) ?_
  refine lv_iload hx hb dL_law_437 (lv_at hl 5 rfl) ?_
  refine lv_iconst (v := 1) hx hb dL_law_439 (by decide) ?_
  refine law_ld (k := 1) rfl (by omega) hL hx hb hX0 hbl hbA hS dL_law_440 dL_law_441 ?_
  refine lv_aload_n hx hb dL_law_442 rfl (lv_at hl 1 rfl) ?_
  refine lv_iload hx hb dL_law_443 (lv_at hl 5 rfl) ?_
  refine lv_iconst (v := 2) hx hb dL_law_445 (by decide) ?_
  refine law_ld (k := 2) rfl (by omega) hL hx hb hX0 hbl hbA hS dL_law_446 dL_law_447 ?_
  refine lv_aload_n hx hb dL_law_448 rfl (lv_at hl 1 rfl) ?_
  refine lv_iload hx hb dL_law_449 (lv_at hl 5 rfl) ?_
  refine lv_iconst (v := 3) hx hb dL_law_451 (by decide) ?_
  refine law_ld (k := 3) rfl (by omega) hL hx hb hX0 hbl hbA hS dL_law_452 dL_law_453 ?_
  have hP := k_swP hP
  have hD := k_swD hD
  refine k_aiR (wa := (wK g o0 x0 ua ub S2)) (w1 := (w8 g m0 uu (sR_contract (xs (i + 1)) (xs (i + 2)) (xs (i + 3)) R))) (va_runV (As := [.int (xs (i + 1)), .int (xs (i + 2)), .int (xs (i + 3))]) (rest := []) ⟨hx, hb, hml, hown, hts⟩ (c_8_contract l D g m0 uu H.size R (xs (i + 1)) (xs (i + 2)) (xs (i + 3)) p7 p8 p9) (cwV 3 hts gL_law_X8_contract rfl rfl rfl (by decide +kernel) ⟨Nat.le_of_ble_eq_true rfl, Nat.le_of_ble_eq_true rfl⟩) (kPVs (wa := (wK g o0 x0 ua ub S2)) hP hD hK hS hA hE 0 8 rfl rfl rfl) rfl rfl hl.1 rfl (lv_room (Nat.le_of_ble_eq_true rfl)) dL_law_454 ⟨by show 200 + i + 1 ≤ 601024; omega, by show 40000 + 6 * i + 6 ≤ 7293034; omega⟩) hP hD hS hA (fun H locs hP hD hS => ?_)
  generalize (sR_contract (xs (i + 1)) (xs (i + 2)) (xs (i + 3)) R) = R2 at hP hD hI2 hk2
  refine lv_topi (fun b9 eb9 => ?_)
  refine lv_istore (lv' := [(6, .int b9), (5, .int k9), (0, .ref b), (1, .ref x0), (2, .ref m0), (3, .ref o0), (4, .int (nI i))]) hx hb dL_law_457 hl (by decide) rfl (fun ls hl => ?_)
  refine lv_aload_n hx hb dL_law_459 rfl (lv_at hl 4 rfl) ?_
  obtain ⟨_, _, _, _, _, _, q7, q8, q9⟩ := INV.pre hI2
  refine k_aiR (wa := (wK g o0 x0 ua ub S2)) (w1 := (w8 g m0 uu R2)) (va_runV (As := []) (rest := []) ⟨hx, hb, hml, hown, hts⟩ (c_8_thrown l D g m0 uu H.size R2 q7 q8 q9) (cwV 0 hts gL_law_X8_thrown rfl rfl rfl (by decide +kernel) ⟨Nat.le_of_ble_eq_true rfl, Nat.le_of_ble_eq_true rfl⟩) (kPVs (wa := (wK g o0 x0 ua ub S2)) hP hD hK hS hA hE 0 8 rfl rfl rfl) rfl rfl hl.1 rfl (lv_room (Nat.le_of_ble_eq_true rfl)) dL_law_460 ⟨by show 200 + i + 1 ≤ 601024; omega, by show 40000 + 6 * i + 6 ≤ 7293034; omega⟩) hP hD hS hA (fun H locs hP hD hS => ?_)
  refine lv_iload hx hb dL_law_463 (lv_at hl 1 rfl) ?_
  refine lv_icmp_eq (tgt := 470) hx hb dL_law_465 (by decide) (fun c1 => ?_) (fun c1 => absurd (ek9.trans hk2).symm c1)
  refine lv_iload hx hb dL_law_470 (lv_at hl 1 rfl) ?_
  have hG : ∀ (H : Heap) (locs : List Loc), va_P D vwCl ((wK g o0 x0 ua ub S2) ++ (w8 g m0 uu R2)) H → va_D (lwA s) ((wK g o0 x0 ua ub S2) ++ (w8 g m0 uu R2)) → va_S (lwA s) s.heap H locs → W p l e room_1 s m #[Value.ref b] below meth c H locs (200 + i + 1) (40000 + 6 * i + 6) Q (F0 m 487 ls []) := by
    intro H locs hP hD hS
    refine lv_goto (tgt := 1929) hx hb dL_law_487 (by decide) ?_
    exact K S2 R2 _ _ _ hI2 (k_swP hP) (k_swD hD) hS (lv_sub hl [2, 3, 4, 5, 6] rfl)
  refine lv_if_ne (tgt := 487) hx hb dL_law_472 (by decide) (fun c2 => hG _ _ hP hD hS) (fun c2 => ?_)
  refine lv_aload_n hx hb dL_law_475 rfl (lv_at hl 5 rfl) ?_
  refine lv_iconst (v := 0) hx hb dL_law_476 (by decide) ?_
  refine va_lald (i := 0) hx hb hK hP 0 4 rfl rfl (by unfold vp_in; decide) dL_law_477 ?_
  refine k_topl (y := S2.2.2.2.2.2.2.2.2.2.2.2 0) rfl ?_
  refine lv_iload hx hb dL_law_478 (lv_at hl 0 rfl) ?_
  refine lv_i2l (v := Int32.toInt64 b9) hx hb dL_law_480 rfl ?_
  refine W.lcmp hx hb dL_law_481 ?_
  refine lv_if_eq (tgt := 487) hx hb dL_law_482 (by decide) (fun c3 => hG _ _ hP hD hS) (fun c3 => absurd ((lg_cmp_eq _ _).mpr ((ha2 (ek9.symm.trans c2)).trans (congrArg Int32.toInt64 eb9.symm))) c3)
set_option maxHeartbeats 4000000 in
set_option maxRecDepth 100000 in
theorem law_7 {p : Program} {l : Launch} {e : Env} {s : State} {m : MethodId} {below : List Frame} {meth : Method} {c : Code} {D : va_G} {g : Nat → Nat} {o0 x0 m0 : Nat} {ua ub : Nat → Nat → Nat} {uu : Nat → Nat} {b L : Nat} {xs : Nat → Int32} (C : LwC p l s m c D g b L xs) {i : Nat} (hi : i + 7 ≤ L) {Q : State → Prop} (K : LwK p l e s m below meth c D g o0 x0 m0 ua ub uu b i Q) {S : KC} {R : KR} {H : Heap} {locs : List Loc} {ls : Array Slot} (hI : INV (3000 * i) S R) (hP : va_P D vwCl ((w8 g m0 uu R) ++ (wK g o0 x0 ua ub S)) H) (hD : va_D (lwA s) ((w8 g m0 uu R) ++ (wK g o0 x0 ua ub S))) (hS : va_S (lwA s) s.heap H locs) (hl : lv_has ls 7 [(0, .ref b), (1, .ref x0), (2, .ref m0), (3, .ref o0), (4, .int (nI i))]) : W p l e room_1 s m #[Value.ref b] below meth c H locs (200 + i) (40000 + 6 * i) Q (F0 m 490 ls []) := by
  obtain ⟨hx, hb, hml, hown, hts, hX0, hbl, hst, hK, hE, hX, hL⟩ := C
  have hA : ∀ q : Nat, s.heap.size ≤ q → lwA s q := fun _ h => h
  have hbA : ¬ lwA s b := Nat.not_le.mpr hbl
  obtain ⟨p1, p2, p3, p4, p5, p6, p7, p8, p9⟩ := INV.pre hI
  refine lv_aload_n hx hb dL_law_490 rfl (lv_at hl 1 rfl) ?_
  refine lv_aload_n hx hb dL_law_491 rfl (lv_at hl 0 rfl) ?_
  refine lv_iload hx hb dL_law_492 (lv_at hl 4 rfl) ?_
  refine lv_iconst (v := 1) hx hb dL_law_494 (by decide) ?_
  refine law_ld (k := 1) rfl (by omega) hL hx hb hX0 hbl hbA hS dL_law_495 dL_law_496 ?_
  refine lv_aload_n hx hb dL_law_497 rfl (lv_at hl 0 rfl) ?_
  refine lv_iload hx hb dL_law_498 (lv_at hl 4 rfl) ?_
  refine lv_iconst (v := 2) hx hb dL_law_500 (by decide) ?_
  refine law_ld (k := 2) rfl (by omega) hL hx hb hX0 hbl hbA hS dL_law_501 dL_law_502 ?_
  refine lv_aload_n hx hb dL_law_503 rfl (lv_at hl 3 rfl) ?_
  obtain ⟨hI2, hk2, ha2⟩ := inv_blame (N := 3000 * i) (xs (i + 1)) (xs (i + 2)) hI (by omega)
  refine k_aiR (wa := (w8 g m0 uu R)) (w1 := (wK g o0 x0 ua ub (sL_blame (xs (i + 1)) (xs (i + 2)) S))) (vx_runSW (As := [.ref x0, .int (xs (i + 1)), .int (xs (i + 2)), .ref o0]) (rest := []) ⟨hx, hb, hml, hown, hts⟩ (c_L_blame l D g o0 x0 ua ub H.size S (xs (i + 1)) (xs (i + 2)) hst p1 p2 p3 p4 p5 p6) (vx_cwSW 4 hts gL_law_L_blame rfl rfl rfl (by decide +kernel) ⟨Nat.le_of_ble_eq_true rfl, Nat.le_of_ble_eq_true rfl⟩) (kPSsX (wa := (w8 g m0 uu R)) hP hD hK hS hA hE hX) rfl rfl hl.1 rfl (lv_room (Nat.le_of_ble_eq_true rfl)) dL_law_504 ⟨by show 200 + i + 1 ≤ 601024; omega, by show 40000 + 6 * i + 6 ≤ 7293034; omega⟩) hP hD hS hA (fun H locs hP hD hS => ?_)
  refine lv_topi (fun k9 ek9 => ?_)
  refine lv_istore (lv' := [(5, .int k9), (0, .ref b), (1, .ref x0), (2, .ref m0), (3, .ref o0), (4, .int (nI i))]) hx hb dL_law_507 hl (by decide) rfl (fun ls hl => ?_)
  generalize (sL_blame (xs (i + 1)) (xs (i + 2)) S) = S2 at hP hD hI2 ha2
  have hl0 := hl
  refine lv_aload_n hx hb dL_law_509 rfl (lv_at hl 3 rfl) ?_
  refine lv_aload_n hx hb dL_law_510 rfl (lv_at hl 1 rfl) ?_
  refine lv_iload hx hb dL_law_511 (lv_at hl 5 rfl) ?_
  refine lv_iconst (v := 1) hx hb dL_law_513 (by decide) ?_
  refine law_ld (k := 1) rfl (by omega) hL hx hb hX0 hbl hbA hS dL_law_514 dL_law_515 ?_
  refine lv_aload_n hx hb dL_law_516 rfl (lv_at hl 1 rfl) ?_
  refine lv_iload hx hb dL_law_517 (lv_at hl 5 rfl) ?_
  refine lv_iconst (v := 2) hx hb dL_law_519 (by decide) ?_
  refine law_ld (k := 2) rfl (by omega) hL hx hb hX0 hbl hbA hS dL_law_520 dL_law_521 ?_
  have hP := k_swP hP
  have hD := k_swD hD
  refine k_aiR (wa := (wK g o0 x0 ua ub S2)) (w1 := (w8 g m0 uu (sR_blame (xs (i + 1)) (xs (i + 2)) R))) (va_runV (As := [.int (xs (i + 1)), .int (xs (i + 2))]) (rest := []) ⟨hx, hb, hml, hown, hts⟩ (c_8_blame l D g m0 uu H.size R (xs (i + 1)) (xs (i + 2)) p7 p8 p9) (cwV 2 hts gL_law_X8_blame rfl rfl rfl (by decide +kernel) ⟨Nat.le_of_ble_eq_true rfl, Nat.le_of_ble_eq_true rfl⟩) (kPVs (wa := (wK g o0 x0 ua ub S2)) hP hD hK hS hA hE 0 8 rfl rfl rfl) rfl rfl hl.1 rfl (lv_room (Nat.le_of_ble_eq_true rfl)) dL_law_522 ⟨by show 200 + i + 1 ≤ 601024; omega, by show 40000 + 6 * i + 6 ≤ 7293034; omega⟩) hP hD hS hA (fun H locs hP hD hS => ?_)
  generalize (sR_blame (xs (i + 1)) (xs (i + 2)) R) = R2 at hP hD hI2 hk2
  refine lv_topi (fun b9 eb9 => ?_)
  refine lv_istore (lv' := [(6, .int b9), (5, .int k9), (0, .ref b), (1, .ref x0), (2, .ref m0), (3, .ref o0), (4, .int (nI i))]) hx hb dL_law_525 hl (by decide) rfl (fun ls hl => ?_)
  refine lv_aload_n hx hb dL_law_527 rfl (lv_at hl 4 rfl) ?_
  obtain ⟨_, _, _, _, _, _, q7, q8, q9⟩ := INV.pre hI2
  refine k_aiR (wa := (wK g o0 x0 ua ub S2)) (w1 := (w8 g m0 uu R2)) (va_runV (As := []) (rest := []) ⟨hx, hb, hml, hown, hts⟩ (c_8_thrown l D g m0 uu H.size R2 q7 q8 q9) (cwV 0 hts gL_law_X8_thrown rfl rfl rfl (by decide +kernel) ⟨Nat.le_of_ble_eq_true rfl, Nat.le_of_ble_eq_true rfl⟩) (kPVs (wa := (wK g o0 x0 ua ub S2)) hP hD hK hS hA hE 0 8 rfl rfl rfl) rfl rfl hl.1 rfl (lv_room (Nat.le_of_ble_eq_true rfl)) dL_law_528 ⟨by show 200 + i + 1 ≤ 601024; omega, by show 40000 + 6 * i + 6 ≤ 7293034; omega⟩) hP hD hS hA (fun H locs hP hD hS => ?_)
  refine lv_iload hx hb dL_law_531 (lv_at hl 1 rfl) ?_
  refine lv_icmp_eq (tgt := 538) hx hb dL_law_533 (by decide) (fun c1 => ?_) (fun c1 => absurd (ek9.trans hk2).symm c1)
  refine lv_iload hx hb dL_law_538 (lv_at hl 1 rfl) ?_
  have hG : ∀ (H : Heap) (locs : List Loc), va_P D vwCl ((wK g o0 x0 ua ub S2) ++ (w8 g m0 uu R2)) H → va_D (lwA s) ((wK g o0 x0 ua ub S2) ++ (w8 g m0 uu R2)) → va_S (lwA s) s.heap H locs → W p l e room_1 s m #[Value.ref b] below meth c H locs (200 + i + 1) (40000 + 6 * i + 6) Q (F0 m 555 ls []) := by
    intro H locs hP hD hS
    refine lv_goto (tgt := 1929) hx hb dL_law_555 (by decide) ?_
    exact K S2 R2 _ _ _ hI2 (k_swP hP) (k_swD hD) hS (lv_sub hl [2, 3, 4, 5, 6] rfl)
  refine lv_if_ne (tgt := 555) hx hb dL_law_540 (by decide) (fun c2 => hG _ _ hP hD hS) (fun c2 => ?_)
  refine lv_aload_n hx hb dL_law_543 rfl (lv_at hl 5 rfl) ?_
  refine lv_iconst (v := 0) hx hb dL_law_544 (by decide) ?_
  refine va_lald (i := 0) hx hb hK hP 0 4 rfl rfl (by unfold vp_in; decide) dL_law_545 ?_
  refine k_topl (y := S2.2.2.2.2.2.2.2.2.2.2.2 0) rfl ?_
  refine lv_iload hx hb dL_law_546 (lv_at hl 0 rfl) ?_
  refine lv_i2l (v := Int32.toInt64 b9) hx hb dL_law_548 rfl ?_
  refine W.lcmp hx hb dL_law_549 ?_
  refine lv_if_eq (tgt := 555) hx hb dL_law_550 (by decide) (fun c3 => hG _ _ hP hD hS) (fun c3 => absurd ((lg_cmp_eq _ _).mpr ((ha2 (ek9.symm.trans c2)).trans (congrArg Int32.toInt64 eb9.symm))) c3)
set_option maxHeartbeats 4000000 in
set_option maxRecDepth 100000 in
theorem law_8 {p : Program} {l : Launch} {e : Env} {s : State} {m : MethodId} {below : List Frame} {meth : Method} {c : Code} {D : va_G} {g : Nat → Nat} {o0 x0 m0 : Nat} {ua ub : Nat → Nat → Nat} {uu : Nat → Nat} {b L : Nat} {xs : Nat → Int32} (C : LwC p l s m c D g b L xs) {i : Nat} (hi : i + 7 ≤ L) {Q : State → Prop} (K : LwK p l e s m below meth c D g o0 x0 m0 ua ub uu b i Q) {S : KC} {R : KR} {H : Heap} {locs : List Loc} {ls : Array Slot} (hI : INV (3000 * i) S R) (hP : va_P D vwCl ((w8 g m0 uu R) ++ (wK g o0 x0 ua ub S)) H) (hD : va_D (lwA s) ((w8 g m0 uu R) ++ (wK g o0 x0 ua ub S))) (hS : va_S (lwA s) s.heap H locs) (hl : lv_has ls 7 [(0, .ref b), (1, .ref x0), (2, .ref m0), (3, .ref o0), (4, .int (nI i))]) : W p l e room_1 s m #[Value.ref b] below meth c H locs (200 + i) (40000 + 6 * i) Q (F0 m 558 ls []) := by
  obtain ⟨hx, hb, hml, hown, hts, hX0, hbl, hst, hK, hE, hX, hL⟩ := C
  have hA : ∀ q : Nat, s.heap.size ≤ q → lwA s q := fun _ h => h
  have hbA : ¬ lwA s b := Nat.not_le.mpr hbl
  obtain ⟨p1, p2, p3, p4, p5, p6, p7, p8, p9⟩ := INV.pre hI
  refine lv_aload_n hx hb dL_law_558 rfl (lv_at hl 1 rfl) ?_
  refine lv_aload_n hx hb dL_law_559 rfl (lv_at hl 0 rfl) ?_
  refine lv_iload hx hb dL_law_560 (lv_at hl 4 rfl) ?_
  refine lv_iconst (v := 1) hx hb dL_law_562 (by decide) ?_
  refine law_ld (k := 1) rfl (by omega) hL hx hb hX0 hbl hbA hS dL_law_563 dL_law_564 ?_
  refine lv_aload_n hx hb dL_law_565 rfl (lv_at hl 0 rfl) ?_
  refine lv_iload hx hb dL_law_566 (lv_at hl 4 rfl) ?_
  refine lv_iconst (v := 2) hx hb dL_law_568 (by decide) ?_
  refine law_ld (k := 2) rfl (by omega) hL hx hb hX0 hbl hbA hS dL_law_569 dL_law_570 ?_
  refine lv_aload_n hx hb dL_law_571 rfl (lv_at hl 3 rfl) ?_
  obtain ⟨hI2, hk2, ha2⟩ := inv_add (N := 3000 * i) (xs (i + 1)) (xs (i + 2)) hI (by omega)
  refine k_aiR (wa := (w8 g m0 uu R)) (w1 := (wK g o0 x0 ua ub (sL_add (xs (i + 1)) (xs (i + 2)) S))) (vx_runSW (As := [.ref x0, .int (xs (i + 1)), .int (xs (i + 2)), .ref o0]) (rest := []) ⟨hx, hb, hml, hown, hts⟩ (c_L_add l D g o0 x0 ua ub H.size S (xs (i + 1)) (xs (i + 2)) hst p1 p2 p3 p4 p5 p6) (vx_cwSW 4 hts gL_law_L_add rfl rfl rfl (by decide +kernel) ⟨Nat.le_of_ble_eq_true rfl, Nat.le_of_ble_eq_true rfl⟩) (kPSsX (wa := (w8 g m0 uu R)) hP hD hK hS hA hE hX) rfl rfl hl.1 rfl (lv_room (Nat.le_of_ble_eq_true rfl)) dL_law_572 ⟨by show 200 + i + 1 ≤ 601024; omega, by show 40000 + 6 * i + 6 ≤ 7293034; omega⟩) hP hD hS hA (fun H locs hP hD hS => ?_)
  refine lv_topi (fun k9 ek9 => ?_)
  refine lv_istore (lv' := [(5, .int k9), (0, .ref b), (1, .ref x0), (2, .ref m0), (3, .ref o0), (4, .int (nI i))]) hx hb dL_law_575 hl (by decide) rfl (fun ls hl => ?_)
  generalize (sL_add (xs (i + 1)) (xs (i + 2)) S) = S2 at hP hD hI2 ha2
  have hl0 := hl
  refine lv_aload_n hx hb dL_law_577 rfl (lv_at hl 3 rfl) ?_
  refine lv_aload_n hx hb dL_law_578 rfl (lv_at hl 1 rfl) ?_
  refine lv_iload hx hb dL_law_579 (lv_at hl 5 rfl) ?_
  refine lv_iconst (v := 1) hx hb dL_law_581 (by decide) ?_
  refine law_ld (k := 1) rfl (by omega) hL hx hb hX0 hbl hbA hS dL_law_582 dL_law_583 ?_
  refine lv_aload_n hx hb dL_law_584 rfl (lv_at hl 1 rfl) ?_
  refine lv_iload hx hb dL_law_585 (lv_at hl 5 rfl) ?_
  refine lv_iconst (v := 2) hx hb dL_law_587 (by decide) ?_
  refine law_ld (k := 2) rfl (by omega) hL hx hb hX0 hbl hbA hS dL_law_588 dL_law_589 ?_
  have hP := k_swP hP
  have hD := k_swD hD
  refine k_aiR (wa := (wK g o0 x0 ua ub S2)) (w1 := (w8 g m0 uu (sR_add (xs (i + 1)) (xs (i + 2)) R))) (va_runV (As := [.int (xs (i + 1)), .int (xs (i + 2))]) (rest := []) ⟨hx, hb, hml, hown, hts⟩ (c_8_add l D g m0 uu H.size R (xs (i + 1)) (xs (i + 2)) p7 p8 p9) (cwV 2 hts gL_law_X8_add rfl rfl rfl (by decide +kernel) ⟨Nat.le_of_ble_eq_true rfl, Nat.le_of_ble_eq_true rfl⟩) (kPVs (wa := (wK g o0 x0 ua ub S2)) hP hD hK hS hA hE 0 8 rfl rfl rfl) rfl rfl hl.1 rfl (lv_room (Nat.le_of_ble_eq_true rfl)) dL_law_590 ⟨by show 200 + i + 1 ≤ 601024; omega, by show 40000 + 6 * i + 6 ≤ 7293034; omega⟩) hP hD hS hA (fun H locs hP hD hS => ?_)
  generalize (sR_add (xs (i + 1)) (xs (i + 2)) R) = R2 at hP hD hI2 hk2
  refine lv_topi (fun b9 eb9 => ?_)
  refine lv_istore (lv' := [(6, .int b9), (5, .int k9), (0, .ref b), (1, .ref x0), (2, .ref m0), (3, .ref o0), (4, .int (nI i))]) hx hb dL_law_593 hl (by decide) rfl (fun ls hl => ?_)
  refine lv_aload_n hx hb dL_law_595 rfl (lv_at hl 4 rfl) ?_
  obtain ⟨_, _, _, _, _, _, q7, q8, q9⟩ := INV.pre hI2
  refine k_aiR (wa := (wK g o0 x0 ua ub S2)) (w1 := (w8 g m0 uu R2)) (va_runV (As := []) (rest := []) ⟨hx, hb, hml, hown, hts⟩ (c_8_thrown l D g m0 uu H.size R2 q7 q8 q9) (cwV 0 hts gL_law_X8_thrown rfl rfl rfl (by decide +kernel) ⟨Nat.le_of_ble_eq_true rfl, Nat.le_of_ble_eq_true rfl⟩) (kPVs (wa := (wK g o0 x0 ua ub S2)) hP hD hK hS hA hE 0 8 rfl rfl rfl) rfl rfl hl.1 rfl (lv_room (Nat.le_of_ble_eq_true rfl)) dL_law_596 ⟨by show 200 + i + 1 ≤ 601024; omega, by show 40000 + 6 * i + 6 ≤ 7293034; omega⟩) hP hD hS hA (fun H locs hP hD hS => ?_)
  refine lv_iload hx hb dL_law_599 (lv_at hl 1 rfl) ?_
  refine lv_icmp_eq (tgt := 606) hx hb dL_law_601 (by decide) (fun c1 => ?_) (fun c1 => absurd (ek9.trans hk2).symm c1)
  refine lv_iload hx hb dL_law_606 (lv_at hl 1 rfl) ?_
  have hG : ∀ (H : Heap) (locs : List Loc), va_P D vwCl ((wK g o0 x0 ua ub S2) ++ (w8 g m0 uu R2)) H → va_D (lwA s) ((wK g o0 x0 ua ub S2) ++ (w8 g m0 uu R2)) → va_S (lwA s) s.heap H locs → W p l e room_1 s m #[Value.ref b] below meth c H locs (200 + i + 1) (40000 + 6 * i + 6) Q (F0 m 623 ls []) := by
    intro H locs hP hD hS
    refine lv_goto (tgt := 1929) hx hb dL_law_623 (by decide) ?_
    exact K S2 R2 _ _ _ hI2 (k_swP hP) (k_swD hD) hS (lv_sub hl [2, 3, 4, 5, 6] rfl)
  refine lv_if_ne (tgt := 623) hx hb dL_law_608 (by decide) (fun c2 => hG _ _ hP hD hS) (fun c2 => ?_)
  refine lv_aload_n hx hb dL_law_611 rfl (lv_at hl 5 rfl) ?_
  refine lv_iconst (v := 0) hx hb dL_law_612 (by decide) ?_
  refine va_lald (i := 0) hx hb hK hP 0 4 rfl rfl (by unfold vp_in; decide) dL_law_613 ?_
  refine k_topl (y := S2.2.2.2.2.2.2.2.2.2.2.2 0) rfl ?_
  refine lv_iload hx hb dL_law_614 (lv_at hl 0 rfl) ?_
  refine lv_i2l (v := Int32.toInt64 b9) hx hb dL_law_616 rfl ?_
  refine W.lcmp hx hb dL_law_617 ?_
  refine lv_if_eq (tgt := 623) hx hb dL_law_618 (by decide) (fun c3 => hG _ _ hP hD hS) (fun c3 => absurd ((lg_cmp_eq _ _).mpr ((ha2 (ek9.symm.trans c2)).trans (congrArg Int32.toInt64 eb9.symm))) c3)
set_option maxHeartbeats 4000000 in
set_option maxRecDepth 100000 in
theorem law_9 {p : Program} {l : Launch} {e : Env} {s : State} {m : MethodId} {below : List Frame} {meth : Method} {c : Code} {D : va_G} {g : Nat → Nat} {o0 x0 m0 : Nat} {ua ub : Nat → Nat → Nat} {uu : Nat → Nat} {b L : Nat} {xs : Nat → Int32} (C : LwC p l s m c D g b L xs) {i : Nat} (hi : i + 7 ≤ L) {Q : State → Prop} (K : LwK p l e s m below meth c D g o0 x0 m0 ua ub uu b i Q) {S : KC} {R : KR} {H : Heap} {locs : List Loc} {ls : Array Slot} (hI : INV (3000 * i) S R) (hP : va_P D vwCl ((w8 g m0 uu R) ++ (wK g o0 x0 ua ub S)) H) (hD : va_D (lwA s) ((w8 g m0 uu R) ++ (wK g o0 x0 ua ub S))) (hS : va_S (lwA s) s.heap H locs) (hl : lv_has ls 7 [(0, .ref b), (1, .ref x0), (2, .ref m0), (3, .ref o0), (4, .int (nI i))]) : W p l e room_1 s m #[Value.ref b] below meth c H locs (200 + i) (40000 + 6 * i) Q (F0 m 626 ls []) := by
  obtain ⟨hx, hb, hml, hown, hts, hX0, hbl, hst, hK, hE, hX, hL⟩ := C
  have hA : ∀ q : Nat, s.heap.size ≤ q → lwA s q := fun _ h => h
  have hbA : ¬ lwA s b := Nat.not_le.mpr hbl
  obtain ⟨p1, p2, p3, p4, p5, p6, p7, p8, p9⟩ := INV.pre hI
  refine lv_aload_n hx hb dL_law_626 rfl (lv_at hl 1 rfl) ?_
  refine lv_aload_n hx hb dL_law_627 rfl (lv_at hl 0 rfl) ?_
  refine lv_iload hx hb dL_law_628 (lv_at hl 4 rfl) ?_
  refine lv_iconst (v := 1) hx hb dL_law_630 (by decide) ?_
  refine law_ld (k := 1) rfl (by omega) hL hx hb hX0 hbl hbA hS dL_law_631 dL_law_632 ?_
  refine lv_aload_n hx hb dL_law_633 rfl (lv_at hl 0 rfl) ?_
  refine lv_iload hx hb dL_law_634 (lv_at hl 4 rfl) ?_
  refine lv_iconst (v := 2) hx hb dL_law_636 (by decide) ?_
  refine law_ld (k := 2) rfl (by omega) hL hx hb hX0 hbl hbA hS dL_law_637 dL_law_638 ?_
  refine lv_aload_n hx hb dL_law_639 rfl (lv_at hl 0 rfl) ?_
  refine lv_iload hx hb dL_law_640 (lv_at hl 4 rfl) ?_
  refine lv_iconst (v := 3) hx hb dL_law_642 (by decide) ?_
  refine law_ld (k := 3) rfl (by omega) hL hx hb hX0 hbl hbA hS dL_law_643 dL_law_644 ?_
  refine lv_aload_n hx hb dL_law_645 rfl (lv_at hl 3 rfl) ?_
  obtain ⟨hI2, hk2, ha2⟩ := inv_chain (N := 3000 * i) (xs (i + 1)) (xs (i + 2)) (xs (i + 3)) hI (by omega)
  refine k_aiR (wa := (w8 g m0 uu R)) (w1 := (wK g o0 x0 ua ub (sL_chain (xs (i + 1)) (xs (i + 2)) (xs (i + 3)) S))) (vx_runSW (As := [.ref x0, .int (xs (i + 1)), .int (xs (i + 2)), .int (xs (i + 3)), .ref o0]) (rest := []) ⟨hx, hb, hml, hown, hts⟩ (c_L_chain l D g o0 x0 ua ub H.size S (xs (i + 1)) (xs (i + 2)) (xs (i + 3)) hst p1 p2 p3 p4 p5 p6) (vx_cwSW 5 hts gL_law_L_chain rfl rfl rfl (by decide +kernel) ⟨Nat.le_of_ble_eq_true rfl, Nat.le_of_ble_eq_true rfl⟩) (kPSsX (wa := (w8 g m0 uu R)) hP hD hK hS hA hE hX) rfl rfl hl.1 rfl (lv_room (Nat.le_of_ble_eq_true rfl)) dL_law_646 ⟨by show 200 + i + 1 ≤ 601024; omega, by show 40000 + 6 * i + 6 ≤ 7293034; omega⟩) hP hD hS hA (fun H locs hP hD hS => ?_)
  refine lv_topi (fun k9 ek9 => ?_)
  refine lv_istore (lv' := [(5, .int k9), (0, .ref b), (1, .ref x0), (2, .ref m0), (3, .ref o0), (4, .int (nI i))]) hx hb dL_law_649 hl (by decide) rfl (fun ls hl => ?_)
  generalize (sL_chain (xs (i + 1)) (xs (i + 2)) (xs (i + 3)) S) = S2 at hP hD hI2 ha2
  have hl0 := hl
  refine lv_aload_n hx hb dL_law_651 rfl (lv_at hl 3 rfl) ?_
  refine lv_aload_n hx hb dL_law_652 rfl (lv_at hl 1 rfl) ?_
  refine lv_iload hx hb dL_law_653 (lv_at hl 5 rfl) ?_
  refine lv_iconst (v := 1) hx hb dL_law_655 (by decide) ?_
  refine law_ld (k := 1) rfl (by omega) hL hx hb hX0 hbl hbA hS dL_law_656 dL_law_657 ?_
  refine lv_aload_n hx hb dL_law_658 rfl (lv_at hl 1 rfl) ?_
  refine lv_iload hx hb dL_law_659 (lv_at hl 5 rfl) ?_
  refine lv_iconst (v := 2) hx hb dL_law_661 (by decide) ?_
  refine law_ld (k := 2) rfl (by omega) hL hx hb hX0 hbl hbA hS dL_law_662 dL_law_663 ?_
  refine lv_aload_n hx hb dL_law_664 rfl (lv_at hl 1 rfl) ?_
  refine lv_iload hx hb dL_law_665 (lv_at hl 5 rfl) ?_
  refine lv_iconst (v := 3) hx hb dL_law_667 (by decide) ?_
  refine law_ld (k := 3) rfl (by omega) hL hx hb hX0 hbl hbA hS dL_law_668 dL_law_669 ?_
  have hP := k_swP hP
  have hD := k_swD hD
  refine k_aiR (wa := (wK g o0 x0 ua ub S2)) (w1 := (w8 g m0 uu (sR_chain (xs (i + 1)) (xs (i + 2)) (xs (i + 3)) R))) (va_runV (As := [.int (xs (i + 1)), .int (xs (i + 2)), .int (xs (i + 3))]) (rest := []) ⟨hx, hb, hml, hown, hts⟩ (c_8_chain l D g m0 uu H.size R (xs (i + 1)) (xs (i + 2)) (xs (i + 3)) p7 p8 p9) (cwV 3 hts gL_law_X8_chain rfl rfl rfl (by decide +kernel) ⟨Nat.le_of_ble_eq_true rfl, Nat.le_of_ble_eq_true rfl⟩) (kPVs (wa := (wK g o0 x0 ua ub S2)) hP hD hK hS hA hE 0 8 rfl rfl rfl) rfl rfl hl.1 rfl (lv_room (Nat.le_of_ble_eq_true rfl)) dL_law_670 ⟨by show 200 + i + 1 ≤ 601024; omega, by show 40000 + 6 * i + 6 ≤ 7293034; omega⟩) hP hD hS hA (fun H locs hP hD hS => ?_)
  generalize (sR_chain (xs (i + 1)) (xs (i + 2)) (xs (i + 3)) R) = R2 at hP hD hI2 hk2
  refine lv_topi (fun b9 eb9 => ?_)
  refine lv_istore (lv' := [(6, .int b9), (5, .int k9), (0, .ref b), (1, .ref x0), (2, .ref m0), (3, .ref o0), (4, .int (nI i))]) hx hb dL_law_673 hl (by decide) rfl (fun ls hl => ?_)
  refine lv_aload_n hx hb dL_law_675 rfl (lv_at hl 4 rfl) ?_
  obtain ⟨_, _, _, _, _, _, q7, q8, q9⟩ := INV.pre hI2
  refine k_aiR (wa := (wK g o0 x0 ua ub S2)) (w1 := (w8 g m0 uu R2)) (va_runV (As := []) (rest := []) ⟨hx, hb, hml, hown, hts⟩ (c_8_thrown l D g m0 uu H.size R2 q7 q8 q9) (cwV 0 hts gL_law_X8_thrown rfl rfl rfl (by decide +kernel) ⟨Nat.le_of_ble_eq_true rfl, Nat.le_of_ble_eq_true rfl⟩) (kPVs (wa := (wK g o0 x0 ua ub S2)) hP hD hK hS hA hE 0 8 rfl rfl rfl) rfl rfl hl.1 rfl (lv_room (Nat.le_of_ble_eq_true rfl)) dL_law_676 ⟨by show 200 + i + 1 ≤ 601024; omega, by show 40000 + 6 * i + 6 ≤ 7293034; omega⟩) hP hD hS hA (fun H locs hP hD hS => ?_)
  refine lv_iload hx hb dL_law_679 (lv_at hl 1 rfl) ?_
  refine lv_icmp_eq (tgt := 686) hx hb dL_law_681 (by decide) (fun c1 => ?_) (fun c1 => absurd (ek9.trans hk2).symm c1)
  refine lv_iload hx hb dL_law_686 (lv_at hl 1 rfl) ?_
  have hG : ∀ (H : Heap) (locs : List Loc), va_P D vwCl ((wK g o0 x0 ua ub S2) ++ (w8 g m0 uu R2)) H → va_D (lwA s) ((wK g o0 x0 ua ub S2) ++ (w8 g m0 uu R2)) → va_S (lwA s) s.heap H locs → W p l e room_1 s m #[Value.ref b] below meth c H locs (200 + i + 1) (40000 + 6 * i + 6) Q (F0 m 703 ls []) := by
    intro H locs hP hD hS
    refine lv_goto (tgt := 1929) hx hb dL_law_703 (by decide) ?_
    exact K S2 R2 _ _ _ hI2 (k_swP hP) (k_swD hD) hS (lv_sub hl [2, 3, 4, 5, 6] rfl)
  refine lv_if_ne (tgt := 703) hx hb dL_law_688 (by decide) (fun c2 => hG _ _ hP hD hS) (fun c2 => ?_)
  refine lv_aload_n hx hb dL_law_691 rfl (lv_at hl 5 rfl) ?_
  refine lv_iconst (v := 0) hx hb dL_law_692 (by decide) ?_
  refine va_lald (i := 0) hx hb hK hP 0 4 rfl rfl (by unfold vp_in; decide) dL_law_693 ?_
  refine k_topl (y := S2.2.2.2.2.2.2.2.2.2.2.2 0) rfl ?_
  refine lv_iload hx hb dL_law_694 (lv_at hl 0 rfl) ?_
  refine lv_i2l (v := Int32.toInt64 b9) hx hb dL_law_696 rfl ?_
  refine W.lcmp hx hb dL_law_697 ?_
  refine lv_if_eq (tgt := 703) hx hb dL_law_698 (by decide) (fun c3 => hG _ _ hP hD hS) (fun c3 => absurd ((lg_cmp_eq _ _).mpr ((ha2 (ek9.symm.trans c2)).trans (congrArg Int32.toInt64 eb9.symm))) c3)
set_option maxHeartbeats 4000000 in
set_option maxRecDepth 100000 in
theorem law_10 {p : Program} {l : Launch} {e : Env} {s : State} {m : MethodId} {below : List Frame} {meth : Method} {c : Code} {D : va_G} {g : Nat → Nat} {o0 x0 m0 : Nat} {ua ub : Nat → Nat → Nat} {uu : Nat → Nat} {b L : Nat} {xs : Nat → Int32} (C : LwC p l s m c D g b L xs) {i : Nat} (hi : i + 7 ≤ L) {Q : State → Prop} (K : LwK p l e s m below meth c D g o0 x0 m0 ua ub uu b i Q) {S : KC} {R : KR} {H : Heap} {locs : List Loc} {ls : Array Slot} (hI : INV (3000 * i) S R) (hP : va_P D vwCl ((w8 g m0 uu R) ++ (wK g o0 x0 ua ub S)) H) (hD : va_D (lwA s) ((w8 g m0 uu R) ++ (wK g o0 x0 ua ub S))) (hS : va_S (lwA s) s.heap H locs) (hl : lv_has ls 7 [(0, .ref b), (1, .ref x0), (2, .ref m0), (3, .ref o0), (4, .int (nI i))]) : W p l e room_1 s m #[Value.ref b] below meth c H locs (200 + i) (40000 + 6 * i) Q (F0 m 706 ls []) := by
  obtain ⟨hx, hb, hml, hown, hts, hX0, hbl, hst, hK, hE, hX, hL⟩ := C
  have hA : ∀ q : Nat, s.heap.size ≤ q → lwA s q := fun _ h => h
  have hbA : ¬ lwA s b := Nat.not_le.mpr hbl
  obtain ⟨p1, p2, p3, p4, p5, p6, p7, p8, p9⟩ := INV.pre hI
  refine lv_aload_n hx hb dL_law_706 rfl (lv_at hl 1 rfl) ?_
  refine lv_aload_n hx hb dL_law_707 rfl (lv_at hl 0 rfl) ?_
  refine lv_iload hx hb dL_law_708 (lv_at hl 4 rfl) ?_
  refine lv_iconst (v := 1) hx hb dL_law_710 (by decide) ?_
  refine law_ld (k := 1) rfl (by omega) hL hx hb hX0 hbl hbA hS dL_law_711 dL_law_712 ?_
  refine lv_aload_n hx hb dL_law_713 rfl (lv_at hl 0 rfl) ?_
  refine lv_iload hx hb dL_law_714 (lv_at hl 4 rfl) ?_
  refine lv_iconst (v := 2) hx hb dL_law_716 (by decide) ?_
  refine law_ld (k := 2) rfl (by omega) hL hx hb hX0 hbl hbA hS dL_law_717 dL_law_718 ?_
  refine lv_aload_n hx hb dL_law_719 rfl (lv_at hl 3 rfl) ?_
  obtain ⟨hI2, hk2, ha2⟩ := inv_net (N := 3000 * i) (xs (i + 1)) (xs (i + 2)) hI (by omega)
  refine k_aiR (wa := (w8 g m0 uu R)) (w1 := (wK g o0 x0 ua ub (sL_net (xs (i + 1)) (xs (i + 2)) S))) (vx_runSW (As := [.ref x0, .int (xs (i + 1)), .int (xs (i + 2)), .ref o0]) (rest := []) ⟨hx, hb, hml, hown, hts⟩ (c_L_net l D g o0 x0 ua ub H.size S (xs (i + 1)) (xs (i + 2)) hst p1 p2 p3 p4 p5 p6) (vx_cwSW 4 hts gL_law_L_net rfl rfl rfl (by decide +kernel) ⟨Nat.le_of_ble_eq_true rfl, Nat.le_of_ble_eq_true rfl⟩) (kPSsX (wa := (w8 g m0 uu R)) hP hD hK hS hA hE hX) rfl rfl hl.1 rfl (lv_room (Nat.le_of_ble_eq_true rfl)) dL_law_720 ⟨by show 200 + i + 1 ≤ 601024; omega, by show 40000 + 6 * i + 6 ≤ 7293034; omega⟩) hP hD hS hA (fun H locs hP hD hS => ?_)
  refine lv_topi (fun k9 ek9 => ?_)
  refine lv_istore (lv' := [(5, .int k9), (0, .ref b), (1, .ref x0), (2, .ref m0), (3, .ref o0), (4, .int (nI i))]) hx hb dL_law_723 hl (by decide) rfl (fun ls hl => ?_)
  generalize (sL_net (xs (i + 1)) (xs (i + 2)) S) = S2 at hP hD hI2 ha2
  have hl0 := hl
  refine lv_aload_n hx hb dL_law_725 rfl (lv_at hl 3 rfl) ?_
  refine lv_aload_n hx hb dL_law_726 rfl (lv_at hl 1 rfl) ?_
  refine lv_iload hx hb dL_law_727 (lv_at hl 5 rfl) ?_
  refine lv_iconst (v := 1) hx hb dL_law_729 (by decide) ?_
  refine law_ld (k := 1) rfl (by omega) hL hx hb hX0 hbl hbA hS dL_law_730 dL_law_731 ?_
  refine lv_aload_n hx hb dL_law_732 rfl (lv_at hl 1 rfl) ?_
  refine lv_iload hx hb dL_law_733 (lv_at hl 5 rfl) ?_
  refine lv_iconst (v := 2) hx hb dL_law_735 (by decide) ?_
  refine law_ld (k := 2) rfl (by omega) hL hx hb hX0 hbl hbA hS dL_law_736 dL_law_737 ?_
  have hP := k_swP hP
  have hD := k_swD hD
  refine k_aiR (wa := (wK g o0 x0 ua ub S2)) (w1 := (w8 g m0 uu (sR_net (xs (i + 1)) (xs (i + 2)) R))) (va_runV (As := [.int (xs (i + 1)), .int (xs (i + 2))]) (rest := []) ⟨hx, hb, hml, hown, hts⟩ (c_8_net l D g m0 uu H.size R (xs (i + 1)) (xs (i + 2)) p7 p8 p9) (cwV 2 hts gL_law_X8_net rfl rfl rfl (by decide +kernel) ⟨Nat.le_of_ble_eq_true rfl, Nat.le_of_ble_eq_true rfl⟩) (kPVs (wa := (wK g o0 x0 ua ub S2)) hP hD hK hS hA hE 0 8 rfl rfl rfl) rfl rfl hl.1 rfl (lv_room (Nat.le_of_ble_eq_true rfl)) dL_law_738 ⟨by show 200 + i + 1 ≤ 601024; omega, by show 40000 + 6 * i + 6 ≤ 7293034; omega⟩) hP hD hS hA (fun H locs hP hD hS => ?_)
  generalize (sR_net (xs (i + 1)) (xs (i + 2)) R) = R2 at hP hD hI2 hk2
  refine lv_topi (fun b9 eb9 => ?_)
  refine lv_istore (lv' := [(6, .int b9), (5, .int k9), (0, .ref b), (1, .ref x0), (2, .ref m0), (3, .ref o0), (4, .int (nI i))]) hx hb dL_law_741 hl (by decide) rfl (fun ls hl => ?_)
  refine lv_aload_n hx hb dL_law_743 rfl (lv_at hl 4 rfl) ?_
  obtain ⟨_, _, _, _, _, _, q7, q8, q9⟩ := INV.pre hI2
  refine k_aiR (wa := (wK g o0 x0 ua ub S2)) (w1 := (w8 g m0 uu R2)) (va_runV (As := []) (rest := []) ⟨hx, hb, hml, hown, hts⟩ (c_8_thrown l D g m0 uu H.size R2 q7 q8 q9) (cwV 0 hts gL_law_X8_thrown rfl rfl rfl (by decide +kernel) ⟨Nat.le_of_ble_eq_true rfl, Nat.le_of_ble_eq_true rfl⟩) (kPVs (wa := (wK g o0 x0 ua ub S2)) hP hD hK hS hA hE 0 8 rfl rfl rfl) rfl rfl hl.1 rfl (lv_room (Nat.le_of_ble_eq_true rfl)) dL_law_744 ⟨by show 200 + i + 1 ≤ 601024; omega, by show 40000 + 6 * i + 6 ≤ 7293034; omega⟩) hP hD hS hA (fun H locs hP hD hS => ?_)
  refine lv_iload hx hb dL_law_747 (lv_at hl 1 rfl) ?_
  refine lv_icmp_eq (tgt := 754) hx hb dL_law_749 (by decide) (fun c1 => ?_) (fun c1 => absurd (ek9.trans hk2).symm c1)
  refine lv_iload hx hb dL_law_754 (lv_at hl 1 rfl) ?_
  have hG : ∀ (H : Heap) (locs : List Loc), va_P D vwCl ((wK g o0 x0 ua ub S2) ++ (w8 g m0 uu R2)) H → va_D (lwA s) ((wK g o0 x0 ua ub S2) ++ (w8 g m0 uu R2)) → va_S (lwA s) s.heap H locs → W p l e room_1 s m #[Value.ref b] below meth c H locs (200 + i + 1) (40000 + 6 * i + 6) Q (F0 m 771 ls []) := by
    intro H locs hP hD hS
    refine lv_goto (tgt := 1929) hx hb dL_law_771 (by decide) ?_
    exact K S2 R2 _ _ _ hI2 (k_swP hP) (k_swD hD) hS (lv_sub hl [2, 3, 4, 5, 6] rfl)
  refine lv_if_ne (tgt := 771) hx hb dL_law_756 (by decide) (fun c2 => hG _ _ hP hD hS) (fun c2 => ?_)
  refine lv_aload_n hx hb dL_law_759 rfl (lv_at hl 5 rfl) ?_
  refine lv_iconst (v := 0) hx hb dL_law_760 (by decide) ?_
  refine va_lald (i := 0) hx hb hK hP 0 4 rfl rfl (by unfold vp_in; decide) dL_law_761 ?_
  refine k_topl (y := S2.2.2.2.2.2.2.2.2.2.2.2 0) rfl ?_
  refine lv_iload hx hb dL_law_762 (lv_at hl 0 rfl) ?_
  refine lv_i2l (v := Int32.toInt64 b9) hx hb dL_law_764 rfl ?_
  refine W.lcmp hx hb dL_law_765 ?_
  refine lv_if_eq (tgt := 771) hx hb dL_law_766 (by decide) (fun c3 => hG _ _ hP hD hS) (fun c3 => absurd ((lg_cmp_eq _ _).mpr ((ha2 (ek9.symm.trans c2)).trans (congrArg Int32.toInt64 eb9.symm))) c3)
set_option maxHeartbeats 4000000 in
set_option maxRecDepth 100000 in
theorem law_11 {p : Program} {l : Launch} {e : Env} {s : State} {m : MethodId} {below : List Frame} {meth : Method} {c : Code} {D : va_G} {g : Nat → Nat} {o0 x0 m0 : Nat} {ua ub : Nat → Nat → Nat} {uu : Nat → Nat} {b L : Nat} {xs : Nat → Int32} (C : LwC p l s m c D g b L xs) {i : Nat} (hi : i + 7 ≤ L) {Q : State → Prop} (K : LwK p l e s m below meth c D g o0 x0 m0 ua ub uu b i Q) {S : KC} {R : KR} {H : Heap} {locs : List Loc} {ls : Array Slot} (hI : INV (3000 * i) S R) (hP : va_P D vwCl ((w8 g m0 uu R) ++ (wK g o0 x0 ua ub S)) H) (hD : va_D (lwA s) ((w8 g m0 uu R) ++ (wK g o0 x0 ua ub S))) (hS : va_S (lwA s) s.heap H locs) (hl : lv_has ls 7 [(0, .ref b), (1, .ref x0), (2, .ref m0), (3, .ref o0), (4, .int (nI i))]) : W p l e room_1 s m #[Value.ref b] below meth c H locs (200 + i) (40000 + 6 * i) Q (F0 m 774 ls []) := by
  obtain ⟨hx, hb, hml, hown, hts, hX0, hbl, hst, hK, hE, hX, hL⟩ := C
  have hA : ∀ q : Nat, s.heap.size ≤ q → lwA s q := fun _ h => h
  have hbA : ¬ lwA s b := Nat.not_le.mpr hbl
  obtain ⟨p1, p2, p3, p4, p5, p6, p7, p8, p9⟩ := INV.pre hI
  refine lv_aload_n hx hb dL_law_774 rfl (lv_at hl 1 rfl) ?_
  refine lv_aload_n hx hb dL_law_775 rfl (lv_at hl 0 rfl) ?_
  refine lv_iload hx hb dL_law_776 (lv_at hl 4 rfl) ?_
  refine lv_iconst (v := 1) hx hb dL_law_778 (by decide) ?_
  refine law_ld (k := 1) rfl (by omega) hL hx hb hX0 hbl hbA hS dL_law_779 dL_law_780 ?_
  refine lv_aload_n hx hb dL_law_781 rfl (lv_at hl 0 rfl) ?_
  refine lv_iload hx hb dL_law_782 (lv_at hl 4 rfl) ?_
  refine lv_iconst (v := 2) hx hb dL_law_784 (by decide) ?_
  refine law_ld (k := 2) rfl (by omega) hL hx hb hX0 hbl hbA hS dL_law_785 dL_law_786 ?_
  refine lv_aload_n hx hb dL_law_787 rfl (lv_at hl 0 rfl) ?_
  refine lv_iload hx hb dL_law_788 (lv_at hl 4 rfl) ?_
  refine lv_iconst (v := 3) hx hb dL_law_790 (by decide) ?_
  refine law_ld (k := 3) rfl (by omega) hL hx hb hX0 hbl hbA hS dL_law_791 dL_law_792 ?_
  refine lv_aload_n hx hb dL_law_793 rfl (lv_at hl 0 rfl) ?_
  refine lv_iload hx hb dL_law_794 (lv_at hl 4 rfl) ?_
  refine lv_iconst (v := 4) hx hb dL_law_796 (by decide) ?_
  refine law_ld (k := 4) rfl (by omega) hL hx hb hX0 hbl hbA hS dL_law_797 dL_law_798 ?_
  refine lv_aload_n hx hb dL_law_799 rfl (lv_at hl 0 rfl) ?_
  refine lv_iload hx hb dL_law_800 (lv_at hl 4 rfl) ?_
  refine lv_iconst (v := 5) hx hb dL_law_802 (by decide) ?_
  refine law_ld (k := 5) rfl (by omega) hL hx hb hX0 hbl hbA hS dL_law_803 dL_law_804 ?_
  refine lv_aload_n hx hb dL_law_805 rfl (lv_at hl 3 rfl) ?_
  obtain ⟨hI2, hk2, ha2⟩ := inv_own (N := 3000 * i) (xs (i + 1)) (xs (i + 2)) (xs (i + 3)) (xs (i + 4)) (xs (i + 5)) hI (by omega)
  refine k_aiR (wa := (w8 g m0 uu R)) (w1 := (wK g o0 x0 ua ub (sL_own (xs (i + 1)) (xs (i + 2)) (xs (i + 3)) (xs (i + 4)) (xs (i + 5)) S))) (vx_runSW (As := [.ref x0, .int (xs (i + 1)), .int (xs (i + 2)), .int (xs (i + 3)), .int (xs (i + 4)), .int (xs (i + 5)), .ref o0]) (rest := []) ⟨hx, hb, hml, hown, hts⟩ (c_L_own l D g o0 x0 ua ub H.size S (xs (i + 1)) (xs (i + 2)) (xs (i + 3)) (xs (i + 4)) (xs (i + 5)) hst p1 p2 p3 p4 p5 p6) (vx_cwSW 7 hts gL_law_L_own rfl rfl rfl (by decide +kernel) ⟨Nat.le_of_ble_eq_true rfl, Nat.le_of_ble_eq_true rfl⟩) (kPSsX (wa := (w8 g m0 uu R)) hP hD hK hS hA hE hX) rfl rfl hl.1 rfl (lv_room (Nat.le_of_ble_eq_true rfl)) dL_law_806 ⟨by show 200 + i + 1 ≤ 601024; omega, by show 40000 + 6 * i + 6 ≤ 7293034; omega⟩) hP hD hS hA (fun H locs hP hD hS => ?_)
  refine lv_topi (fun k9 ek9 => ?_)
  refine lv_istore (lv' := [(5, .int k9), (0, .ref b), (1, .ref x0), (2, .ref m0), (3, .ref o0), (4, .int (nI i))]) hx hb dL_law_809 hl (by decide) rfl (fun ls hl => ?_)
  generalize (sL_own (xs (i + 1)) (xs (i + 2)) (xs (i + 3)) (xs (i + 4)) (xs (i + 5)) S) = S2 at hP hD hI2 ha2
  have hl0 := hl
  refine lv_aload_n hx hb dL_law_811 rfl (lv_at hl 3 rfl) ?_
  refine lv_aload_n hx hb dL_law_812 rfl (lv_at hl 1 rfl) ?_
  refine lv_iload hx hb dL_law_813 (lv_at hl 5 rfl) ?_
  refine lv_iconst (v := 1) hx hb dL_law_815 (by decide) ?_
  refine law_ld (k := 1) rfl (by omega) hL hx hb hX0 hbl hbA hS dL_law_816 dL_law_817 ?_
  refine lv_aload_n hx hb dL_law_818 rfl (lv_at hl 1 rfl) ?_
  refine lv_iload hx hb dL_law_819 (lv_at hl 5 rfl) ?_
  refine lv_iconst (v := 2) hx hb dL_law_821 (by decide) ?_
  refine law_ld (k := 2) rfl (by omega) hL hx hb hX0 hbl hbA hS dL_law_822 dL_law_823 ?_
  refine lv_aload_n hx hb dL_law_824 rfl (lv_at hl 1 rfl) ?_
  refine lv_iload hx hb dL_law_825 (lv_at hl 5 rfl) ?_
  refine lv_iconst (v := 3) hx hb dL_law_827 (by decide) ?_
  refine law_ld (k := 3) rfl (by omega) hL hx hb hX0 hbl hbA hS dL_law_828 dL_law_829 ?_
  refine lv_aload_n hx hb dL_law_830 rfl (lv_at hl 1 rfl) ?_
  refine lv_iload hx hb dL_law_831 (lv_at hl 5 rfl) ?_
  refine lv_iconst (v := 4) hx hb dL_law_833 (by decide) ?_
  refine law_ld (k := 4) rfl (by omega) hL hx hb hX0 hbl hbA hS dL_law_834 dL_law_835 ?_
  refine lv_aload_n hx hb dL_law_836 rfl (lv_at hl 1 rfl) ?_
  refine lv_iload hx hb dL_law_837 (lv_at hl 5 rfl) ?_
  refine lv_iconst (v := 5) hx hb dL_law_839 (by decide) ?_
  refine law_ld (k := 5) rfl (by omega) hL hx hb hX0 hbl hbA hS dL_law_840 dL_law_841 ?_
  have hP := k_swP hP
  have hD := k_swD hD
  refine k_aiR (wa := (wK g o0 x0 ua ub S2)) (w1 := (w8 g m0 uu (sR_own (xs (i + 1)) (xs (i + 2)) (xs (i + 3)) (xs (i + 4)) (xs (i + 5)) R))) (va_runV (As := [.int (xs (i + 1)), .int (xs (i + 2)), .int (xs (i + 3)), .int (xs (i + 4)), .int (xs (i + 5))]) (rest := []) ⟨hx, hb, hml, hown, hts⟩ (c_8_own l D g m0 uu H.size R (xs (i + 1)) (xs (i + 2)) (xs (i + 3)) (xs (i + 4)) (xs (i + 5)) p7 p8 p9) (cwV 5 hts gL_law_X8_own rfl rfl rfl (by decide +kernel) ⟨Nat.le_of_ble_eq_true rfl, Nat.le_of_ble_eq_true rfl⟩) (kPVs (wa := (wK g o0 x0 ua ub S2)) hP hD hK hS hA hE 0 8 rfl rfl rfl) rfl rfl hl.1 rfl (lv_room (Nat.le_of_ble_eq_true rfl)) dL_law_842 ⟨by show 200 + i + 1 ≤ 601024; omega, by show 40000 + 6 * i + 6 ≤ 7293034; omega⟩) hP hD hS hA (fun H locs hP hD hS => ?_)
  generalize (sR_own (xs (i + 1)) (xs (i + 2)) (xs (i + 3)) (xs (i + 4)) (xs (i + 5)) R) = R2 at hP hD hI2 hk2
  refine lv_topi (fun b9 eb9 => ?_)
  refine lv_istore (lv' := [(6, .int b9), (5, .int k9), (0, .ref b), (1, .ref x0), (2, .ref m0), (3, .ref o0), (4, .int (nI i))]) hx hb dL_law_845 hl (by decide) rfl (fun ls hl => ?_)
  refine lv_aload_n hx hb dL_law_847 rfl (lv_at hl 4 rfl) ?_
  obtain ⟨_, _, _, _, _, _, q7, q8, q9⟩ := INV.pre hI2
  refine k_aiR (wa := (wK g o0 x0 ua ub S2)) (w1 := (w8 g m0 uu R2)) (va_runV (As := []) (rest := []) ⟨hx, hb, hml, hown, hts⟩ (c_8_thrown l D g m0 uu H.size R2 q7 q8 q9) (cwV 0 hts gL_law_X8_thrown rfl rfl rfl (by decide +kernel) ⟨Nat.le_of_ble_eq_true rfl, Nat.le_of_ble_eq_true rfl⟩) (kPVs (wa := (wK g o0 x0 ua ub S2)) hP hD hK hS hA hE 0 8 rfl rfl rfl) rfl rfl hl.1 rfl (lv_room (Nat.le_of_ble_eq_true rfl)) dL_law_848 ⟨by show 200 + i + 1 ≤ 601024; omega, by show 40000 + 6 * i + 6 ≤ 7293034; omega⟩) hP hD hS hA (fun H locs hP hD hS => ?_)
  refine lv_iload hx hb dL_law_851 (lv_at hl 1 rfl) ?_
  refine lv_icmp_eq (tgt := 858) hx hb dL_law_853 (by decide) (fun c1 => ?_) (fun c1 => absurd (ek9.trans hk2).symm c1)
  refine lv_iload hx hb dL_law_858 (lv_at hl 1 rfl) ?_
  have hG : ∀ (H : Heap) (locs : List Loc), va_P D vwCl ((wK g o0 x0 ua ub S2) ++ (w8 g m0 uu R2)) H → va_D (lwA s) ((wK g o0 x0 ua ub S2) ++ (w8 g m0 uu R2)) → va_S (lwA s) s.heap H locs → W p l e room_1 s m #[Value.ref b] below meth c H locs (200 + i + 1) (40000 + 6 * i + 6) Q (F0 m 875 ls []) := by
    intro H locs hP hD hS
    refine lv_goto (tgt := 1929) hx hb dL_law_875 (by decide) ?_
    exact K S2 R2 _ _ _ hI2 (k_swP hP) (k_swD hD) hS (lv_sub hl [2, 3, 4, 5, 6] rfl)
  refine lv_if_ne (tgt := 875) hx hb dL_law_860 (by decide) (fun c2 => hG _ _ hP hD hS) (fun c2 => ?_)
  refine lv_aload_n hx hb dL_law_863 rfl (lv_at hl 5 rfl) ?_
  refine lv_iconst (v := 0) hx hb dL_law_864 (by decide) ?_
  refine va_lald (i := 0) hx hb hK hP 0 4 rfl rfl (by unfold vp_in; decide) dL_law_865 ?_
  refine k_topl (y := S2.2.2.2.2.2.2.2.2.2.2.2 0) rfl ?_
  refine lv_iload hx hb dL_law_866 (lv_at hl 0 rfl) ?_
  refine lv_i2l (v := Int32.toInt64 b9) hx hb dL_law_868 rfl ?_
  refine W.lcmp hx hb dL_law_869 ?_
  refine lv_if_eq (tgt := 875) hx hb dL_law_870 (by decide) (fun c3 => hG _ _ hP hD hS) (fun c3 => absurd ((lg_cmp_eq _ _).mpr ((ha2 (ek9.symm.trans c2)).trans (congrArg Int32.toInt64 eb9.symm))) c3)
set_option maxHeartbeats 4000000 in
set_option maxRecDepth 100000 in
theorem law_12 {p : Program} {l : Launch} {e : Env} {s : State} {m : MethodId} {below : List Frame} {meth : Method} {c : Code} {D : va_G} {g : Nat → Nat} {o0 x0 m0 : Nat} {ua ub : Nat → Nat → Nat} {uu : Nat → Nat} {b L : Nat} {xs : Nat → Int32} (C : LwC p l s m c D g b L xs) {i : Nat} (hi : i + 7 ≤ L) {Q : State → Prop} (K : LwK p l e s m below meth c D g o0 x0 m0 ua ub uu b i Q) {S : KC} {R : KR} {H : Heap} {locs : List Loc} {ls : Array Slot} (hI : INV (3000 * i) S R) (hP : va_P D vwCl ((w8 g m0 uu R) ++ (wK g o0 x0 ua ub S)) H) (hD : va_D (lwA s) ((w8 g m0 uu R) ++ (wK g o0 x0 ua ub S))) (hS : va_S (lwA s) s.heap H locs) (hl : lv_has ls 7 [(0, .ref b), (1, .ref x0), (2, .ref m0), (3, .ref o0), (4, .int (nI i))]) : W p l e room_1 s m #[Value.ref b] below meth c H locs (200 + i) (40000 + 6 * i) Q (F0 m 878 ls []) := by
  obtain ⟨hx, hb, hml, hown, hts, hX0, hbl, hst, hK, hE, hX, hL⟩ := C
  have hA : ∀ q : Nat, s.heap.size ≤ q → lwA s q := fun _ h => h
  have hbA : ¬ lwA s b := Nat.not_le.mpr hbl
  obtain ⟨p1, p2, p3, p4, p5, p6, p7, p8, p9⟩ := INV.pre hI
  refine lv_aload_n hx hb dL_law_878 rfl (lv_at hl 1 rfl) ?_
  refine lv_aload_n hx hb dL_law_879 rfl (lv_at hl 0 rfl) ?_
  refine lv_iload hx hb dL_law_880 (lv_at hl 4 rfl) ?_
  refine lv_iconst (v := 1) hx hb dL_law_882 (by decide) ?_
  refine law_ld (k := 1) rfl (by omega) hL hx hb hX0 hbl hbA hS dL_law_883 dL_law_884 ?_
  refine lv_aload_n hx hb dL_law_885 rfl (lv_at hl 0 rfl) ?_
  refine lv_iload hx hb dL_law_886 (lv_at hl 4 rfl) ?_
  refine lv_iconst (v := 2) hx hb dL_law_888 (by decide) ?_
  refine law_ld (k := 2) rfl (by omega) hL hx hb hX0 hbl hbA hS dL_law_889 dL_law_890 ?_
  refine lv_aload_n hx hb dL_law_891 rfl (lv_at hl 0 rfl) ?_
  refine lv_iload hx hb dL_law_892 (lv_at hl 4 rfl) ?_
  refine lv_iconst (v := 3) hx hb dL_law_894 (by decide) ?_
  refine law_ld (k := 3) rfl (by omega) hL hx hb hX0 hbl hbA hS dL_law_895 dL_law_896 ?_
  refine lv_aload_n hx hb dL_law_897 rfl (lv_at hl 0 rfl) ?_
  refine lv_iload hx hb dL_law_898 (lv_at hl 4 rfl) ?_
  refine lv_iconst (v := 4) hx hb dL_law_900 (by decide) ?_
  refine law_ld (k := 4) rfl (by omega) hL hx hb hX0 hbl hbA hS dL_law_901 dL_law_902 ?_
  refine lv_aload_n hx hb dL_law_903 rfl (lv_at hl 0 rfl) ?_
  refine lv_iload hx hb dL_law_904 (lv_at hl 4 rfl) ?_
  refine lv_iconst (v := 5) hx hb dL_law_906 (by decide) ?_
  refine law_ld (k := 5) rfl (by omega) hL hx hb hX0 hbl hbA hS dL_law_907 dL_law_908 ?_
  refine lv_aload_n hx hb dL_law_909 rfl (lv_at hl 0 rfl) ?_
  refine lv_iload hx hb dL_law_910 (lv_at hl 4 rfl) ?_
  refine lv_bipush (v := 6) hx hb dL_law_912 (by decide) ?_
  refine law_ld (k := 6) rfl (by omega) hL hx hb hX0 hbl hbA hS dL_law_914 dL_law_915 ?_
  refine lv_aload_n hx hb dL_law_916 rfl (lv_at hl 3 rfl) ?_
  obtain ⟨hI2, hk2, ha2⟩ := inv_link (N := 3000 * i) (xs (i + 1)) (xs (i + 2)) (xs (i + 3)) (xs (i + 4)) (xs (i + 5)) (xs (i + 6)) hI (by omega)
  refine k_aiR (wa := (w8 g m0 uu R)) (w1 := (wK g o0 x0 ua ub (sL_link (xs (i + 1)) (xs (i + 2)) (xs (i + 3)) (xs (i + 4)) (xs (i + 5)) (xs (i + 6)) S))) (vx_runSW (As := [.ref x0, .int (xs (i + 1)), .int (xs (i + 2)), .int (xs (i + 3)), .int (xs (i + 4)), .int (xs (i + 5)), .int (xs (i + 6)), .ref o0]) (rest := []) ⟨hx, hb, hml, hown, hts⟩ (c_L_link l D g o0 x0 ua ub H.size S (xs (i + 1)) (xs (i + 2)) (xs (i + 3)) (xs (i + 4)) (xs (i + 5)) (xs (i + 6)) hst p1 p2 p3 p4 p5 p6) (vx_cwSW 8 hts gL_law_L_link rfl rfl rfl (by decide +kernel) ⟨Nat.le_of_ble_eq_true rfl, Nat.le_of_ble_eq_true rfl⟩) (kPSsX (wa := (w8 g m0 uu R)) hP hD hK hS hA hE hX) rfl rfl hl.1 rfl (lv_room (Nat.le_of_ble_eq_true rfl)) dL_law_917 ⟨by show 200 + i + 1 ≤ 601024; omega, by show 40000 + 6 * i + 6 ≤ 7293034; omega⟩) hP hD hS hA (fun H locs hP hD hS => ?_)
  refine lv_topi (fun k9 ek9 => ?_)
  refine lv_istore (lv' := [(5, .int k9), (0, .ref b), (1, .ref x0), (2, .ref m0), (3, .ref o0), (4, .int (nI i))]) hx hb dL_law_920 hl (by decide) rfl (fun ls hl => ?_)
  generalize (sL_link (xs (i + 1)) (xs (i + 2)) (xs (i + 3)) (xs (i + 4)) (xs (i + 5)) (xs (i + 6)) S) = S2 at hP hD hI2 ha2
  have hl0 := hl
  refine lv_aload_n hx hb dL_law_922 rfl (lv_at hl 3 rfl) ?_
  refine lv_aload_n hx hb dL_law_923 rfl (lv_at hl 1 rfl) ?_
  refine lv_iload hx hb dL_law_924 (lv_at hl 5 rfl) ?_
  refine lv_iconst (v := 1) hx hb dL_law_926 (by decide) ?_
  refine law_ld (k := 1) rfl (by omega) hL hx hb hX0 hbl hbA hS dL_law_927 dL_law_928 ?_
  refine lv_aload_n hx hb dL_law_929 rfl (lv_at hl 1 rfl) ?_
  refine lv_iload hx hb dL_law_930 (lv_at hl 5 rfl) ?_
  refine lv_iconst (v := 2) hx hb dL_law_932 (by decide) ?_
  refine law_ld (k := 2) rfl (by omega) hL hx hb hX0 hbl hbA hS dL_law_933 dL_law_934 ?_
  refine lv_aload_n hx hb dL_law_935 rfl (lv_at hl 1 rfl) ?_
  refine lv_iload hx hb dL_law_936 (lv_at hl 5 rfl) ?_
  refine lv_iconst (v := 3) hx hb dL_law_938 (by decide) ?_
  refine law_ld (k := 3) rfl (by omega) hL hx hb hX0 hbl hbA hS dL_law_939 dL_law_940 ?_
  refine lv_aload_n hx hb dL_law_941 rfl (lv_at hl 1 rfl) ?_
  refine lv_iload hx hb dL_law_942 (lv_at hl 5 rfl) ?_
  refine lv_iconst (v := 4) hx hb dL_law_944 (by decide) ?_
  refine law_ld (k := 4) rfl (by omega) hL hx hb hX0 hbl hbA hS dL_law_945 dL_law_946 ?_
  refine lv_aload_n hx hb dL_law_947 rfl (lv_at hl 1 rfl) ?_
  refine lv_iload hx hb dL_law_948 (lv_at hl 5 rfl) ?_
  refine lv_iconst (v := 5) hx hb dL_law_950 (by decide) ?_
  refine law_ld (k := 5) rfl (by omega) hL hx hb hX0 hbl hbA hS dL_law_951 dL_law_952 ?_
  refine lv_aload_n hx hb dL_law_953 rfl (lv_at hl 1 rfl) ?_
  refine lv_iload hx hb dL_law_954 (lv_at hl 5 rfl) ?_
  refine lv_bipush (v := 6) hx hb dL_law_956 (by decide) ?_
  refine law_ld (k := 6) rfl (by omega) hL hx hb hX0 hbl hbA hS dL_law_958 dL_law_959 ?_
  have hP := k_swP hP
  have hD := k_swD hD
  refine k_aiR (wa := (wK g o0 x0 ua ub S2)) (w1 := (w8 g m0 uu (sR_link (xs (i + 1)) (xs (i + 2)) (xs (i + 3)) (xs (i + 4)) (xs (i + 5)) (xs (i + 6)) R))) (va_runV (As := [.int (xs (i + 1)), .int (xs (i + 2)), .int (xs (i + 3)), .int (xs (i + 4)), .int (xs (i + 5)), .int (xs (i + 6))]) (rest := []) ⟨hx, hb, hml, hown, hts⟩ (c_8_link l D g m0 uu H.size R (xs (i + 1)) (xs (i + 2)) (xs (i + 3)) (xs (i + 4)) (xs (i + 5)) (xs (i + 6)) p7 p8 p9) (cwV 6 hts gL_law_X8_link rfl rfl rfl (by decide +kernel) ⟨Nat.le_of_ble_eq_true rfl, Nat.le_of_ble_eq_true rfl⟩) (kPVs (wa := (wK g o0 x0 ua ub S2)) hP hD hK hS hA hE 0 8 rfl rfl rfl) rfl rfl hl.1 rfl (lv_room (Nat.le_of_ble_eq_true rfl)) dL_law_960 ⟨by show 200 + i + 1 ≤ 601024; omega, by show 40000 + 6 * i + 6 ≤ 7293034; omega⟩) hP hD hS hA (fun H locs hP hD hS => ?_)
  generalize (sR_link (xs (i + 1)) (xs (i + 2)) (xs (i + 3)) (xs (i + 4)) (xs (i + 5)) (xs (i + 6)) R) = R2 at hP hD hI2 hk2
  refine lv_topi (fun b9 eb9 => ?_)
  refine lv_istore (lv' := [(6, .int b9), (5, .int k9), (0, .ref b), (1, .ref x0), (2, .ref m0), (3, .ref o0), (4, .int (nI i))]) hx hb dL_law_963 hl (by decide) rfl (fun ls hl => ?_)
  refine lv_aload_n hx hb dL_law_965 rfl (lv_at hl 4 rfl) ?_
  obtain ⟨_, _, _, _, _, _, q7, q8, q9⟩ := INV.pre hI2
  refine k_aiR (wa := (wK g o0 x0 ua ub S2)) (w1 := (w8 g m0 uu R2)) (va_runV (As := []) (rest := []) ⟨hx, hb, hml, hown, hts⟩ (c_8_thrown l D g m0 uu H.size R2 q7 q8 q9) (cwV 0 hts gL_law_X8_thrown rfl rfl rfl (by decide +kernel) ⟨Nat.le_of_ble_eq_true rfl, Nat.le_of_ble_eq_true rfl⟩) (kPVs (wa := (wK g o0 x0 ua ub S2)) hP hD hK hS hA hE 0 8 rfl rfl rfl) rfl rfl hl.1 rfl (lv_room (Nat.le_of_ble_eq_true rfl)) dL_law_966 ⟨by show 200 + i + 1 ≤ 601024; omega, by show 40000 + 6 * i + 6 ≤ 7293034; omega⟩) hP hD hS hA (fun H locs hP hD hS => ?_)
  refine lv_iload hx hb dL_law_969 (lv_at hl 1 rfl) ?_
  refine lv_icmp_eq (tgt := 976) hx hb dL_law_971 (by decide) (fun c1 => ?_) (fun c1 => absurd (ek9.trans hk2).symm c1)
  refine lv_iload hx hb dL_law_976 (lv_at hl 1 rfl) ?_
  have hG : ∀ (H : Heap) (locs : List Loc), va_P D vwCl ((wK g o0 x0 ua ub S2) ++ (w8 g m0 uu R2)) H → va_D (lwA s) ((wK g o0 x0 ua ub S2) ++ (w8 g m0 uu R2)) → va_S (lwA s) s.heap H locs → W p l e room_1 s m #[Value.ref b] below meth c H locs (200 + i + 1) (40000 + 6 * i + 6) Q (F0 m 993 ls []) := by
    intro H locs hP hD hS
    refine lv_goto (tgt := 1929) hx hb dL_law_993 (by decide) ?_
    exact K S2 R2 _ _ _ hI2 (k_swP hP) (k_swD hD) hS (lv_sub hl [2, 3, 4, 5, 6] rfl)
  refine lv_if_ne (tgt := 993) hx hb dL_law_978 (by decide) (fun c2 => hG _ _ hP hD hS) (fun c2 => ?_)
  refine lv_aload_n hx hb dL_law_981 rfl (lv_at hl 5 rfl) ?_
  refine lv_iconst (v := 0) hx hb dL_law_982 (by decide) ?_
  refine va_lald (i := 0) hx hb hK hP 0 4 rfl rfl (by unfold vp_in; decide) dL_law_983 ?_
  refine k_topl (y := S2.2.2.2.2.2.2.2.2.2.2.2 0) rfl ?_
  refine lv_iload hx hb dL_law_984 (lv_at hl 0 rfl) ?_
  refine lv_i2l (v := Int32.toInt64 b9) hx hb dL_law_986 rfl ?_
  refine W.lcmp hx hb dL_law_987 ?_
  refine lv_if_eq (tgt := 993) hx hb dL_law_988 (by decide) (fun c3 => hG _ _ hP hD hS) (fun c3 => absurd ((lg_cmp_eq _ _).mpr ((ha2 (ek9.symm.trans c2)).trans (congrArg Int32.toInt64 eb9.symm))) c3)
end
