-- THE LAW, 8: its loop, its start; the claim
noncomputable section
/-! THE CLAIM OUT OF ONE WALK OF THE LAW'S BODY. Your part is whole_start (and what it stands on); all else here is the same for every law, but numbers. -/
def R_law : String := "BlameChainsLaw"
def lw_P (b : Addr) (xs : List Int32) (args : Array Value) (s : State) : Prop := args = #[.ref b] ∧ s.IntsAt b xs ∧ xs.length ≤ 3584 ∧ (Jvm.Cond.and given_1 narrow_1).before args s = true
def lw_Q (_ : Array Value) (s : State) (o : Outcome) (t : State) : Prop := o = .returned (some (.int 1)) ∧ Framed s o t [] 601024 7293034
def lw_Z (below : List Frame) (a : Array Value) (s : State) : State → Prop := fun t => ∃ o, t.status = .running ∧ Ended t below o ∧ lw_Q a s o t
/-- the law's own end, with 1 on the stack, nothing written that was there before, its room as the claim has it -/
theorem lw_ret {p : Program} {l : Launch} {e : Env} {s : State} {m : MethodId} {below : List Frame} {meth : Method} {c : Code} {b : Nat} (hx : p.tables.exec = Jvm.exec) (hb : c.code = code) (hr : meth.sig.returnType = ret) (hlocks : meth.locks = false) {pc : Nat} {H : Heap} {ls : Array Slot} (hdg : decode code pc = .ok (.ireturn, 1)) : W p l e room_1 s m #[Value.ref b] below meth c H [] 601024 7293034 (lw_Z below #[Value.ref b] s) (F0 m pc ls [.int 1]) := by
  intro T hT X
  obtain ⟨fs, hret, hrun, hended, hW, hframe⟩ := X.leave (v := some (.int 1)) (hlocks := hlocks) (fun h => by rw [hr] at h; cases h)
  have hmeth' : T.vm.method? m = some meth := X.method'
  refine ⟨T.setFrames fs, ?_, .returned (some (.int 1)), hrun, hended, rfl, ⟨_, rfl⟩, hW, hframe⟩
  jvm_step X.here [X.here.top, hx, hb, hdg, hmeth', hr, ret, narrow_b1]
  (try refine ⟨rfl, ?_⟩); (try refine ⟨rfl, ?_⟩)
  first | (intro acts; rw [hret _ acts rfl rfl rfl]) | rw [hret _ _ rfl rfl rfl]
  exact Steps.refl _
/-- what holds at the law's entry: the machine, the code, the tables' words (any of lw_tbl by 'hts w (by decide +kernel)'), the script of L ints xs at the cell b, what the Statement gives of the start (any of its parts by flat_of_before) -/
def lw_At (p : Program) (s : State) (m : MethodId) (meth : Method) (c : Code) (b L : Nat) (xs : Nat → Int32) : Prop :=
  p.tables.exec = Jvm.exec ∧ c.code = code ∧ meth.sig.returnType = ret ∧ c.maxLocals = 7 ∧ s.vm.findClass R_law = some m.cls ∧ (∀ w ∈ lw_tbl, w.before #[Value.ref b] s = true) ∧ va_X b L xs s s.heap ∧ b < s.heap.size ∧ meth.locks = false ∧ (Jvm.Cond.and given_1 narrow_1).before #[Value.ref b] s = true
theorem law_sw (x : Int32) : (x.toInt < 0 ∨ 25 < x.toInt) ∨ x = 0 ∨ x = 1 ∨ x = 2 ∨ x = 3 ∨ x = 4 ∨ x = 5 ∨ x = 6 ∨ x = 7 ∨ x = 8 ∨ x = 9 ∨ x = 10 ∨ x = 11 ∨ x = 12 ∨ x = 13 ∨ x = 14 ∨ x = 15 ∨ x = 16 ∨ x = 17 ∨ x = 18 ∨ x = 19 ∨ x = 20 ∨ x = 21 ∨ x = 22 ∨ x = 23 ∨ x = 24 ∨ x = 25 := by
  have h : (x.toInt < 0 ∨ 25 < x.toInt) ∨ x.toInt = 0 ∨ x.toInt = 1 ∨ x.toInt = 2 ∨ x.toInt = 3 ∨ x.toInt = 4 ∨ x.toInt = 5 ∨ x.toInt = 6 ∨ x.toInt = 7 ∨ x.toInt = 8 ∨ x.toInt = 9 ∨ x.toInt = 10 ∨ x.toInt = 11 ∨ x.toInt = 12 ∨ x.toInt = 13 ∨ x.toInt = 14 ∨ x.toInt = 15 ∨ x.toInt = 16 ∨ x.toInt = 17 ∨ x.toInt = 18 ∨ x.toInt = 19 ∨ x.toInt = 20 ∨ x.toInt = 21 ∨ x.toInt = 22 ∨ x.toInt = 23 ∨ x.toInt = 24 ∨ x.toInt = 25 := by omega
  rcases h with h | h | h | h | h | h | h | h | h | h | h | h | h | h | h | h | h | h | h | h | h | h | h | h | h | h | h
  · exact Or.inl h
  · exact Or.inr (Or.inl (k_ti (k := 0) (by decide) h))
  · exact Or.inr (Or.inr (Or.inl (k_ti (k := 1) (by decide) h)))
  · exact Or.inr (Or.inr (Or.inr (Or.inl (k_ti (k := 2) (by decide) h))))
  · exact Or.inr (Or.inr (Or.inr (Or.inr (Or.inl (k_ti (k := 3) (by decide) h)))))
  · exact Or.inr (Or.inr (Or.inr (Or.inr (Or.inr (Or.inl (k_ti (k := 4) (by decide) h))))))
  · exact Or.inr (Or.inr (Or.inr (Or.inr (Or.inr (Or.inr (Or.inl (k_ti (k := 5) (by decide) h)))))))
  · exact Or.inr (Or.inr (Or.inr (Or.inr (Or.inr (Or.inr (Or.inr (Or.inl (k_ti (k := 6) (by decide) h))))))))
  · exact Or.inr (Or.inr (Or.inr (Or.inr (Or.inr (Or.inr (Or.inr (Or.inr (Or.inl (k_ti (k := 7) (by decide) h)))))))))
  · exact Or.inr (Or.inr (Or.inr (Or.inr (Or.inr (Or.inr (Or.inr (Or.inr (Or.inr (Or.inl (k_ti (k := 8) (by decide) h))))))))))
  · exact Or.inr (Or.inr (Or.inr (Or.inr (Or.inr (Or.inr (Or.inr (Or.inr (Or.inr (Or.inr (Or.inl (k_ti (k := 9) (by decide) h)))))))))))
  · exact Or.inr (Or.inr (Or.inr (Or.inr (Or.inr (Or.inr (Or.inr (Or.inr (Or.inr (Or.inr (Or.inr (Or.inl (k_ti (k := 10) (by decide) h))))))))))))
  · exact Or.inr (Or.inr (Or.inr (Or.inr (Or.inr (Or.inr (Or.inr (Or.inr (Or.inr (Or.inr (Or.inr (Or.inr (Or.inl (k_ti (k := 11) (by decide) h)))))))))))))
  · exact Or.inr (Or.inr (Or.inr (Or.inr (Or.inr (Or.inr (Or.inr (Or.inr (Or.inr (Or.inr (Or.inr (Or.inr (Or.inr (Or.inl (k_ti (k := 12) (by decide) h))))))))))))))
  · exact Or.inr (Or.inr (Or.inr (Or.inr (Or.inr (Or.inr (Or.inr (Or.inr (Or.inr (Or.inr (Or.inr (Or.inr (Or.inr (Or.inr (Or.inl (k_ti (k := 13) (by decide) h)))))))))))))))
  · exact Or.inr (Or.inr (Or.inr (Or.inr (Or.inr (Or.inr (Or.inr (Or.inr (Or.inr (Or.inr (Or.inr (Or.inr (Or.inr (Or.inr (Or.inr (Or.inl (k_ti (k := 14) (by decide) h))))))))))))))))
  · exact Or.inr (Or.inr (Or.inr (Or.inr (Or.inr (Or.inr (Or.inr (Or.inr (Or.inr (Or.inr (Or.inr (Or.inr (Or.inr (Or.inr (Or.inr (Or.inr (Or.inl (k_ti (k := 15) (by decide) h)))))))))))))))))
  · exact Or.inr (Or.inr (Or.inr (Or.inr (Or.inr (Or.inr (Or.inr (Or.inr (Or.inr (Or.inr (Or.inr (Or.inr (Or.inr (Or.inr (Or.inr (Or.inr (Or.inr (Or.inl (k_ti (k := 16) (by decide) h))))))))))))))))))
  · exact Or.inr (Or.inr (Or.inr (Or.inr (Or.inr (Or.inr (Or.inr (Or.inr (Or.inr (Or.inr (Or.inr (Or.inr (Or.inr (Or.inr (Or.inr (Or.inr (Or.inr (Or.inr (Or.inl (k_ti (k := 17) (by decide) h)))))))))))))))))))
  · exact Or.inr (Or.inr (Or.inr (Or.inr (Or.inr (Or.inr (Or.inr (Or.inr (Or.inr (Or.inr (Or.inr (Or.inr (Or.inr (Or.inr (Or.inr (Or.inr (Or.inr (Or.inr (Or.inr (Or.inl (k_ti (k := 18) (by decide) h))))))))))))))))))))
  · exact Or.inr (Or.inr (Or.inr (Or.inr (Or.inr (Or.inr (Or.inr (Or.inr (Or.inr (Or.inr (Or.inr (Or.inr (Or.inr (Or.inr (Or.inr (Or.inr (Or.inr (Or.inr (Or.inr (Or.inr (Or.inl (k_ti (k := 19) (by decide) h)))))))))))))))))))))
  · exact Or.inr (Or.inr (Or.inr (Or.inr (Or.inr (Or.inr (Or.inr (Or.inr (Or.inr (Or.inr (Or.inr (Or.inr (Or.inr (Or.inr (Or.inr (Or.inr (Or.inr (Or.inr (Or.inr (Or.inr (Or.inr (Or.inl (k_ti (k := 20) (by decide) h))))))))))))))))))))))
  · exact Or.inr (Or.inr (Or.inr (Or.inr (Or.inr (Or.inr (Or.inr (Or.inr (Or.inr (Or.inr (Or.inr (Or.inr (Or.inr (Or.inr (Or.inr (Or.inr (Or.inr (Or.inr (Or.inr (Or.inr (Or.inr (Or.inr (Or.inl (k_ti (k := 21) (by decide) h)))))))))))))))))))))))
  · exact Or.inr (Or.inr (Or.inr (Or.inr (Or.inr (Or.inr (Or.inr (Or.inr (Or.inr (Or.inr (Or.inr (Or.inr (Or.inr (Or.inr (Or.inr (Or.inr (Or.inr (Or.inr (Or.inr (Or.inr (Or.inr (Or.inr (Or.inr (Or.inl (k_ti (k := 22) (by decide) h))))))))))))))))))))))))
  · exact Or.inr (Or.inr (Or.inr (Or.inr (Or.inr (Or.inr (Or.inr (Or.inr (Or.inr (Or.inr (Or.inr (Or.inr (Or.inr (Or.inr (Or.inr (Or.inr (Or.inr (Or.inr (Or.inr (Or.inr (Or.inr (Or.inr (Or.inr (Or.inr (Or.inl (k_ti (k := 23) (by decide) h)))))))))))))))))))))))))
  · exact Or.inr (Or.inr (Or.inr (Or.inr (Or.inr (Or.inr (Or.inr (Or.inr (Or.inr (Or.inr (Or.inr (Or.inr (Or.inr (Or.inr (Or.inr (Or.inr (Or.inr (Or.inr (Or.inr (Or.inr (Or.inr (Or.inr (Or.inr (Or.inr (Or.inr (Or.inl (k_ti (k := 24) (by decide) h))))))))))))))))))))))))))
  · exact Or.inr (Or.inr (Or.inr (Or.inr (Or.inr (Or.inr (Or.inr (Or.inr (Or.inr (Or.inr (Or.inr (Or.inr (Or.inr (Or.inr (Or.inr (Or.inr (Or.inr (Or.inr (Or.inr (Or.inr (Or.inr (Or.inr (Or.inr (Or.inr (Or.inr (Or.inr (k_ti (k := 25) (by decide) h))))))))))))))))))))))))))
theorem law_le {i L : Nat} (hi : i ≤ L) (hL : L ≤ 3584) (h : ¬ Int32.ofNat L - 7 < nI i) : i + 7 ≤ L := by
  by_cases c : 7 ≤ L
  · have e : Int32.ofNat L - 7 = nI (L - 7) := pk_sub (a := L) (b := 7) c
    rw [e] at h
    have h2 : ¬ L - 7 < i := fun q => h ((nI_ltI (by omega) (by omega)).mpr q)
    omega
  · exfalso
    have hn : (Int32.ofNat L - 7).toInt < 0 := by
      rcases (show L = 0 ∨ L = 1 ∨ L = 2 ∨ L = 3 ∨ L = 4 ∨ L = 5 ∨ L = 6 by omega) with rfl | rfl | rfl | rfl | rfl | rfl | rfl <;> decide
    refine h (Int32.lt_iff_toInt_lt.mpr ?_)
    rw [nI_toInt (by omega)]
    omega
set_option maxHeartbeats 4000000 in
set_option maxRecDepth 100000 in
theorem law_loop {p : Program} {l : Launch} {e : Env} {s : State} {m : MethodId} {below : List Frame} {meth : Method} {c : Code} {D : va_G} {g : Nat → Nat} {o0 x0 m0 : Nat} {ua ub : Nat → Nat → Nat} {uu : Nat → Nat} {b L : Nat} {xs : Nat → Int32} (C : LwC p l s m c D g b L xs) (hr : meth.sig.returnType = ret) (hlocks : meth.locks = false) : ∀ (n i : Nat), L + 1 ≤ i + n → i ≤ L → ∀ (S : KC) (R : KR) (H : Heap) (locs : List Loc) (ls : Array Slot), INV (3000 * i) S R → va_P D vwCl ((w8 g m0 uu R) ++ (wK g o0 x0 ua ub S)) H → va_D (lwA s) ((w8 g m0 uu R) ++ (wK g o0 x0 ua ub S)) → va_S (lwA s) s.heap H locs → lv_has ls 7 [(0, .ref b), (1, .ref x0), (2, .ref m0), (3, .ref o0), (4, .int (nI i))] → W p l e room_1 s m #[Value.ref b] below meth c H locs (200 + i) (40000 + 6 * i) (lw_Z below #[Value.ref b] s) (F0 m 23 ls []) := by
  intro n
  induction n with
  | zero =>
    intro i h1 h2
    exact absurd h1 (by omega)
  | succ n ih =>
    intro i hin hiL S R H locs ls hI hP hD hS hl
    obtain ⟨hx, hb, hml, hown, hts, hX0, hbl, hst, hK, hE, hX, hL⟩ := id C
    have hbA : ¬ lwA s b := Nat.not_le.mpr hbl
    refine lv_iload hx hb dL_law_23 (lv_at hl 4 rfl) ?_
    refine lv_aload_n hx hb dL_law_25 rfl (lv_at hl 0 rfl) ?_
    refine va_slen hx hb hX0 hbl hbA hS dL_law_26 ?_
    refine lv_bipush (v := 7) hx hb dL_law_27 (by decide) ?_
    refine lv_isub hx hb dL_law_29 ?_
    refine lv_icmp_gt (tgt := 1935) hx hb dL_law_30 (by decide) (fun c1 => ?_) (fun c1 => ?_)
    · refine lv_iconst (v := 1) hx hb dL_law_1935 (by decide) ?_
      refine va_forget (fun q hq => hS.2.2 q hq) ?_
      refine W.widen (k := 601024) (n := 7293034) (by omega) (by omega) ?_
      exact lw_ret hx hb hr hlocks dL_law_1936
    · have hi : i + 7 ≤ L := law_le hiL hL c1
      have K : LwK p l e s m below meth c D g o0 x0 m0 ua ub uu b i (lw_Z below #[Value.ref b] s) := by
        intro S R H locs ls hI hP hD hS hl
        refine lv_iinc (v := nI (i + 7)) (lv' := [(4, .int (nI (i + 7))), (0, .ref b), (1, .ref x0), (2, .ref m0), (3, .ref o0)]) hx hb dL_law_1929 hl (k := 4) rfl (by rw [← nI_add]; rfl) (by decide) rfl (fun ls hl => ?_)
        refine lv_goto (tgt := 23) hx hb dL_law_1932 (by decide) ?_
        refine W.widen (k := 200 + (i + 7)) (n := 40000 + 6 * (i + 7)) (by omega) (by omega) ?_
        exact ih (i + 7) (by omega) (by omega) S R H locs ls (kInv.le hI (by omega)) hP hD hS (lv_sub hl [1, 2, 3, 4, 0] rfl)
      refine lv_aload_n hx hb dL_law_33 rfl (lv_at hl 0 rfl) ?_
      refine lv_iload hx hb dL_law_34 (lv_at hl 4 rfl) ?_
      refine va_sld (i := nI i) hx hb hX0 hbl hbA hS (vp_in_nI (by omega) (by omega)) dL_law_36 ?_
      refine lv_bipush (v := 31) hx hb dL_law_37 (by decide) ?_
      refine lv_iand hx hb dL_law_39 ?_
      refine lv_topi (fun x9 ex9 => ?_)
      clear ex9
      rcases law_sw x9 with h9 | h9 | h9 | h9 | h9 | h9 | h9 | h9 | h9 | h9 | h9 | h9 | h9 | h9 | h9 | h9 | h9 | h9 | h9 | h9 | h9 | h9 | h9 | h9 | h9 | h9 | h9
      · refine lv_tableOut (tgt := 1929) hx hb dL_law_40 h9 (by decide) ?_
        refine W.widen (k := 200 + i + 1) (n := 40000 + 6 * i + 6) (by omega) (by omega) ?_
        exact K S R H locs ls (kInv.le hI (by omega)) hP hD hS hl
      · exact k_tabIn (off := 120) (tgt := 160) hx hb dL_law_40 h9 (by decide) (by decide) rfl (by decide) (law_0 C hi K hI hP hD hS hl)
      · exact k_tabIn (off := 176) (tgt := 216) hx hb dL_law_40 h9 (by decide) (by decide) rfl (by decide) (law_1 C hi K hI hP hD hS hl)
      · exact k_tabIn (off := 189) (tgt := 229) hx hb dL_law_40 h9 (by decide) (by decide) rfl (by decide) (law_2 C hi K hI hP hD hS hl)
      · exact k_tabIn (off := 202) (tgt := 242) hx hb dL_law_40 h9 (by decide) (by decide) rfl (by decide) (law_3 C hi K hI hP hD hS hl)
      · exact k_tabIn (off := 246) (tgt := 286) hx hb dL_law_40 h9 (by decide) (by decide) rfl (by decide) (law_4 C hi K hI hP hD hS hl)
      · exact k_tabIn (off := 302) (tgt := 342) hx hb dL_law_40 h9 (by decide) (by decide) rfl (by decide) (law_5 C hi K hI hP hD hS hl)
      · exact k_tabIn (off := 370) (tgt := 410) hx hb dL_law_40 h9 (by decide) (by decide) rfl (by decide) (law_6 C hi K hI hP hD hS hl)
      · exact k_tabIn (off := 450) (tgt := 490) hx hb dL_law_40 h9 (by decide) (by decide) rfl (by decide) (law_7 C hi K hI hP hD hS hl)
      · exact k_tabIn (off := 518) (tgt := 558) hx hb dL_law_40 h9 (by decide) (by decide) rfl (by decide) (law_8 C hi K hI hP hD hS hl)
      · exact k_tabIn (off := 586) (tgt := 626) hx hb dL_law_40 h9 (by decide) (by decide) rfl (by decide) (law_9 C hi K hI hP hD hS hl)
      · exact k_tabIn (off := 666) (tgt := 706) hx hb dL_law_40 h9 (by decide) (by decide) rfl (by decide) (law_10 C hi K hI hP hD hS hl)
      · exact k_tabIn (off := 734) (tgt := 774) hx hb dL_law_40 h9 (by decide) (by decide) rfl (by decide) (law_11 C hi K hI hP hD hS hl)
      · exact k_tabIn (off := 838) (tgt := 878) hx hb dL_law_40 h9 (by decide) (by decide) rfl (by decide) (law_12 C hi K hI hP hD hS hl)
      · exact k_tabIn (off := 956) (tgt := 996) hx hb dL_law_40 h9 (by decide) (by decide) rfl (by decide) (law_13 C hi K hI hP hD hS hl)
      · exact k_tabIn (off := 1024) (tgt := 1064) hx hb dL_law_40 h9 (by decide) (by decide) rfl (by decide) (law_14 C hi K hI hP hD hS hl)
      · exact k_tabIn (off := 1092) (tgt := 1132) hx hb dL_law_40 h9 (by decide) (by decide) rfl (by decide) (law_15 C hi K hI hP hD hS hl)
      · exact k_tabIn (off := 1136) (tgt := 1176) hx hb dL_law_40 h9 (by decide) (by decide) rfl (by decide) (law_16 C hi K hI hP hD hS hl)
      · exact k_tabIn (off := 1216) (tgt := 1256) hx hb dL_law_40 h9 (by decide) (by decide) rfl (by decide) (law_17 C hi K hI hP hD hS hl)
      · exact k_tabIn (off := 1308) (tgt := 1348) hx hb dL_law_40 h9 (by decide) (by decide) rfl (by decide) (law_18 C hi K hI hP hD hS hl)
      · exact k_tabIn (off := 1321) (tgt := 1361) hx hb dL_law_40 h9 (by decide) (by decide) rfl (by decide) (law_19 C hi K hI hP hD hS hl)
      · exact k_tabIn (off := 1401) (tgt := 1441) hx hb dL_law_40 h9 (by decide) (by decide) rfl (by decide) (law_20 C hi K hI hP hD hS hl)
      · exact k_tabIn (off := 1481) (tgt := 1521) hx hb dL_law_40 h9 (by decide) (by decide) rfl (by decide) (law_21 C hi K hI hP hD hS hl)
      · exact k_tabIn (off := 1577) (tgt := 1617) hx hb dL_law_40 h9 (by decide) (by decide) rfl (by decide) (law_22 C hi K hI hP hD hS hl)
      · exact k_tabIn (off := 1677) (tgt := 1717) hx hb dL_law_40 h9 (by decide) (by decide) rfl (by decide) (law_23 C hi K hI hP hD hS hl)
      · exact k_tabIn (off := 1777) (tgt := 1817) hx hb dL_law_40 h9 (by decide) (by decide) rfl (by decide) (law_24 C hi K hI hP hD hS hl)
      · exact k_tabIn (off := 1833) (tgt := 1873) hx hb dL_law_40 h9 (by decide) (by decide) rfl (by decide) (law_25 C hi K hI hP hD hS hl)
section KN
variable {D : va_G} {A : Nat → Prop} {H : Heap} {L a b X Y P B O : va_W}
theorem k_swPn (h : va_P D vwCl (L ++ (a ++ b)) H) : va_P D vwCl (L ++ (b ++ a)) H := fun k q hk => by
  by_cases c : k < L.length
  · rw [List.getElem?_append_left c] at hk
    exact h k q (by rw [List.getElem?_append_left c]; exact hk)
  · rw [List.getElem?_append_right (by omega)] at hk
    exact h _ q (k_suf (k_swI hk))
theorem k_swDn (h : va_D A (L ++ (a ++ b))) : va_D A (L ++ (b ++ a)) := by
  have inL : ∀ {k : Nat} {q : Nat × va_E}, L[k]? = some q → (L ++ (a ++ b))[k]? = some q := fun {k q} hk => by rw [List.getElem?_append_left (List.getElem?_eq_some_iff.mp hk).1]; exact hk
  have h2 : va_D A (a ++ b) := ⟨fun i j p q hi hj e => by have := h.1 _ _ p q (k_suf hi) (k_suf hj) e; omega, fun k q hk => h.2 _ q (k_suf hk)⟩
  refine va_D.app ⟨fun i j p q hi hj e => h.1 i j p q (inL hi) (inL hj) e, fun k q hk => h.2 k q (inL hk)⟩ (k_swD h2) (fun i j x y hx hy hxy => ?_)
  have h3 := h.1 _ _ x y (inL hx) (k_suf (k_swI hy)) hxy
  have h4 := (List.getElem?_eq_some_iff.mp hx).1
  omega
theorem k_arrP (hP : va_P D vwCl (((X ++ (P ++ Y)) ++ B) ++ O) H) : va_P D vwCl (B ++ ((O ++ (X ++ Y)) ++ P)) H := by
  have h1 := k_swP hP
  have h2 : va_P D vwCl ((O ++ (X ++ (P ++ Y))) ++ B) H := by rw [List.append_assoc]; exact h1
  have h3 := k_swP h2
  have h4 : va_P D vwCl ((B ++ (O ++ X)) ++ (P ++ Y)) H := by rw [List.append_assoc, List.append_assoc]; exact h3
  have h5 := k_swPn h4
  have h6 : (B ++ (O ++ X)) ++ (Y ++ P) = B ++ ((O ++ (X ++ Y)) ++ P) := by simp only [List.append_assoc]
  rw [h6] at h5
  exact h5
theorem k_arrD (hD : va_D A (((X ++ (P ++ Y)) ++ B) ++ O)) : va_D A (B ++ ((O ++ (X ++ Y)) ++ P)) := by
  have h1 := k_swD hD
  have h2 : va_D A ((O ++ (X ++ (P ++ Y))) ++ B) := by rw [List.append_assoc]; exact h1
  have h3 := k_swD h2
  have h4 : va_D A ((B ++ (O ++ X)) ++ (P ++ Y)) := by rw [List.append_assoc, List.append_assoc]; exact h3
  have h5 := k_swDn h4
  have h6 : (B ++ (O ++ X)) ++ (Y ++ P) = B ++ ((O ++ (X ++ Y)) ++ P) := by simp only [List.append_assoc]
  rw [h6] at h5
  exact h5
end KN
def wX (g : Nat → Nat) (x0 : Nat) (ua ub : Nat → Nat → Nat) : va_W := List.append [(x0, .inr (7, [.ref (ua 0 0), .ref (ua 1 0), .ref (ua 2 0), .ref (ua 3 0), .ref (ua 4 0), .ref (ua 5 0), .ref (ua 6 0)])), (ua 0 0, .inr (6, [.ref (ua 0 1), .int 0])), (ua 0 1, .inl (g 1, 120, .inl (fun _ => 0)))] (List.append (wPl g (ua 1) kNew) (List.append (wPl g (ua 2) kNew) (List.append (wPl g (ua 3) kNew) [(ua 4 0, .inr (3, [.ref (ua 4 1), .int 0, .int 0])), (ua 4 1, .inl (g 3, 14, .inr (.inr (.inr (.inr (fun j => some (ub j 0)))))))])))
def wY (g : Nat → Nat) (ua : Nat → Nat → Nat) : va_W := List.append [(ua 5 0, .inl (g 3, 2, .inr (.inr (.inr (.inr (fun j => some (ua (7 + j) 0))))))), (ua 6 0, .inl (g 2, 2, .inl (fun _ => 0)))] (List.append (wPl g (ua 7) kNew) (wPl g (ua 8) kNew))
theorem w7_eq (g : Nat → Nat) (x0 : Nat) (ua ub : Nat → Nat → Nat) : w7new g x0 (ua, ub) = wX g x0 ua ub ++ (wPool g ub (fun _ => kNew) ++ wY g ua) := rfl
theorem inv_new : INV (3000 * 0) (0, fun _ => 0, kNew, kNew, kNew, 0, 0, fun _ => kNew, kNew, kNew, fun _ => 0, fun _ => 0) (0, 0, 0, 0, 0, 0, fun _ => 0, fun _ => 0, fun _ => 0, fun _ => 0, fun _ => 0, fun _ => 0, fun _ => 0, fun _ => 0, fun _ => 0, fun _ => 0) := by
  have hp : pPlan kNew (fun _ => 0) := ⟨0, rfl, pRel_new⟩
  exact ⟨rfl, rfl, by decide, hp, ⟨by decide, rfl, by decide, fun k hk => absurd hk (Nat.not_lt_zero _)⟩, rfl, fun q => absurd rfl q, fun q => absurd rfl q, pBd_0, fun k hk => absurd hk (Nat.not_lt_zero _), fun j _ q => absurd rfl q⟩
set_option maxHeartbeats 4000000 in
set_option maxRecDepth 100000 in
theorem whole_start {p : Program} {e : Env} {s : State} {m : MethodId} {below : List Frame} {meth : Method} {c : Code} (l : Launch) (hflags : l.flags = flags0) {b L : Nat} {xs : Nat → Int32} (hL : L ≤ 3584) (C0 : lw_At p s m meth c b L xs) : W p l e room_1 s m #[Value.ref b] below meth c s.heap [] 0 0 (lw_Z below #[Value.ref b] s) (entryFrame m ([Value.ref b] : List Value).toArray 7) := by
  obtain ⟨hx, hb, hr, hml, hown, htsT, hX0, hbl, hlocks, hgv⟩ := C0
  have hst : l.stackTraces = false := by
    unfold Launch.stackTraces
    rw [hflags]
    decide +kernel
  obtain ⟨D, g, hK, hE, hX, hO⟩ := law_env htsT hgv
  have hown : s.vm.findClass RL = some m.cls := hown
  have hts : ∀ w ∈ wsL_law, w.before #[Value.ref b] s = true := fun w h => htsT w (wsL_law_in w h)
  have hA : ∀ q : Nat, s.heap.size ≤ q → lwA s q := fun _ h => h
  have hS : va_S (lwA s) s.heap s.heap [] := va_S.rf
  have hP : va_P D vwCl [] s.heap := fun k q h => by simp at h
  have hD : va_D (lwA s) [] := ⟨fun i j p q h => by simp at h, fun k q h => by simp at h⟩
  have hl := lv_entry ([.ref b]) (n := 7) (Nat.le_of_ble_eq_true rfl)
  rw [lg_entry_eq]
  generalize (lg_sl ([.ref b]) ++ List.replicate (7 - (lg_sl ([.ref b])).length) Slot.unset).toArray = ls at hl ⊢
  have hl : lv_has ls 7 [(0, .ref b)] := hl
  refine va_new (ci := 7) (fs := [.null, .null, .null, .null, .null, .null, .null]) (C := RX7) (T := TX7) (N := 7) hx hb hts inlX7 tyX7 tyX7_ok hown (hts _ (List.mem_append_left _ (List.mem_append_left _ (List.mem_append_left _ (List.mem_append_left _ (List.mem_append_left _ (List.mem_append_left _ (List.mem_append_left _ (List.mem_append_left _ (List.mem_append_left _ (List.mem_append_left _ (List.mem_append_left _ (List.mem_append_left _ (List.mem_append_left _ (List.mem_append_left _ (List.mem_of_getElem? (i := 0) rfl)))))))))))))))) (hts _ (List.mem_append_left _ (List.mem_append_left _ (List.mem_append_left _ (List.mem_append_left _ (List.mem_append_left _ (List.mem_append_left _ (List.mem_append_left _ (List.mem_append_left _ (List.mem_append_left _ (List.mem_append_left _ (List.mem_append_left _ (List.mem_append_left _ (List.mem_append_left _ (List.mem_append_left _ (List.mem_of_getElem? (i := 1) rfl)))))))))))))))) (hts _ (List.mem_append_left _ (List.mem_append_left _ (List.mem_append_left _ (List.mem_append_left _ (List.mem_append_left _ (List.mem_append_left _ (List.mem_append_left _ (List.mem_append_left _ (List.mem_append_left _ (List.mem_append_left _ (List.mem_append_left _ (List.mem_append_left _ (List.mem_append_left _ (List.mem_append_left _ (List.mem_of_getElem? (i := 2) rfl)))))))))))))))) hK hP hD hS hA rfl (fun j hj => by rcases (show j = 0 ∨ j = 1 ∨ j = 2 ∨ j = 3 ∨ j = 4 ∨ j = 5 ∨ j = 6 by omega) with rfl | rfl | rfl | rfl | rfl | rfl | rfl <;> rfl) (Nat.le_of_ble_eq_true rfl) (Nat.le_of_ble_eq_true rfl) dL_law_0 (fun x0 H hP hD hS => ?_)
  refine lv_dup hx hb dL_law_3 rfl ?_
  refine k_ave (wa := []) (wc := [(x0, .inr (7, [.null, .null, .null, .null, .null, .null, .null]))]) (S := ((Nat → Nat → Nat) × (Nat → Nat → Nat))) (px := (fun _ : (Nat → Nat → Nat) × (Nat → Nat → Nat) => True)) (w1 := (fun u : (Nat → Nat → Nat) × (Nat → Nat → Nat) => w7new g x0 u)) (va_runI (As := []) (rest := [.ref x0]) ⟨hx, hb, hml, hown, hts⟩ (c_X7_init l D g x0 H.size) (cwI 0 hts gL_law_X7_init rfl rfl rfl (hts _ (List.mem_append_left _ (List.mem_append_left _ (List.mem_append_left _ (List.mem_append_left _ (List.mem_append_left _ (List.mem_append_left _ (List.mem_append_left _ (List.mem_append_left _ (List.mem_append_left _ (List.mem_append_left _ (List.mem_append_left _ (List.mem_append_left _ (List.mem_append_left _ (List.mem_append_left _ (List.mem_of_getElem? (i := 2) rfl)))))))))))))))) (hts _ (List.mem_append_left _ (List.mem_append_left _ (List.mem_append_left _ (List.mem_append_left _ (List.mem_append_left _ (List.mem_append_left _ (List.mem_append_left _ (List.mem_append_left _ (List.mem_append_left _ (List.mem_append_left _ (List.mem_append_left _ (List.mem_append_left _ (List.mem_append_left _ (List.mem_append_left _ (List.mem_of_getElem? (i := 8) rfl)))))))))))))))) (hts _ (List.mem_append_left _ (List.mem_append_left _ (List.mem_append_left _ (List.mem_append_left _ (List.mem_append_left _ (List.mem_append_left _ (List.mem_append_left _ (List.mem_append_left _ (List.mem_append_left _ (List.mem_append_left _ (List.mem_append_left _ (List.mem_append_left _ (List.mem_append_left _ (List.mem_append_left _ (List.mem_of_getElem? (i := 9) rfl)))))))))))))))) rfl (by decide +kernel) ⟨Nat.le_of_ble_eq_true rfl, Nat.le_of_ble_eq_true rfl⟩) (kPSsA (wa := []) hP hD hK hS hA hE hO) rfl rfl hl.1 rfl (lv_room (Nat.le_of_ble_eq_true rfl)) dL_law_4 ⟨Nat.le_of_ble_eq_true rfl, Nat.le_of_ble_eq_true rfl⟩) hP hD hS hA (fun u7 H locs hpx hP hD hS => ?_)
  obtain ⟨ua, ub⟩ := u7
  have hP : va_P D vwCl (w7new g x0 (ua, ub)) H := hP
  have hD : va_D (lwA s) (w7new g x0 (ua, ub)) := hD
  refine lv_astore_n (lv' := [(1, .ref x0), (0, .ref b)]) hx hb dL_law_7 rfl hl (by decide) rfl (fun ls hl => ?_)
  refine va_new (ci := 8) (fs := [.int 0, .null, .int 0, .int 0, .int 0, .int 0, .null, .null, .null, .null, .int 0, .null, .null, .null, .null, .null]) (C := RX8) (T := TX8) (N := 16) hx hb hts inlX8 tyX8 tyX8_ok hown (hts _ (List.mem_append_left _ (List.mem_append_left _ (List.mem_append_left _ (List.mem_append_left _ (List.mem_append_left _ (List.mem_append_left _ (List.mem_append_left _ (List.mem_append_left _ (List.mem_append_left _ (List.mem_append_left _ (List.mem_append_left _ (List.mem_append_left _ (List.mem_append_left _ (List.mem_append_left _ (List.mem_of_getElem? (i := 3) rfl)))))))))))))))) (hts _ (List.mem_append_left _ (List.mem_append_left _ (List.mem_append_left _ (List.mem_append_left _ (List.mem_append_left _ (List.mem_append_left _ (List.mem_append_left _ (List.mem_append_left _ (List.mem_append_left _ (List.mem_append_left _ (List.mem_append_left _ (List.mem_append_left _ (List.mem_append_left _ (List.mem_append_left _ (List.mem_of_getElem? (i := 4) rfl)))))))))))))))) (hts _ (List.mem_append_left _ (List.mem_append_left _ (List.mem_append_left _ (List.mem_append_left _ (List.mem_append_left _ (List.mem_append_left _ (List.mem_append_left _ (List.mem_append_left _ (List.mem_append_left _ (List.mem_append_left _ (List.mem_append_left _ (List.mem_append_left _ (List.mem_append_left _ (List.mem_append_left _ (List.mem_of_getElem? (i := 5) rfl)))))))))))))))) hK hP hD hS hA rfl (fun j hj => by rcases (show j = 0 ∨ j = 1 ∨ j = 2 ∨ j = 3 ∨ j = 4 ∨ j = 5 ∨ j = 6 ∨ j = 7 ∨ j = 8 ∨ j = 9 ∨ j = 10 ∨ j = 11 ∨ j = 12 ∨ j = 13 ∨ j = 14 ∨ j = 15 by omega) with rfl | rfl | rfl | rfl | rfl | rfl | rfl | rfl | rfl | rfl | rfl | rfl | rfl | rfl | rfl | rfl <;> rfl) (Nat.le_of_ble_eq_true rfl) (Nat.le_of_ble_eq_true rfl) dL_law_8 (fun m0 H hP hD hS => ?_)
  refine lv_dup hx hb dL_law_11 rfl ?_
  refine k_ave (wa := (w7new g x0 (ua, ub))) (wc := [(m0, .inr (8, [.int 0, .null, .int 0, .int 0, .int 0, .int 0, .null, .null, .null, .null, .int 0, .null, .null, .null, .null, .null]))]) (S := (Nat → Nat)) (px := (fun _ : Nat → Nat => True)) (w1 := (fun u : Nat → Nat => w8new g m0 u)) (va_runI (As := []) (rest := [.ref m0]) ⟨hx, hb, hml, hown, hts⟩ (c_X8_init l D g m0 H.size) (cwI 0 hts gL_law_X8_init rfl rfl rfl (hts _ (List.mem_append_left _ (List.mem_append_left _ (List.mem_append_left _ (List.mem_append_left _ (List.mem_append_left _ (List.mem_append_left _ (List.mem_append_left _ (List.mem_append_left _ (List.mem_append_left _ (List.mem_append_left _ (List.mem_append_left _ (List.mem_append_left _ (List.mem_append_left _ (List.mem_append_left _ (List.mem_of_getElem? (i := 5) rfl)))))))))))))))) (hts _ (List.mem_append_left _ (List.mem_append_left _ (List.mem_append_left _ (List.mem_append_left _ (List.mem_append_left _ (List.mem_append_left _ (List.mem_append_left _ (List.mem_append_left _ (List.mem_append_left _ (List.mem_append_left _ (List.mem_append_left _ (List.mem_append_left _ (List.mem_append_left _ (List.mem_append_right _ (List.mem_append_right _ (List.mem_append_left _ (List.mem_of_getElem? (i := 20) rfl)))))))))))))))))) (hts _ (List.mem_append_left _ (List.mem_append_left _ (List.mem_append_left _ (List.mem_append_left _ (List.mem_append_left _ (List.mem_append_left _ (List.mem_append_left _ (List.mem_append_left _ (List.mem_append_left _ (List.mem_append_left _ (List.mem_append_left _ (List.mem_append_left _ (List.mem_append_left _ (List.mem_append_right _ (List.mem_append_right _ (List.mem_append_left _ (List.mem_of_getElem? (i := 21) rfl)))))))))))))))))) rfl (by decide +kernel) ⟨Nat.le_of_ble_eq_true rfl, Nat.le_of_ble_eq_true rfl⟩) (kPSs (wa := (w7new g x0 (ua, ub))) hP hD hK hS hA hE) rfl rfl hl.1 rfl (lv_room (Nat.le_of_ble_eq_true rfl)) dL_law_12 ⟨Nat.le_of_ble_eq_true rfl, Nat.le_of_ble_eq_true rfl⟩) hP hD hS hA (fun uu H locs hpx hP hD hS => ?_)
  refine lv_astore_n (lv' := [(2, .ref m0), (1, .ref x0), (0, .ref b)]) hx hb dL_law_15 rfl hl (by decide) rfl (fun ls hl => ?_)
  refine lv_iconst (v := 1) hx hb dL_law_16 (by decide) ?_
  refine k_newl hx hb 4 (hts _ (List.mem_append_left _ (List.mem_append_left _ (List.mem_append_left _ (List.mem_append_left _ (List.mem_append_left _ (List.mem_append_left _ (List.mem_append_left _ (List.mem_append_left _ (List.mem_append_left _ (List.mem_append_left _ (List.mem_append_left _ (List.mem_append_left _ (List.mem_append_left _ (List.mem_append_left _ (List.mem_of_getElem? (i := 6) rfl)))))))))))))))) hK rfl hP hD hS hA (n := 1) (N' := 1) (by decide) (by decide) (Nat.le_of_ble_eq_true rfl) (Nat.le_of_ble_eq_true rfl) (Nat.le_of_ble_eq_true rfl) dL_law_17 (fun o0 H hP hD hS => ?_)
  refine lv_astore_n (lv' := [(3, .ref o0), (2, .ref m0), (1, .ref x0), (0, .ref b)]) hx hb dL_law_19 rfl hl (by decide) rfl (fun ls hl => ?_)
  refine lv_iconst (v := 0) hx hb dL_law_20 (by decide) ?_
  refine lv_istore (lv' := [(4, .int 0), (3, .ref o0), (2, .ref m0), (1, .ref x0), (0, .ref b)]) hx hb dL_law_21 hl (by decide) rfl (fun ls hl => ?_)
  refine W.widen (k := 200 + 0) (n := 40000 + 6 * 0) (Nat.le_of_ble_eq_true rfl) (Nat.le_of_ble_eq_true rfl) ?_
  rw [w7_eq] at hP hD
  have hP := k_arrP hP
  have hD := k_arrD hD
  have hP : va_P D vwCl ((w8 g m0 uu (0, 0, 0, 0, 0, 0, fun _ => 0, fun _ => 0, fun _ => 0, fun _ => 0, fun _ => 0, fun _ => 0, fun _ => 0, fun _ => 0, fun _ => 0, fun _ => 0)) ++ (wK g o0 x0 ua ub (0, fun _ => 0, kNew, kNew, kNew, 0, 0, fun _ => kNew, kNew, kNew, fun _ => 0, fun _ => 0))) H := hP
  have hD : va_D (lwA s) ((w8 g m0 uu (0, 0, 0, 0, 0, 0, fun _ => 0, fun _ => 0, fun _ => 0, fun _ => 0, fun _ => 0, fun _ => 0, fun _ => 0, fun _ => 0, fun _ => 0, fun _ => 0)) ++ (wK g o0 x0 ua ub (0, fun _ => 0, kNew, kNew, kNew, 0, 0, fun _ => kNew, kNew, kNew, fun _ => 0, fun _ => 0))) := hD
  exact law_loop (L := L) ⟨hx, hb, hml, hown, hts, hX0, hbl, hst, hK, hE, hX, hL⟩ hr hlocks (L + 1) 0 (by omega) (Nat.zero_le L) _ _ _ _ ls inv_new hP hD hS (lv_sub hl [4, 3, 2, 1, 0] rfl)
set_option maxHeartbeats 4000000 in
theorem lw_walk (l : Launch) (hflags : l.flags = flags0) (b : Addr) (xs : List Int32) : MetFree l x (headSpec (Jvm.Cond.code x code maxLocals ret :: tables_1) room_1) (lw_P b xs) (fun _ _ _ _ _ => True) lw_Q := by
  refine MetFree.of_bodyS (code := code) (maxLocals := maxLocals) (ret := ret) (by decide) ?_ ?_
  · intro args s m h hn
    obtain ⟨meth, c, h1, h2, h3, h4, h5, h6, -, -⟩ := Cond.code_spec hn (atoms_spec (ws := Jvm.Cond.code x code maxLocals ret :: tables_1) h _ List.mem_cons_self)
    exact ⟨meth, c, h1, h2, h3, h4, h5, h6⟩
  · intro p e s m args below meth c s₁ B hml0 hP _
    obtain ⟨rfl, hx, hbd, hgv⟩ := hP
    obtain ⟨scr, harrAt, hlist, hof, hsmall⟩ := hx
    obtain ⟨hcb, hkn, -, -⟩ := State.arrayAt?_spec harrAt
    have hown : s.vm.findClass R_law = some m.cls := findClass_of_methodNamed B.named
    have hts0 : ∀ c ∈ (Jvm.Cond.code x code maxLocals ret :: tables_1), c.before #[Value.ref b] s = true := atoms_spec (ws := Jvm.Cond.code x code maxLocals ret :: tables_1) B.pre
    have hts : ∀ w ∈ lw_tbl, w.before #[Value.ref b] s = true := k2_hts_sels lw_privs (fun w hw => hts0 w (List.mem_cons_of_mem _ hw)) lw_privs_ok
    have hml : c.maxLocals = 7 := B.maxLocals_eq (hts0 _ List.mem_cons_self)
    have X₀ : Stand p l e room_1 s m #[Value.ref b] below meth c s₁ [] 0 0 := Stand.of_body B
    have hh0 : s₁.heap = s.heap := by rw [B.state]; rfl
    have hsz : scr.slots.size = xs.length := by rw [← Array.length_toList, hlist, List.length_map]
    have hval : ∀ j : Nat, j < xs.length → scr.slots[j]? = some (.int (xs.getD j 0)) := fun j hj => by
      rw [← Array.getElem?_toList, hlist]
      simp [hj]
    have hbl : b < s.heap.size := (Array.getElem?_eq_some_iff.mp hcb).1
    have hX : va_X b xs.length (fun j => xs.getD j 0) s s.heap := ⟨scr, hcb, hof, hkn, hsz, hval⟩
    have K : W p l e room_1 s m #[Value.ref b] below meth c s₁.heap [] 0 0 (lw_Z below #[Value.ref b] s) (entryFrame m ([Value.ref b] : List Value).toArray 7) := by
      rw [hh0]
      exact whole_start l hflags hbd ⟨B.exec, B.bytes, B.returns, hml, hown, hts, hX, hbl, B.notSynchronized, hgv⟩
    obtain ⟨t, a1, o, b1, b2, b3⟩ := K s₁ rfl X₀
    exact ⟨t, o, a1, b1, b2, b3⟩
theorem lw_pre_spec {args : Array Value} {s : State} (h : (Jvm.Cond.and given_1 narrow_1).before args s = true) (hr : rest_1_c.before args s = true) : ∃ (b : Addr) (xs : List Int32), lw_P b xs args s := by
  have hs := flat_of_before _ h
  have hq := flat_of_before _ hr
  have hc : (Cond.count 1).before args s = true := hs _ (by decide +kernel)
  have harr : (Cond.arrayOf (.arg 0) .int).before args s = true := hs _ (by decide +kernel)
  have hle : (Cond.le (.length (.arg 0)) (.int 3584)).before args s = true := hs _ (by decide +kernel)
  have hlen : (Cond.isInt (.length (.arg 0))).before args s = true := hq _ (by decide +kernel)
  have hall : (Cond.all (.arg 0) (.isInt (.elem (.arg 0) (.index 0)))).before args s = true := hq _ (by decide +kernel)
  obtain ⟨b, xs, hb, hx⟩ := State.ints_of_pre rfl harr hlen hall
  have hsm : xs.length < 2 ^ 31 := hx.choose_spec.2.2.2
  have hev : (Term.length (.arg 0)).eval args s none [] s = some (.int xs.length.toInt32) := hx.length_eval hb
  have hv := Cond.le_ints hev (show (Term.int 3584).eval args s none [] s = some (.int 3584) from rfl)
  have hd : xs.length.toInt32 ≤ 3584 := by
    simpa [Cond.before, Cond.holds, hv] using hle
  have hN : xs.length ≤ 3584 := (Int32.ofNat_le_ofNat hsm (by decide)).mp (show Int32.ofNat xs.length ≤ Int32.ofNat 3584 from hd)
  exact ⟨b, xs, Cond.one_arg hc (show args[0]? = some (.ref b) from hb), hx, hN, h⟩
theorem lw_comes (l : Launch) (hflags : l.flags = flags0) : Comes l x (Jvm.Cond.code x code maxLocals ret :: tables_1) room_1 (fun tb e args s => Calls_1 tb e args s ∧ rest_1 tb e args s ∧ Pre_1 tb e args s)
    (fun _ _ args s o t => lw_Q args s o t) := by
  intro p e ha hc hk s m args below hf hfit hheap happ hpre
  obtain ⟨b, xs, hP⟩ := lw_pre_spec hpre.2.2 hpre.2.1
  obtain ⟨k, o, h1, h2, h3, hQ⟩ := lw_walk l hflags b xs p e ha hc hk s m args below hf ((Spec.applies_iff_loose hf).mp happ).1 hP trivial
  exact ⟨k, o, h1, h2, h3, hQ⟩
theorem lw_frame {s t : State} {o : Outcome} {args : Array Value} (h : Framed s o t [] 601024 7293034) :
    Framed s o t (fieldLocs frame_1_writes args s ++ arrayLocs frame_1_arrays args s ++ staticLocs frame_1_statics s) 601024 7293034 := h
theorem lw_limb (L : Cond) (hL : ∀ (args : Array Value) (s t : State), L.after args s (.returned (some (.int 1))) t = true) :
    ArmFor flags0 classFile x code maxLocals ret World_1 tables_1 room_1 Calls_1 rest_1 Pre_1
      (fun tb e a s o t => postC L tb e a s o t ∧ Framed s o t (fieldLocs frame_1_writes a s ++ arrayLocs frame_1_arrays a s ++ staticLocs frame_1_statics s) 601024 7293034) := by
  intro l hflags _ _ p e ha hc hk s m args below hf hfit hheap happ hpre
  obtain ⟨k, o, h1, h2, h3, rfl, hF⟩ := lw_comes l hflags p e ha hc hk s m args below hf hfit hheap happ hpre
  exact ⟨k, _, h1, h2, h3, hL args s _, lw_frame hF⟩
theorem i_vc : Claimed_1_1 ∧ Claimed_1_2 := ⟨lw_limb limb_1_1 (fun args s t => by simp [limb_1_1, Cond.after, Cond.holds, Cond.value]), lw_limb limb_1_2 (fun args s t => Cond.after_iff.mpr (by
  first | (rw [show limb_1_2 = Cond.eq .result (.int 1) from rfl, Cond.eq_ints (x := 1) (y := 1) rfl rfl]; simp; done) | (simp [limb_1_2, Cond.value, Term.eval]; done)))⟩
end
