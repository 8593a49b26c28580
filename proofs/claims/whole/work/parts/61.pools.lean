-- MODULE: pools of plans; Memory (X3), Script (X5)
noncomputable section
/-- a plan's six cells, at the addresses a 0 .. a 5 -/
def wPl (g : Nat → Nat) (a : Nat → Nat) (v : KPV) : va_W := [((a 0), .inr (4, [.ref (a 2), .ref (a 4), .ref (a 1), .int v.1, .int v.2.1, .int v.2.2.1, .int v.2.2.2.1, .int v.2.2.2.2.1, .int v.2.2.2.2.2.1])), ((a 1), .inl (g 0, 80, .inl (v.2.2.2.2.2.2.1))), ((a 2), .inr (1, [.ref (a 3)])), ((a 3), .inl (g 0, 480, .inl (v.2.2.2.2.2.2.2.1))), ((a 4), .inr (0, [.ref (a 5), .int v.2.2.2.2.2.2.2.2.1])), ((a 5), .inl (g 0, 60, .inl (v.2.2.2.2.2.2.2.2.2)))]
/-- the plans that are remembered -/
def wPool (g : Nat → Nat) (ad : Nat → Nat → Nat) (pl : Nat → KPV) : va_W := wPl g (ad 0) (pl 0) ++ (wPl g (ad 1) (pl 1) ++ (wPl g (ad 2) (pl 2) ++ (wPl g (ad 3) (pl 3) ++ (wPl g (ad 4) (pl 4) ++ (wPl g (ad 5) (pl 5) ++ (wPl g (ad 6) (pl 6) ++ (wPl g (ad 7) (pl 7) ++ (wPl g (ad 8) (pl 8) ++ (wPl g (ad 9) (pl 9) ++ (wPl g (ad 10) (pl 10) ++ (wPl g (ad 11) (pl 11) ++ (wPl g (ad 12) (pl 12) ++ (wPl g (ad 13) (pl 13))))))))))))))
def updP (pl : Nat → KPV) (i : Nat) (v : KPV) : Nat → KPV := fun j => cond (Nat.beq j i) v (pl j)
theorem updP_s (pl : Nat → KPV) (i : Nat) (v : KPV) : updP pl i v i = v := by
  unfold updP
  rw [show Nat.beq i i = true from Nat.beq_refl i]
  rfl
theorem updP_n {pl : Nat → KPV} {i j : Nat} {v : KPV} (h : j ≠ i) : updP pl i v j = pl j := by
  unfold updP
  rw [show Nat.beq j i = false from by
    cases hb : Nat.beq j i with
    | false => rfl
    | true => exact absurd (Nat.eq_of_beq_eq_true hb) h]
  rfl
def kInL (a : Nat) : List Nat → Bool
  | [] => false
  | b :: l => Nat.beq a b || kInL a l
def kDj : List Nat → List Nat → Bool
  | [], _ => true
  | a :: l, c => !(kInL a c) && kDj l c
theorem kInL_of {a : Nat} : ∀ l : List Nat, a ∈ l → kInL a l = true := by
  intro l
  induction l with
  | nil => intro h; cases h
  | cons b l ih =>
    intro h
    unfold kInL
    rcases List.mem_cons.mp h with rfl | h
    · rw [Nat.beq_refl]; rfl
    · rw [ih h, Bool.or_true]
theorem k_dis {isR isC : List Nat} (h : kDj isR isC = true) : ∀ i ∈ isR, i ∉ isC := by
  induction isR with
  | nil => intro i hi; cases hi
  | cons a l ih =>
    unfold kDj at h
    rw [Bool.and_eq_true] at h
    intro i hi hc
    rcases List.mem_cons.mp hi with rfl | hi
    · rw [kInL_of _ hc] at h; exact absurd h.1 (by decide)
    · exact ih h.2 i hi hc
set_option maxRecDepth 100000 in
theorem c_poolIn_0 (l : Launch) (D : va_G) (g : Nat → Nat) (ad : Nat → Nat → Nat) (p0 c0 b0 p1 c1 b1 : Nat) (sz : Nat) (v : KPV) (pl : Nat → KPV) : kMv l D g yX4_copyFrom wsX4_copyFrom 2 0 0 [.ref (ad 0 0), .ref p0] (List.append [(p0, .inr (4, [.ref c0, .ref b0, .ref p1, .int v.1, .int v.2.1, .int v.2.2.1, .int v.2.2.2.1, .int v.2.2.2.2.1, .int v.2.2.2.2.2.1])), (p1, .inl (g 0, 80, .inl (v.2.2.2.2.2.2.1))), (c0, .inr (1, [.ref c1])), (c1, .inl (g 0, 480, .inl (v.2.2.2.2.2.2.2.1))), (b0, .inr (0, [.ref b1, .int v.2.2.2.2.2.2.2.2.1])), (b1, .inl (g 0, 60, .inl (v.2.2.2.2.2.2.2.2.2)))] (wPool g ad pl)) sz (List.append [(p0, .inr (4, [.ref c0, .ref b0, .ref p1, .int v.1, .int v.2.1, .int v.2.2.1, .int v.2.2.2.1, .int v.2.2.2.2.1, .int v.2.2.2.2.2.1])), (p1, .inl (g 0, 80, .inl (v.2.2.2.2.2.2.1))), (c0, .inr (1, [.ref c1])), (c1, .inl (g 0, 480, .inl (v.2.2.2.2.2.2.2.1))), (b0, .inr (0, [.ref b1, .int v.2.2.2.2.2.2.2.2.1])), (b1, .inl (g 0, 60, .inl (v.2.2.2.2.2.2.2.2.2)))] (wPool g ad (updP pl 0 v))) := k_frame_v (wr := wPl g (ad 1) (pl 1) ++ (wPl g (ad 2) (pl 2) ++ (wPl g (ad 3) (pl 3) ++ (wPl g (ad 4) (pl 4) ++ (wPl g (ad 5) (pl 5) ++ (wPl g (ad 6) (pl 6) ++ (wPl g (ad 7) (pl 7) ++ (wPl g (ad 8) (pl 8) ++ (wPl g (ad 9) (pl 9) ++ (wPl g (ad 10) (pl 10) ++ (wPl g (ad 11) (pl 11) ++ (wPl g (ad 12) (pl 12) ++ (wPl g (ad 13) (pl 13)))))))))))))) (c_gCopy l D g (ad 0 0) p0 (ad 0 2) (ad 0 4) (ad 0 1) (ad 0 3) (ad 0 5) c0 b0 p1 c1 b1 sz (pl 0) v) [6, 7, 8, 9, 10, 11, 0, 1, 2, 3, 4, 5] [12, 13, 14, 15, 16, 17, 18, 19, 20, 21, 22, 23, 24, 25, 26, 27, 28, 29, 30, 31, 32, 33, 34, 35, 36, 37, 38, 39, 40, 41, 42, 43, 44, 45, 46, 47, 48, 49, 50, 51, 52, 53, 54, 55, 56, 57, 58, 59, 60, 61, 62, 63, 64, 65, 66, 67, 68, 69, 70, 71, 72, 73, 74, 75, 76, 77, 78, 79, 80, 81, 82, 83, 84, 85, 86, 87, 88, 89] [84, 85, 86, 87, 88, 89, 78, 79, 80, 81, 82, 83, 0, 1, 2, 3, 4, 5, 6, 7, 8, 9, 10, 11, 12, 13, 14, 15, 16, 17, 18, 19, 20, 21, 22, 23, 24, 25, 26, 27, 28, 29, 30, 31, 32, 33, 34, 35, 36, 37, 38, 39, 40, 41, 42, 43, 44, 45, 46, 47, 48, 49, 50, 51, 52, 53, 54, 55, 56, 57, 58, 59, 60, 61, 62, 63, 64, 65, 66, 67, 68, 69, 70, 71, 72, 73, 74, 75, 76, 77] rfl (by decide +kernel) rfl (by decide +kernel) (k_dis (by decide +kernel)) rfl (by decide +kernel)
set_option maxRecDepth 100000 in
theorem c_poolIn_1 (l : Launch) (D : va_G) (g : Nat → Nat) (ad : Nat → Nat → Nat) (p0 c0 b0 p1 c1 b1 : Nat) (sz : Nat) (v : KPV) (pl : Nat → KPV) : kMv l D g yX4_copyFrom wsX4_copyFrom 2 0 0 [.ref (ad 1 0), .ref p0] (List.append [(p0, .inr (4, [.ref c0, .ref b0, .ref p1, .int v.1, .int v.2.1, .int v.2.2.1, .int v.2.2.2.1, .int v.2.2.2.2.1, .int v.2.2.2.2.2.1])), (p1, .inl (g 0, 80, .inl (v.2.2.2.2.2.2.1))), (c0, .inr (1, [.ref c1])), (c1, .inl (g 0, 480, .inl (v.2.2.2.2.2.2.2.1))), (b0, .inr (0, [.ref b1, .int v.2.2.2.2.2.2.2.2.1])), (b1, .inl (g 0, 60, .inl (v.2.2.2.2.2.2.2.2.2)))] (wPool g ad pl)) sz (List.append [(p0, .inr (4, [.ref c0, .ref b0, .ref p1, .int v.1, .int v.2.1, .int v.2.2.1, .int v.2.2.2.1, .int v.2.2.2.2.1, .int v.2.2.2.2.2.1])), (p1, .inl (g 0, 80, .inl (v.2.2.2.2.2.2.1))), (c0, .inr (1, [.ref c1])), (c1, .inl (g 0, 480, .inl (v.2.2.2.2.2.2.2.1))), (b0, .inr (0, [.ref b1, .int v.2.2.2.2.2.2.2.2.1])), (b1, .inl (g 0, 60, .inl (v.2.2.2.2.2.2.2.2.2)))] (wPool g ad (updP pl 1 v))) := k_frame_v (wr := wPl g (ad 0) (pl 0) ++ (wPl g (ad 2) (pl 2) ++ (wPl g (ad 3) (pl 3) ++ (wPl g (ad 4) (pl 4) ++ (wPl g (ad 5) (pl 5) ++ (wPl g (ad 6) (pl 6) ++ (wPl g (ad 7) (pl 7) ++ (wPl g (ad 8) (pl 8) ++ (wPl g (ad 9) (pl 9) ++ (wPl g (ad 10) (pl 10) ++ (wPl g (ad 11) (pl 11) ++ (wPl g (ad 12) (pl 12) ++ (wPl g (ad 13) (pl 13)))))))))))))) (c_gCopy l D g (ad 1 0) p0 (ad 1 2) (ad 1 4) (ad 1 1) (ad 1 3) (ad 1 5) c0 b0 p1 c1 b1 sz (pl 1) v) [12, 13, 14, 15, 16, 17, 0, 1, 2, 3, 4, 5] [6, 7, 8, 9, 10, 11, 18, 19, 20, 21, 22, 23, 24, 25, 26, 27, 28, 29, 30, 31, 32, 33, 34, 35, 36, 37, 38, 39, 40, 41, 42, 43, 44, 45, 46, 47, 48, 49, 50, 51, 52, 53, 54, 55, 56, 57, 58, 59, 60, 61, 62, 63, 64, 65, 66, 67, 68, 69, 70, 71, 72, 73, 74, 75, 76, 77, 78, 79, 80, 81, 82, 83, 84, 85, 86, 87, 88, 89] [84, 85, 86, 87, 88, 89, 0, 1, 2, 3, 4, 5, 78, 79, 80, 81, 82, 83, 6, 7, 8, 9, 10, 11, 12, 13, 14, 15, 16, 17, 18, 19, 20, 21, 22, 23, 24, 25, 26, 27, 28, 29, 30, 31, 32, 33, 34, 35, 36, 37, 38, 39, 40, 41, 42, 43, 44, 45, 46, 47, 48, 49, 50, 51, 52, 53, 54, 55, 56, 57, 58, 59, 60, 61, 62, 63, 64, 65, 66, 67, 68, 69, 70, 71, 72, 73, 74, 75, 76, 77] rfl (by decide +kernel) rfl (by decide +kernel) (k_dis (by decide +kernel)) rfl (by decide +kernel)
set_option maxRecDepth 100000 in
theorem c_poolIn_2 (l : Launch) (D : va_G) (g : Nat → Nat) (ad : Nat → Nat → Nat) (p0 c0 b0 p1 c1 b1 : Nat) (sz : Nat) (v : KPV) (pl : Nat → KPV) : kMv l D g yX4_copyFrom wsX4_copyFrom 2 0 0 [.ref (ad 2 0), .ref p0] (List.append [(p0, .inr (4, [.ref c0, .ref b0, .ref p1, .int v.1, .int v.2.1, .int v.2.2.1, .int v.2.2.2.1, .int v.2.2.2.2.1, .int v.2.2.2.2.2.1])), (p1, .inl (g 0, 80, .inl (v.2.2.2.2.2.2.1))), (c0, .inr (1, [.ref c1])), (c1, .inl (g 0, 480, .inl (v.2.2.2.2.2.2.2.1))), (b0, .inr (0, [.ref b1, .int v.2.2.2.2.2.2.2.2.1])), (b1, .inl (g 0, 60, .inl (v.2.2.2.2.2.2.2.2.2)))] (wPool g ad pl)) sz (List.append [(p0, .inr (4, [.ref c0, .ref b0, .ref p1, .int v.1, .int v.2.1, .int v.2.2.1, .int v.2.2.2.1, .int v.2.2.2.2.1, .int v.2.2.2.2.2.1])), (p1, .inl (g 0, 80, .inl (v.2.2.2.2.2.2.1))), (c0, .inr (1, [.ref c1])), (c1, .inl (g 0, 480, .inl (v.2.2.2.2.2.2.2.1))), (b0, .inr (0, [.ref b1, .int v.2.2.2.2.2.2.2.2.1])), (b1, .inl (g 0, 60, .inl (v.2.2.2.2.2.2.2.2.2)))] (wPool g ad (updP pl 2 v))) := k_frame_v (wr := wPl g (ad 0) (pl 0) ++ (wPl g (ad 1) (pl 1) ++ (wPl g (ad 3) (pl 3) ++ (wPl g (ad 4) (pl 4) ++ (wPl g (ad 5) (pl 5) ++ (wPl g (ad 6) (pl 6) ++ (wPl g (ad 7) (pl 7) ++ (wPl g (ad 8) (pl 8) ++ (wPl g (ad 9) (pl 9) ++ (wPl g (ad 10) (pl 10) ++ (wPl g (ad 11) (pl 11) ++ (wPl g (ad 12) (pl 12) ++ (wPl g (ad 13) (pl 13)))))))))))))) (c_gCopy l D g (ad 2 0) p0 (ad 2 2) (ad 2 4) (ad 2 1) (ad 2 3) (ad 2 5) c0 b0 p1 c1 b1 sz (pl 2) v) [18, 19, 20, 21, 22, 23, 0, 1, 2, 3, 4, 5] [6, 7, 8, 9, 10, 11, 12, 13, 14, 15, 16, 17, 24, 25, 26, 27, 28, 29, 30, 31, 32, 33, 34, 35, 36, 37, 38, 39, 40, 41, 42, 43, 44, 45, 46, 47, 48, 49, 50, 51, 52, 53, 54, 55, 56, 57, 58, 59, 60, 61, 62, 63, 64, 65, 66, 67, 68, 69, 70, 71, 72, 73, 74, 75, 76, 77, 78, 79, 80, 81, 82, 83, 84, 85, 86, 87, 88, 89] [84, 85, 86, 87, 88, 89, 0, 1, 2, 3, 4, 5, 6, 7, 8, 9, 10, 11, 78, 79, 80, 81, 82, 83, 12, 13, 14, 15, 16, 17, 18, 19, 20, 21, 22, 23, 24, 25, 26, 27, 28, 29, 30, 31, 32, 33, 34, 35, 36, 37, 38, 39, 40, 41, 42, 43, 44, 45, 46, 47, 48, 49, 50, 51, 52, 53, 54, 55, 56, 57, 58, 59, 60, 61, 62, 63, 64, 65, 66, 67, 68, 69, 70, 71, 72, 73, 74, 75, 76, 77] rfl (by decide +kernel) rfl (by decide +kernel) (k_dis (by decide +kernel)) rfl (by decide +kernel)
set_option maxRecDepth 100000 in
theorem c_poolIn_3 (l : Launch) (D : va_G) (g : Nat → Nat) (ad : Nat → Nat → Nat) (p0 c0 b0 p1 c1 b1 : Nat) (sz : Nat) (v : KPV) (pl : Nat → KPV) : kMv l D g yX4_copyFrom wsX4_copyFrom 2 0 0 [.ref (ad 3 0), .ref p0] (List.append [(p0, .inr (4, [.ref c0, .ref b0, .ref p1, .int v.1, .int v.2.1, .int v.2.2.1, .int v.2.2.2.1, .int v.2.2.2.2.1, .int v.2.2.2.2.2.1])), (p1, .inl (g 0, 80, .inl (v.2.2.2.2.2.2.1))), (c0, .inr (1, [.ref c1])), (c1, .inl (g 0, 480, .inl (v.2.2.2.2.2.2.2.1))), (b0, .inr (0, [.ref b1, .int v.2.2.2.2.2.2.2.2.1])), (b1, .inl (g 0, 60, .inl (v.2.2.2.2.2.2.2.2.2)))] (wPool g ad pl)) sz (List.append [(p0, .inr (4, [.ref c0, .ref b0, .ref p1, .int v.1, .int v.2.1, .int v.2.2.1, .int v.2.2.2.1, .int v.2.2.2.2.1, .int v.2.2.2.2.2.1])), (p1, .inl (g 0, 80, .inl (v.2.2.2.2.2.2.1))), (c0, .inr (1, [.ref c1])), (c1, .inl (g 0, 480, .inl (v.2.2.2.2.2.2.2.1))), (b0, .inr (0, [.ref b1, .int v.2.2.2.2.2.2.2.2.1])), (b1, .inl (g 0, 60, .inl (v.2.2.2.2.2.2.2.2.2)))] (wPool g ad (updP pl 3 v))) := k_frame_v (wr := wPl g (ad 0) (pl 0) ++ (wPl g (ad 1) (pl 1) ++ (wPl g (ad 2) (pl 2) ++ (wPl g (ad 4) (pl 4) ++ (wPl g (ad 5) (pl 5) ++ (wPl g (ad 6) (pl 6) ++ (wPl g (ad 7) (pl 7) ++ (wPl g (ad 8) (pl 8) ++ (wPl g (ad 9) (pl 9) ++ (wPl g (ad 10) (pl 10) ++ (wPl g (ad 11) (pl 11) ++ (wPl g (ad 12) (pl 12) ++ (wPl g (ad 13) (pl 13)))))))))))))) (c_gCopy l D g (ad 3 0) p0 (ad 3 2) (ad 3 4) (ad 3 1) (ad 3 3) (ad 3 5) c0 b0 p1 c1 b1 sz (pl 3) v) [24, 25, 26, 27, 28, 29, 0, 1, 2, 3, 4, 5] [6, 7, 8, 9, 10, 11, 12, 13, 14, 15, 16, 17, 18, 19, 20, 21, 22, 23, 30, 31, 32, 33, 34, 35, 36, 37, 38, 39, 40, 41, 42, 43, 44, 45, 46, 47, 48, 49, 50, 51, 52, 53, 54, 55, 56, 57, 58, 59, 60, 61, 62, 63, 64, 65, 66, 67, 68, 69, 70, 71, 72, 73, 74, 75, 76, 77, 78, 79, 80, 81, 82, 83, 84, 85, 86, 87, 88, 89] [84, 85, 86, 87, 88, 89, 0, 1, 2, 3, 4, 5, 6, 7, 8, 9, 10, 11, 12, 13, 14, 15, 16, 17, 78, 79, 80, 81, 82, 83, 18, 19, 20, 21, 22, 23, 24, 25, 26, 27, 28, 29, 30, 31, 32, 33, 34, 35, 36, 37, 38, 39, 40, 41, 42, 43, 44, 45, 46, 47, 48, 49, 50, 51, 52, 53, 54, 55, 56, 57, 58, 59, 60, 61, 62, 63, 64, 65, 66, 67, 68, 69, 70, 71, 72, 73, 74, 75, 76, 77] rfl (by decide +kernel) rfl (by decide +kernel) (k_dis (by decide +kernel)) rfl (by decide +kernel)
set_option maxRecDepth 100000 in
theorem c_poolIn_4 (l : Launch) (D : va_G) (g : Nat → Nat) (ad : Nat → Nat → Nat) (p0 c0 b0 p1 c1 b1 : Nat) (sz : Nat) (v : KPV) (pl : Nat → KPV) : kMv l D g yX4_copyFrom wsX4_copyFrom 2 0 0 [.ref (ad 4 0), .ref p0] (List.append [(p0, .inr (4, [.ref c0, .ref b0, .ref p1, .int v.1, .int v.2.1, .int v.2.2.1, .int v.2.2.2.1, .int v.2.2.2.2.1, .int v.2.2.2.2.2.1])), (p1, .inl (g 0, 80, .inl (v.2.2.2.2.2.2.1))), (c0, .inr (1, [.ref c1])), (c1, .inl (g 0, 480, .inl (v.2.2.2.2.2.2.2.1))), (b0, .inr (0, [.ref b1, .int v.2.2.2.2.2.2.2.2.1])), (b1, .inl (g 0, 60, .inl (v.2.2.2.2.2.2.2.2.2)))] (wPool g ad pl)) sz (List.append [(p0, .inr (4, [.ref c0, .ref b0, .ref p1, .int v.1, .int v.2.1, .int v.2.2.1, .int v.2.2.2.1, .int v.2.2.2.2.1, .int v.2.2.2.2.2.1])), (p1, .inl (g 0, 80, .inl (v.2.2.2.2.2.2.1))), (c0, .inr (1, [.ref c1])), (c1, .inl (g 0, 480, .inl (v.2.2.2.2.2.2.2.1))), (b0, .inr (0, [.ref b1, .int v.2.2.2.2.2.2.2.2.1])), (b1, .inl (g 0, 60, .inl (v.2.2.2.2.2.2.2.2.2)))] (wPool g ad (updP pl 4 v))) := k_frame_v (wr := wPl g (ad 0) (pl 0) ++ (wPl g (ad 1) (pl 1) ++ (wPl g (ad 2) (pl 2) ++ (wPl g (ad 3) (pl 3) ++ (wPl g (ad 5) (pl 5) ++ (wPl g (ad 6) (pl 6) ++ (wPl g (ad 7) (pl 7) ++ (wPl g (ad 8) (pl 8) ++ (wPl g (ad 9) (pl 9) ++ (wPl g (ad 10) (pl 10) ++ (wPl g (ad 11) (pl 11) ++ (wPl g (ad 12) (pl 12) ++ (wPl g (ad 13) (pl 13)))))))))))))) (c_gCopy l D g (ad 4 0) p0 (ad 4 2) (ad 4 4) (ad 4 1) (ad 4 3) (ad 4 5) c0 b0 p1 c1 b1 sz (pl 4) v) [30, 31, 32, 33, 34, 35, 0, 1, 2, 3, 4, 5] [6, 7, 8, 9, 10, 11, 12, 13, 14, 15, 16, 17, 18, 19, 20, 21, 22, 23, 24, 25, 26, 27, 28, 29, 36, 37, 38, 39, 40, 41, 42, 43, 44, 45, 46, 47, 48, 49, 50, 51, 52, 53, 54, 55, 56, 57, 58, 59, 60, 61, 62, 63, 64, 65, 66, 67, 68, 69, 70, 71, 72, 73, 74, 75, 76, 77, 78, 79, 80, 81, 82, 83, 84, 85, 86, 87, 88, 89] [84, 85, 86, 87, 88, 89, 0, 1, 2, 3, 4, 5, 6, 7, 8, 9, 10, 11, 12, 13, 14, 15, 16, 17, 18, 19, 20, 21, 22, 23, 78, 79, 80, 81, 82, 83, 24, 25, 26, 27, 28, 29, 30, 31, 32, 33, 34, 35, 36, 37, 38, 39, 40, 41, 42, 43, 44, 45, 46, 47, 48, 49, 50, 51, 52, 53, 54, 55, 56, 57, 58, 59, 60, 61, 62, 63, 64, 65, 66, 67, 68, 69, 70, 71, 72, 73, 74, 75, 76, 77] rfl (by decide +kernel) rfl (by decide +kernel) (k_dis (by decide +kernel)) rfl (by decide +kernel)
set_option maxRecDepth 100000 in
theorem c_poolIn_5 (l : Launch) (D : va_G) (g : Nat → Nat) (ad : Nat → Nat → Nat) (p0 c0 b0 p1 c1 b1 : Nat) (sz : Nat) (v : KPV) (pl : Nat → KPV) : kMv l D g yX4_copyFrom wsX4_copyFrom 2 0 0 [.ref (ad 5 0), .ref p0] (List.append [(p0, .inr (4, [.ref c0, .ref b0, .ref p1, .int v.1, .int v.2.1, .int v.2.2.1, .int v.2.2.2.1, .int v.2.2.2.2.1, .int v.2.2.2.2.2.1])), (p1, .inl (g 0, 80, .inl (v.2.2.2.2.2.2.1))), (c0, .inr (1, [.ref c1])), (c1, .inl (g 0, 480, .inl (v.2.2.2.2.2.2.2.1))), (b0, .inr (0, [.ref b1, .int v.2.2.2.2.2.2.2.2.1])), (b1, .inl (g 0, 60, .inl (v.2.2.2.2.2.2.2.2.2)))] (wPool g ad pl)) sz (List.append [(p0, .inr (4, [.ref c0, .ref b0, .ref p1, .int v.1, .int v.2.1, .int v.2.2.1, .int v.2.2.2.1, .int v.2.2.2.2.1, .int v.2.2.2.2.2.1])), (p1, .inl (g 0, 80, .inl (v.2.2.2.2.2.2.1))), (c0, .inr (1, [.ref c1])), (c1, .inl (g 0, 480, .inl (v.2.2.2.2.2.2.2.1))), (b0, .inr (0, [.ref b1, .int v.2.2.2.2.2.2.2.2.1])), (b1, .inl (g 0, 60, .inl (v.2.2.2.2.2.2.2.2.2)))] (wPool g ad (updP pl 5 v))) := k_frame_v (wr := wPl g (ad 0) (pl 0) ++ (wPl g (ad 1) (pl 1) ++ (wPl g (ad 2) (pl 2) ++ (wPl g (ad 3) (pl 3) ++ (wPl g (ad 4) (pl 4) ++ (wPl g (ad 6) (pl 6) ++ (wPl g (ad 7) (pl 7) ++ (wPl g (ad 8) (pl 8) ++ (wPl g (ad 9) (pl 9) ++ (wPl g (ad 10) (pl 10) ++ (wPl g (ad 11) (pl 11) ++ (wPl g (ad 12) (pl 12) ++ (wPl g (ad 13) (pl 13)))))))))))))) (c_gCopy l D g (ad 5 0) p0 (ad 5 2) (ad 5 4) (ad 5 1) (ad 5 3) (ad 5 5) c0 b0 p1 c1 b1 sz (pl 5) v) [36, 37, 38, 39, 40, 41, 0, 1, 2, 3, 4, 5] [6, 7, 8, 9, 10, 11, 12, 13, 14, 15, 16, 17, 18, 19, 20, 21, 22, 23, 24, 25, 26, 27, 28, 29, 30, 31, 32, 33, 34, 35, 42, 43, 44, 45, 46, 47, 48, 49, 50, 51, 52, 53, 54, 55, 56, 57, 58, 59, 60, 61, 62, 63, 64, 65, 66, 67, 68, 69, 70, 71, 72, 73, 74, 75, 76, 77, 78, 79, 80, 81, 82, 83, 84, 85, 86, 87, 88, 89] [84, 85, 86, 87, 88, 89, 0, 1, 2, 3, 4, 5, 6, 7, 8, 9, 10, 11, 12, 13, 14, 15, 16, 17, 18, 19, 20, 21, 22, 23, 24, 25, 26, 27, 28, 29, 78, 79, 80, 81, 82, 83, 30, 31, 32, 33, 34, 35, 36, 37, 38, 39, 40, 41, 42, 43, 44, 45, 46, 47, 48, 49, 50, 51, 52, 53, 54, 55, 56, 57, 58, 59, 60, 61, 62, 63, 64, 65, 66, 67, 68, 69, 70, 71, 72, 73, 74, 75, 76, 77] rfl (by decide +kernel) rfl (by decide +kernel) (k_dis (by decide +kernel)) rfl (by decide +kernel)
set_option maxRecDepth 100000 in
theorem c_poolIn_6 (l : Launch) (D : va_G) (g : Nat → Nat) (ad : Nat → Nat → Nat) (p0 c0 b0 p1 c1 b1 : Nat) (sz : Nat) (v : KPV) (pl : Nat → KPV) : kMv l D g yX4_copyFrom wsX4_copyFrom 2 0 0 [.ref (ad 6 0), .ref p0] (List.append [(p0, .inr (4, [.ref c0, .ref b0, .ref p1, .int v.1, .int v.2.1, .int v.2.2.1, .int v.2.2.2.1, .int v.2.2.2.2.1, .int v.2.2.2.2.2.1])), (p1, .inl (g 0, 80, .inl (v.2.2.2.2.2.2.1))), (c0, .inr (1, [.ref c1])), (c1, .inl (g 0, 480, .inl (v.2.2.2.2.2.2.2.1))), (b0, .inr (0, [.ref b1, .int v.2.2.2.2.2.2.2.2.1])), (b1, .inl (g 0, 60, .inl (v.2.2.2.2.2.2.2.2.2)))] (wPool g ad pl)) sz (List.append [(p0, .inr (4, [.ref c0, .ref b0, .ref p1, .int v.1, .int v.2.1, .int v.2.2.1, .int v.2.2.2.1, .int v.2.2.2.2.1, .int v.2.2.2.2.2.1])), (p1, .inl (g 0, 80, .inl (v.2.2.2.2.2.2.1))), (c0, .inr (1, [.ref c1])), (c1, .inl (g 0, 480, .inl (v.2.2.2.2.2.2.2.1))), (b0, .inr (0, [.ref b1, .int v.2.2.2.2.2.2.2.2.1])), (b1, .inl (g 0, 60, .inl (v.2.2.2.2.2.2.2.2.2)))] (wPool g ad (updP pl 6 v))) := k_frame_v (wr := wPl g (ad 0) (pl 0) ++ (wPl g (ad 1) (pl 1) ++ (wPl g (ad 2) (pl 2) ++ (wPl g (ad 3) (pl 3) ++ (wPl g (ad 4) (pl 4) ++ (wPl g (ad 5) (pl 5) ++ (wPl g (ad 7) (pl 7) ++ (wPl g (ad 8) (pl 8) ++ (wPl g (ad 9) (pl 9) ++ (wPl g (ad 10) (pl 10) ++ (wPl g (ad 11) (pl 11) ++ (wPl g (ad 12) (pl 12) ++ (wPl g (ad 13) (pl 13)))))))))))))) (c_gCopy l D g (ad 6 0) p0 (ad 6 2) (ad 6 4) (ad 6 1) (ad 6 3) (ad 6 5) c0 b0 p1 c1 b1 sz (pl 6) v) [42, 43, 44, 45, 46, 47, 0, 1, 2, 3, 4, 5] [6, 7, 8, 9, 10, 11, 12, 13, 14, 15, 16, 17, 18, 19, 20, 21, 22, 23, 24, 25, 26, 27, 28, 29, 30, 31, 32, 33, 34, 35, 36, 37, 38, 39, 40, 41, 48, 49, 50, 51, 52, 53, 54, 55, 56, 57, 58, 59, 60, 61, 62, 63, 64, 65, 66, 67, 68, 69, 70, 71, 72, 73, 74, 75, 76, 77, 78, 79, 80, 81, 82, 83, 84, 85, 86, 87, 88, 89] [84, 85, 86, 87, 88, 89, 0, 1, 2, 3, 4, 5, 6, 7, 8, 9, 10, 11, 12, 13, 14, 15, 16, 17, 18, 19, 20, 21, 22, 23, 24, 25, 26, 27, 28, 29, 30, 31, 32, 33, 34, 35, 78, 79, 80, 81, 82, 83, 36, 37, 38, 39, 40, 41, 42, 43, 44, 45, 46, 47, 48, 49, 50, 51, 52, 53, 54, 55, 56, 57, 58, 59, 60, 61, 62, 63, 64, 65, 66, 67, 68, 69, 70, 71, 72, 73, 74, 75, 76, 77] rfl (by decide +kernel) rfl (by decide +kernel) (k_dis (by decide +kernel)) rfl (by decide +kernel)
set_option maxRecDepth 100000 in
theorem c_poolIn_7 (l : Launch) (D : va_G) (g : Nat → Nat) (ad : Nat → Nat → Nat) (p0 c0 b0 p1 c1 b1 : Nat) (sz : Nat) (v : KPV) (pl : Nat → KPV) : kMv l D g yX4_copyFrom wsX4_copyFrom 2 0 0 [.ref (ad 7 0), .ref p0] (List.append [(p0, .inr (4, [.ref c0, .ref b0, .ref p1, .int v.1, .int v.2.1, .int v.2.2.1, .int v.2.2.2.1, .int v.2.2.2.2.1, .int v.2.2.2.2.2.1])), (p1, .inl (g 0, 80, .inl (v.2.2.2.2.2.2.1))), (c0, .inr (1, [.ref c1])), (c1, .inl (g 0, 480, .inl (v.2.2.2.2.2.2.2.1))), (b0, .inr (0, [.ref b1, .int v.2.2.2.2.2.2.2.2.1])), (b1, .inl (g 0, 60, .inl (v.2.2.2.2.2.2.2.2.2)))] (wPool g ad pl)) sz (List.append [(p0, .inr (4, [.ref c0, .ref b0, .ref p1, .int v.1, .int v.2.1, .int v.2.2.1, .int v.2.2.2.1, .int v.2.2.2.2.1, .int v.2.2.2.2.2.1])), (p1, .inl (g 0, 80, .inl (v.2.2.2.2.2.2.1))), (c0, .inr (1, [.ref c1])), (c1, .inl (g 0, 480, .inl (v.2.2.2.2.2.2.2.1))), (b0, .inr (0, [.ref b1, .int v.2.2.2.2.2.2.2.2.1])), (b1, .inl (g 0, 60, .inl (v.2.2.2.2.2.2.2.2.2)))] (wPool g ad (updP pl 7 v))) := k_frame_v (wr := wPl g (ad 0) (pl 0) ++ (wPl g (ad 1) (pl 1) ++ (wPl g (ad 2) (pl 2) ++ (wPl g (ad 3) (pl 3) ++ (wPl g (ad 4) (pl 4) ++ (wPl g (ad 5) (pl 5) ++ (wPl g (ad 6) (pl 6) ++ (wPl g (ad 8) (pl 8) ++ (wPl g (ad 9) (pl 9) ++ (wPl g (ad 10) (pl 10) ++ (wPl g (ad 11) (pl 11) ++ (wPl g (ad 12) (pl 12) ++ (wPl g (ad 13) (pl 13)))))))))))))) (c_gCopy l D g (ad 7 0) p0 (ad 7 2) (ad 7 4) (ad 7 1) (ad 7 3) (ad 7 5) c0 b0 p1 c1 b1 sz (pl 7) v) [48, 49, 50, 51, 52, 53, 0, 1, 2, 3, 4, 5] [6, 7, 8, 9, 10, 11, 12, 13, 14, 15, 16, 17, 18, 19, 20, 21, 22, 23, 24, 25, 26, 27, 28, 29, 30, 31, 32, 33, 34, 35, 36, 37, 38, 39, 40, 41, 42, 43, 44, 45, 46, 47, 54, 55, 56, 57, 58, 59, 60, 61, 62, 63, 64, 65, 66, 67, 68, 69, 70, 71, 72, 73, 74, 75, 76, 77, 78, 79, 80, 81, 82, 83, 84, 85, 86, 87, 88, 89] [84, 85, 86, 87, 88, 89, 0, 1, 2, 3, 4, 5, 6, 7, 8, 9, 10, 11, 12, 13, 14, 15, 16, 17, 18, 19, 20, 21, 22, 23, 24, 25, 26, 27, 28, 29, 30, 31, 32, 33, 34, 35, 36, 37, 38, 39, 40, 41, 78, 79, 80, 81, 82, 83, 42, 43, 44, 45, 46, 47, 48, 49, 50, 51, 52, 53, 54, 55, 56, 57, 58, 59, 60, 61, 62, 63, 64, 65, 66, 67, 68, 69, 70, 71, 72, 73, 74, 75, 76, 77] rfl (by decide +kernel) rfl (by decide +kernel) (k_dis (by decide +kernel)) rfl (by decide +kernel)
set_option maxRecDepth 100000 in
theorem c_poolIn_8 (l : Launch) (D : va_G) (g : Nat → Nat) (ad : Nat → Nat → Nat) (p0 c0 b0 p1 c1 b1 : Nat) (sz : Nat) (v : KPV) (pl : Nat → KPV) : kMv l D g yX4_copyFrom wsX4_copyFrom 2 0 0 [.ref (ad 8 0), .ref p0] (List.append [(p0, .inr (4, [.ref c0, .ref b0, .ref p1, .int v.1, .int v.2.1, .int v.2.2.1, .int v.2.2.2.1, .int v.2.2.2.2.1, .int v.2.2.2.2.2.1])), (p1, .inl (g 0, 80, .inl (v.2.2.2.2.2.2.1))), (c0, .inr (1, [.ref c1])), (c1, .inl (g 0, 480, .inl (v.2.2.2.2.2.2.2.1))), (b0, .inr (0, [.ref b1, .int v.2.2.2.2.2.2.2.2.1])), (b1, .inl (g 0, 60, .inl (v.2.2.2.2.2.2.2.2.2)))] (wPool g ad pl)) sz (List.append [(p0, .inr (4, [.ref c0, .ref b0, .ref p1, .int v.1, .int v.2.1, .int v.2.2.1, .int v.2.2.2.1, .int v.2.2.2.2.1, .int v.2.2.2.2.2.1])), (p1, .inl (g 0, 80, .inl (v.2.2.2.2.2.2.1))), (c0, .inr (1, [.ref c1])), (c1, .inl (g 0, 480, .inl (v.2.2.2.2.2.2.2.1))), (b0, .inr (0, [.ref b1, .int v.2.2.2.2.2.2.2.2.1])), (b1, .inl (g 0, 60, .inl (v.2.2.2.2.2.2.2.2.2)))] (wPool g ad (updP pl 8 v))) := k_frame_v (wr := wPl g (ad 0) (pl 0) ++ (wPl g (ad 1) (pl 1) ++ (wPl g (ad 2) (pl 2) ++ (wPl g (ad 3) (pl 3) ++ (wPl g (ad 4) (pl 4) ++ (wPl g (ad 5) (pl 5) ++ (wPl g (ad 6) (pl 6) ++ (wPl g (ad 7) (pl 7) ++ (wPl g (ad 9) (pl 9) ++ (wPl g (ad 10) (pl 10) ++ (wPl g (ad 11) (pl 11) ++ (wPl g (ad 12) (pl 12) ++ (wPl g (ad 13) (pl 13)))))))))))))) (c_gCopy l D g (ad 8 0) p0 (ad 8 2) (ad 8 4) (ad 8 1) (ad 8 3) (ad 8 5) c0 b0 p1 c1 b1 sz (pl 8) v) [54, 55, 56, 57, 58, 59, 0, 1, 2, 3, 4, 5] [6, 7, 8, 9, 10, 11, 12, 13, 14, 15, 16, 17, 18, 19, 20, 21, 22, 23, 24, 25, 26, 27, 28, 29, 30, 31, 32, 33, 34, 35, 36, 37, 38, 39, 40, 41, 42, 43, 44, 45, 46, 47, 48, 49, 50, 51, 52, 53, 60, 61, 62, 63, 64, 65, 66, 67, 68, 69, 70, 71, 72, 73, 74, 75, 76, 77, 78, 79, 80, 81, 82, 83, 84, 85, 86, 87, 88, 89] [84, 85, 86, 87, 88, 89, 0, 1, 2, 3, 4, 5, 6, 7, 8, 9, 10, 11, 12, 13, 14, 15, 16, 17, 18, 19, 20, 21, 22, 23, 24, 25, 26, 27, 28, 29, 30, 31, 32, 33, 34, 35, 36, 37, 38, 39, 40, 41, 42, 43, 44, 45, 46, 47, 78, 79, 80, 81, 82, 83, 48, 49, 50, 51, 52, 53, 54, 55, 56, 57, 58, 59, 60, 61, 62, 63, 64, 65, 66, 67, 68, 69, 70, 71, 72, 73, 74, 75, 76, 77] rfl (by decide +kernel) rfl (by decide +kernel) (k_dis (by decide +kernel)) rfl (by decide +kernel)
set_option maxRecDepth 100000 in
theorem c_poolIn_9 (l : Launch) (D : va_G) (g : Nat → Nat) (ad : Nat → Nat → Nat) (p0 c0 b0 p1 c1 b1 : Nat) (sz : Nat) (v : KPV) (pl : Nat → KPV) : kMv l D g yX4_copyFrom wsX4_copyFrom 2 0 0 [.ref (ad 9 0), .ref p0] (List.append [(p0, .inr (4, [.ref c0, .ref b0, .ref p1, .int v.1, .int v.2.1, .int v.2.2.1, .int v.2.2.2.1, .int v.2.2.2.2.1, .int v.2.2.2.2.2.1])), (p1, .inl (g 0, 80, .inl (v.2.2.2.2.2.2.1))), (c0, .inr (1, [.ref c1])), (c1, .inl (g 0, 480, .inl (v.2.2.2.2.2.2.2.1))), (b0, .inr (0, [.ref b1, .int v.2.2.2.2.2.2.2.2.1])), (b1, .inl (g 0, 60, .inl (v.2.2.2.2.2.2.2.2.2)))] (wPool g ad pl)) sz (List.append [(p0, .inr (4, [.ref c0, .ref b0, .ref p1, .int v.1, .int v.2.1, .int v.2.2.1, .int v.2.2.2.1, .int v.2.2.2.2.1, .int v.2.2.2.2.2.1])), (p1, .inl (g 0, 80, .inl (v.2.2.2.2.2.2.1))), (c0, .inr (1, [.ref c1])), (c1, .inl (g 0, 480, .inl (v.2.2.2.2.2.2.2.1))), (b0, .inr (0, [.ref b1, .int v.2.2.2.2.2.2.2.2.1])), (b1, .inl (g 0, 60, .inl (v.2.2.2.2.2.2.2.2.2)))] (wPool g ad (updP pl 9 v))) := k_frame_v (wr := wPl g (ad 0) (pl 0) ++ (wPl g (ad 1) (pl 1) ++ (wPl g (ad 2) (pl 2) ++ (wPl g (ad 3) (pl 3) ++ (wPl g (ad 4) (pl 4) ++ (wPl g (ad 5) (pl 5) ++ (wPl g (ad 6) (pl 6) ++ (wPl g (ad 7) (pl 7) ++ (wPl g (ad 8) (pl 8) ++ (wPl g (ad 10) (pl 10) ++ (wPl g (ad 11) (pl 11) ++ (wPl g (ad 12) (pl 12) ++ (wPl g (ad 13) (pl 13)))))))))))))) (c_gCopy l D g (ad 9 0) p0 (ad 9 2) (ad 9 4) (ad 9 1) (ad 9 3) (ad 9 5) c0 b0 p1 c1 b1 sz (pl 9) v) [60, 61, 62, 63, 64, 65, 0, 1, 2, 3, 4, 5] [6, 7, 8, 9, 10, 11, 12, 13, 14, 15, 16, 17, 18, 19, 20, 21, 22, 23, 24, 25, 26, 27, 28, 29, 30, 31, 32, 33, 34, 35, 36, 37, 38, 39, 40, 41, 42, 43, 44, 45, 46, 47, 48, 49, 50, 51, 52, 53, 54, 55, 56, 57, 58, 59, 66, 67, 68, 69, 70, 71, 72, 73, 74, 75, 76, 77, 78, 79, 80, 81, 82, 83, 84, 85, 86, 87, 88, 89] [84, 85, 86, 87, 88, 89, 0, 1, 2, 3, 4, 5, 6, 7, 8, 9, 10, 11, 12, 13, 14, 15, 16, 17, 18, 19, 20, 21, 22, 23, 24, 25, 26, 27, 28, 29, 30, 31, 32, 33, 34, 35, 36, 37, 38, 39, 40, 41, 42, 43, 44, 45, 46, 47, 48, 49, 50, 51, 52, 53, 78, 79, 80, 81, 82, 83, 54, 55, 56, 57, 58, 59, 60, 61, 62, 63, 64, 65, 66, 67, 68, 69, 70, 71, 72, 73, 74, 75, 76, 77] rfl (by decide +kernel) rfl (by decide +kernel) (k_dis (by decide +kernel)) rfl (by decide +kernel)
set_option maxRecDepth 100000 in
theorem c_poolIn_10 (l : Launch) (D : va_G) (g : Nat → Nat) (ad : Nat → Nat → Nat) (p0 c0 b0 p1 c1 b1 : Nat) (sz : Nat) (v : KPV) (pl : Nat → KPV) : kMv l D g yX4_copyFrom wsX4_copyFrom 2 0 0 [.ref (ad 10 0), .ref p0] (List.append [(p0, .inr (4, [.ref c0, .ref b0, .ref p1, .int v.1, .int v.2.1, .int v.2.2.1, .int v.2.2.2.1, .int v.2.2.2.2.1, .int v.2.2.2.2.2.1])), (p1, .inl (g 0, 80, .inl (v.2.2.2.2.2.2.1))), (c0, .inr (1, [.ref c1])), (c1, .inl (g 0, 480, .inl (v.2.2.2.2.2.2.2.1))), (b0, .inr (0, [.ref b1, .int v.2.2.2.2.2.2.2.2.1])), (b1, .inl (g 0, 60, .inl (v.2.2.2.2.2.2.2.2.2)))] (wPool g ad pl)) sz (List.append [(p0, .inr (4, [.ref c0, .ref b0, .ref p1, .int v.1, .int v.2.1, .int v.2.2.1, .int v.2.2.2.1, .int v.2.2.2.2.1, .int v.2.2.2.2.2.1])), (p1, .inl (g 0, 80, .inl (v.2.2.2.2.2.2.1))), (c0, .inr (1, [.ref c1])), (c1, .inl (g 0, 480, .inl (v.2.2.2.2.2.2.2.1))), (b0, .inr (0, [.ref b1, .int v.2.2.2.2.2.2.2.2.1])), (b1, .inl (g 0, 60, .inl (v.2.2.2.2.2.2.2.2.2)))] (wPool g ad (updP pl 10 v))) := k_frame_v (wr := wPl g (ad 0) (pl 0) ++ (wPl g (ad 1) (pl 1) ++ (wPl g (ad 2) (pl 2) ++ (wPl g (ad 3) (pl 3) ++ (wPl g (ad 4) (pl 4) ++ (wPl g (ad 5) (pl 5) ++ (wPl g (ad 6) (pl 6) ++ (wPl g (ad 7) (pl 7) ++ (wPl g (ad 8) (pl 8) ++ (wPl g (ad 9) (pl 9) ++ (wPl g (ad 11) (pl 11) ++ (wPl g (ad 12) (pl 12) ++ (wPl g (ad 13) (pl 13)))))))))))))) (c_gCopy l D g (ad 10 0) p0 (ad 10 2) (ad 10 4) (ad 10 1) (ad 10 3) (ad 10 5) c0 b0 p1 c1 b1 sz (pl 10) v) [66, 67, 68, 69, 70, 71, 0, 1, 2, 3, 4, 5] [6, 7, 8, 9, 10, 11, 12, 13, 14, 15, 16, 17, 18, 19, 20, 21, 22, 23, 24, 25, 26, 27, 28, 29, 30, 31, 32, 33, 34, 35, 36, 37, 38, 39, 40, 41, 42, 43, 44, 45, 46, 47, 48, 49, 50, 51, 52, 53, 54, 55, 56, 57, 58, 59, 60, 61, 62, 63, 64, 65, 72, 73, 74, 75, 76, 77, 78, 79, 80, 81, 82, 83, 84, 85, 86, 87, 88, 89] [84, 85, 86, 87, 88, 89, 0, 1, 2, 3, 4, 5, 6, 7, 8, 9, 10, 11, 12, 13, 14, 15, 16, 17, 18, 19, 20, 21, 22, 23, 24, 25, 26, 27, 28, 29, 30, 31, 32, 33, 34, 35, 36, 37, 38, 39, 40, 41, 42, 43, 44, 45, 46, 47, 48, 49, 50, 51, 52, 53, 54, 55, 56, 57, 58, 59, 78, 79, 80, 81, 82, 83, 60, 61, 62, 63, 64, 65, 66, 67, 68, 69, 70, 71, 72, 73, 74, 75, 76, 77] rfl (by decide +kernel) rfl (by decide +kernel) (k_dis (by decide +kernel)) rfl (by decide +kernel)
set_option maxRecDepth 100000 in
theorem c_poolIn_11 (l : Launch) (D : va_G) (g : Nat → Nat) (ad : Nat → Nat → Nat) (p0 c0 b0 p1 c1 b1 : Nat) (sz : Nat) (v : KPV) (pl : Nat → KPV) : kMv l D g yX4_copyFrom wsX4_copyFrom 2 0 0 [.ref (ad 11 0), .ref p0] (List.append [(p0, .inr (4, [.ref c0, .ref b0, .ref p1, .int v.1, .int v.2.1, .int v.2.2.1, .int v.2.2.2.1, .int v.2.2.2.2.1, .int v.2.2.2.2.2.1])), (p1, .inl (g 0, 80, .inl (v.2.2.2.2.2.2.1))), (c0, .inr (1, [.ref c1])), (c1, .inl (g 0, 480, .inl (v.2.2.2.2.2.2.2.1))), (b0, .inr (0, [.ref b1, .int v.2.2.2.2.2.2.2.2.1])), (b1, .inl (g 0, 60, .inl (v.2.2.2.2.2.2.2.2.2)))] (wPool g ad pl)) sz (List.append [(p0, .inr (4, [.ref c0, .ref b0, .ref p1, .int v.1, .int v.2.1, .int v.2.2.1, .int v.2.2.2.1, .int v.2.2.2.2.1, .int v.2.2.2.2.2.1])), (p1, .inl (g 0, 80, .inl (v.2.2.2.2.2.2.1))), (c0, .inr (1, [.ref c1])), (c1, .inl (g 0, 480, .inl (v.2.2.2.2.2.2.2.1))), (b0, .inr (0, [.ref b1, .int v.2.2.2.2.2.2.2.2.1])), (b1, .inl (g 0, 60, .inl (v.2.2.2.2.2.2.2.2.2)))] (wPool g ad (updP pl 11 v))) := k_frame_v (wr := wPl g (ad 0) (pl 0) ++ (wPl g (ad 1) (pl 1) ++ (wPl g (ad 2) (pl 2) ++ (wPl g (ad 3) (pl 3) ++ (wPl g (ad 4) (pl 4) ++ (wPl g (ad 5) (pl 5) ++ (wPl g (ad 6) (pl 6) ++ (wPl g (ad 7) (pl 7) ++ (wPl g (ad 8) (pl 8) ++ (wPl g (ad 9) (pl 9) ++ (wPl g (ad 10) (pl 10) ++ (wPl g (ad 12) (pl 12) ++ (wPl g (ad 13) (pl 13)))))))))))))) (c_gCopy l D g (ad 11 0) p0 (ad 11 2) (ad 11 4) (ad 11 1) (ad 11 3) (ad 11 5) c0 b0 p1 c1 b1 sz (pl 11) v) [72, 73, 74, 75, 76, 77, 0, 1, 2, 3, 4, 5] [6, 7, 8, 9, 10, 11, 12, 13, 14, 15, 16, 17, 18, 19, 20, 21, 22, 23, 24, 25, 26, 27, 28, 29, 30, 31, 32, 33, 34, 35, 36, 37, 38, 39, 40, 41, 42, 43, 44, 45, 46, 47, 48, 49, 50, 51, 52, 53, 54, 55, 56, 57, 58, 59, 60, 61, 62, 63, 64, 65, 66, 67, 68, 69, 70, 71, 78, 79, 80, 81, 82, 83, 84, 85, 86, 87, 88, 89] [84, 85, 86, 87, 88, 89, 0, 1, 2, 3, 4, 5, 6, 7, 8, 9, 10, 11, 12, 13, 14, 15, 16, 17, 18, 19, 20, 21, 22, 23, 24, 25, 26, 27, 28, 29, 30, 31, 32, 33, 34, 35, 36, 37, 38, 39, 40, 41, 42, 43, 44, 45, 46, 47, 48, 49, 50, 51, 52, 53, 54, 55, 56, 57, 58, 59, 60, 61, 62, 63, 64, 65, 78, 79, 80, 81, 82, 83, 66, 67, 68, 69, 70, 71, 72, 73, 74, 75, 76, 77] rfl (by decide +kernel) rfl (by decide +kernel) (k_dis (by decide +kernel)) rfl (by decide +kernel)
set_option maxRecDepth 100000 in
theorem c_poolIn_12 (l : Launch) (D : va_G) (g : Nat → Nat) (ad : Nat → Nat → Nat) (p0 c0 b0 p1 c1 b1 : Nat) (sz : Nat) (v : KPV) (pl : Nat → KPV) : kMv l D g yX4_copyFrom wsX4_copyFrom 2 0 0 [.ref (ad 12 0), .ref p0] (List.append [(p0, .inr (4, [.ref c0, .ref b0, .ref p1, .int v.1, .int v.2.1, .int v.2.2.1, .int v.2.2.2.1, .int v.2.2.2.2.1, .int v.2.2.2.2.2.1])), (p1, .inl (g 0, 80, .inl (v.2.2.2.2.2.2.1))), (c0, .inr (1, [.ref c1])), (c1, .inl (g 0, 480, .inl (v.2.2.2.2.2.2.2.1))), (b0, .inr (0, [.ref b1, .int v.2.2.2.2.2.2.2.2.1])), (b1, .inl (g 0, 60, .inl (v.2.2.2.2.2.2.2.2.2)))] (wPool g ad pl)) sz (List.append [(p0, .inr (4, [.ref c0, .ref b0, .ref p1, .int v.1, .int v.2.1, .int v.2.2.1, .int v.2.2.2.1, .int v.2.2.2.2.1, .int v.2.2.2.2.2.1])), (p1, .inl (g 0, 80, .inl (v.2.2.2.2.2.2.1))), (c0, .inr (1, [.ref c1])), (c1, .inl (g 0, 480, .inl (v.2.2.2.2.2.2.2.1))), (b0, .inr (0, [.ref b1, .int v.2.2.2.2.2.2.2.2.1])), (b1, .inl (g 0, 60, .inl (v.2.2.2.2.2.2.2.2.2)))] (wPool g ad (updP pl 12 v))) := k_frame_v (wr := wPl g (ad 0) (pl 0) ++ (wPl g (ad 1) (pl 1) ++ (wPl g (ad 2) (pl 2) ++ (wPl g (ad 3) (pl 3) ++ (wPl g (ad 4) (pl 4) ++ (wPl g (ad 5) (pl 5) ++ (wPl g (ad 6) (pl 6) ++ (wPl g (ad 7) (pl 7) ++ (wPl g (ad 8) (pl 8) ++ (wPl g (ad 9) (pl 9) ++ (wPl g (ad 10) (pl 10) ++ (wPl g (ad 11) (pl 11) ++ (wPl g (ad 13) (pl 13)))))))))))))) (c_gCopy l D g (ad 12 0) p0 (ad 12 2) (ad 12 4) (ad 12 1) (ad 12 3) (ad 12 5) c0 b0 p1 c1 b1 sz (pl 12) v) [78, 79, 80, 81, 82, 83, 0, 1, 2, 3, 4, 5] [6, 7, 8, 9, 10, 11, 12, 13, 14, 15, 16, 17, 18, 19, 20, 21, 22, 23, 24, 25, 26, 27, 28, 29, 30, 31, 32, 33, 34, 35, 36, 37, 38, 39, 40, 41, 42, 43, 44, 45, 46, 47, 48, 49, 50, 51, 52, 53, 54, 55, 56, 57, 58, 59, 60, 61, 62, 63, 64, 65, 66, 67, 68, 69, 70, 71, 72, 73, 74, 75, 76, 77, 84, 85, 86, 87, 88, 89] [84, 85, 86, 87, 88, 89, 0, 1, 2, 3, 4, 5, 6, 7, 8, 9, 10, 11, 12, 13, 14, 15, 16, 17, 18, 19, 20, 21, 22, 23, 24, 25, 26, 27, 28, 29, 30, 31, 32, 33, 34, 35, 36, 37, 38, 39, 40, 41, 42, 43, 44, 45, 46, 47, 48, 49, 50, 51, 52, 53, 54, 55, 56, 57, 58, 59, 60, 61, 62, 63, 64, 65, 66, 67, 68, 69, 70, 71, 78, 79, 80, 81, 82, 83, 72, 73, 74, 75, 76, 77] rfl (by decide +kernel) rfl (by decide +kernel) (k_dis (by decide +kernel)) rfl (by decide +kernel)
set_option maxRecDepth 100000 in
theorem c_poolIn_13 (l : Launch) (D : va_G) (g : Nat → Nat) (ad : Nat → Nat → Nat) (p0 c0 b0 p1 c1 b1 : Nat) (sz : Nat) (v : KPV) (pl : Nat → KPV) : kMv l D g yX4_copyFrom wsX4_copyFrom 2 0 0 [.ref (ad 13 0), .ref p0] (List.append [(p0, .inr (4, [.ref c0, .ref b0, .ref p1, .int v.1, .int v.2.1, .int v.2.2.1, .int v.2.2.2.1, .int v.2.2.2.2.1, .int v.2.2.2.2.2.1])), (p1, .inl (g 0, 80, .inl (v.2.2.2.2.2.2.1))), (c0, .inr (1, [.ref c1])), (c1, .inl (g 0, 480, .inl (v.2.2.2.2.2.2.2.1))), (b0, .inr (0, [.ref b1, .int v.2.2.2.2.2.2.2.2.1])), (b1, .inl (g 0, 60, .inl (v.2.2.2.2.2.2.2.2.2)))] (wPool g ad pl)) sz (List.append [(p0, .inr (4, [.ref c0, .ref b0, .ref p1, .int v.1, .int v.2.1, .int v.2.2.1, .int v.2.2.2.1, .int v.2.2.2.2.1, .int v.2.2.2.2.2.1])), (p1, .inl (g 0, 80, .inl (v.2.2.2.2.2.2.1))), (c0, .inr (1, [.ref c1])), (c1, .inl (g 0, 480, .inl (v.2.2.2.2.2.2.2.1))), (b0, .inr (0, [.ref b1, .int v.2.2.2.2.2.2.2.2.1])), (b1, .inl (g 0, 60, .inl (v.2.2.2.2.2.2.2.2.2)))] (wPool g ad (updP pl 13 v))) := k_frame_v (wr := wPl g (ad 0) (pl 0) ++ (wPl g (ad 1) (pl 1) ++ (wPl g (ad 2) (pl 2) ++ (wPl g (ad 3) (pl 3) ++ (wPl g (ad 4) (pl 4) ++ (wPl g (ad 5) (pl 5) ++ (wPl g (ad 6) (pl 6) ++ (wPl g (ad 7) (pl 7) ++ (wPl g (ad 8) (pl 8) ++ (wPl g (ad 9) (pl 9) ++ (wPl g (ad 10) (pl 10) ++ (wPl g (ad 11) (pl 11) ++ (wPl g (ad 12) (pl 12)))))))))))))) (c_gCopy l D g (ad 13 0) p0 (ad 13 2) (ad 13 4) (ad 13 1) (ad 13 3) (ad 13 5) c0 b0 p1 c1 b1 sz (pl 13) v) [84, 85, 86, 87, 88, 89, 0, 1, 2, 3, 4, 5] [6, 7, 8, 9, 10, 11, 12, 13, 14, 15, 16, 17, 18, 19, 20, 21, 22, 23, 24, 25, 26, 27, 28, 29, 30, 31, 32, 33, 34, 35, 36, 37, 38, 39, 40, 41, 42, 43, 44, 45, 46, 47, 48, 49, 50, 51, 52, 53, 54, 55, 56, 57, 58, 59, 60, 61, 62, 63, 64, 65, 66, 67, 68, 69, 70, 71, 72, 73, 74, 75, 76, 77, 78, 79, 80, 81, 82, 83] [84, 85, 86, 87, 88, 89, 0, 1, 2, 3, 4, 5, 6, 7, 8, 9, 10, 11, 12, 13, 14, 15, 16, 17, 18, 19, 20, 21, 22, 23, 24, 25, 26, 27, 28, 29, 30, 31, 32, 33, 34, 35, 36, 37, 38, 39, 40, 41, 42, 43, 44, 45, 46, 47, 48, 49, 50, 51, 52, 53, 54, 55, 56, 57, 58, 59, 60, 61, 62, 63, 64, 65, 66, 67, 68, 69, 70, 71, 72, 73, 74, 75, 76, 77, 78, 79, 80, 81, 82, 83] rfl (by decide +kernel) rfl (by decide +kernel) (k_dis (by decide +kernel)) rfl (by decide +kernel)
set_option maxRecDepth 100000 in
theorem c_poolIn (l : Launch) (D : va_G) (g : Nat → Nat) (ad : Nat → Nat → Nat) (p0 c0 b0 p1 c1 b1 : Nat) (sz : Nat) (v : KPV) (pl : Nat → KPV) (i : Nat) (hi : i < 14) : kMv l D g yX4_copyFrom wsX4_copyFrom 2 0 0 [.ref (ad i 0), .ref p0] (List.append [(p0, .inr (4, [.ref c0, .ref b0, .ref p1, .int v.1, .int v.2.1, .int v.2.2.1, .int v.2.2.2.1, .int v.2.2.2.2.1, .int v.2.2.2.2.2.1])), (p1, .inl (g 0, 80, .inl (v.2.2.2.2.2.2.1))), (c0, .inr (1, [.ref c1])), (c1, .inl (g 0, 480, .inl (v.2.2.2.2.2.2.2.1))), (b0, .inr (0, [.ref b1, .int v.2.2.2.2.2.2.2.2.1])), (b1, .inl (g 0, 60, .inl (v.2.2.2.2.2.2.2.2.2)))] (wPool g ad pl)) sz (List.append [(p0, .inr (4, [.ref c0, .ref b0, .ref p1, .int v.1, .int v.2.1, .int v.2.2.1, .int v.2.2.2.1, .int v.2.2.2.2.1, .int v.2.2.2.2.2.1])), (p1, .inl (g 0, 80, .inl (v.2.2.2.2.2.2.1))), (c0, .inr (1, [.ref c1])), (c1, .inl (g 0, 480, .inl (v.2.2.2.2.2.2.2.1))), (b0, .inr (0, [.ref b1, .int v.2.2.2.2.2.2.2.2.1])), (b1, .inl (g 0, 60, .inl (v.2.2.2.2.2.2.2.2.2)))] (wPool g ad (updP pl i v))) := by
  by_cases e0 : i = 0
  · subst e0; exact c_poolIn_0 l D g ad p0 c0 b0 p1 c1 b1 sz v pl
  by_cases e1 : i = 1
  · subst e1; exact c_poolIn_1 l D g ad p0 c0 b0 p1 c1 b1 sz v pl
  by_cases e2 : i = 2
  · subst e2; exact c_poolIn_2 l D g ad p0 c0 b0 p1 c1 b1 sz v pl
  by_cases e3 : i = 3
  · subst e3; exact c_poolIn_3 l D g ad p0 c0 b0 p1 c1 b1 sz v pl
  by_cases e4 : i = 4
  · subst e4; exact c_poolIn_4 l D g ad p0 c0 b0 p1 c1 b1 sz v pl
  by_cases e5 : i = 5
  · subst e5; exact c_poolIn_5 l D g ad p0 c0 b0 p1 c1 b1 sz v pl
  by_cases e6 : i = 6
  · subst e6; exact c_poolIn_6 l D g ad p0 c0 b0 p1 c1 b1 sz v pl
  by_cases e7 : i = 7
  · subst e7; exact c_poolIn_7 l D g ad p0 c0 b0 p1 c1 b1 sz v pl
  by_cases e8 : i = 8
  · subst e8; exact c_poolIn_8 l D g ad p0 c0 b0 p1 c1 b1 sz v pl
  by_cases e9 : i = 9
  · subst e9; exact c_poolIn_9 l D g ad p0 c0 b0 p1 c1 b1 sz v pl
  by_cases e10 : i = 10
  · subst e10; exact c_poolIn_10 l D g ad p0 c0 b0 p1 c1 b1 sz v pl
  by_cases e11 : i = 11
  · subst e11; exact c_poolIn_11 l D g ad p0 c0 b0 p1 c1 b1 sz v pl
  by_cases e12 : i = 12
  · subst e12; exact c_poolIn_12 l D g ad p0 c0 b0 p1 c1 b1 sz v pl
  by_cases e13 : i = 13
  · subst e13; exact c_poolIn_13 l D g ad p0 c0 b0 p1 c1 b1 sz v pl
  omega
set_option maxRecDepth 100000 in
theorem c_poolOut_0 (l : Launch) (D : va_G) (g : Nat → Nat) (ad : Nat → Nat → Nat) (p0 c0 b0 p1 c1 b1 : Nat) (sz : Nat) (v : KPV) (pl : Nat → KPV) : kMv l D g yX4_copyFrom wsX4_copyFrom 2 0 0 [.ref p0, .ref (ad 0 0)] (List.append [(p0, .inr (4, [.ref c0, .ref b0, .ref p1, .int v.1, .int v.2.1, .int v.2.2.1, .int v.2.2.2.1, .int v.2.2.2.2.1, .int v.2.2.2.2.2.1])), (p1, .inl (g 0, 80, .inl (v.2.2.2.2.2.2.1))), (c0, .inr (1, [.ref c1])), (c1, .inl (g 0, 480, .inl (v.2.2.2.2.2.2.2.1))), (b0, .inr (0, [.ref b1, .int v.2.2.2.2.2.2.2.2.1])), (b1, .inl (g 0, 60, .inl (v.2.2.2.2.2.2.2.2.2)))] (wPool g ad pl)) sz (List.append [(p0, .inr (4, [.ref c0, .ref b0, .ref p1, .int ((pl 0).1), .int ((pl 0).2.1), .int ((pl 0).2.2.1), .int ((pl 0).2.2.2.1), .int ((pl 0).2.2.2.2.1), .int ((pl 0).2.2.2.2.2.1)])), (p1, .inl (g 0, 80, .inl ((pl 0).2.2.2.2.2.2.1))), (c0, .inr (1, [.ref c1])), (c1, .inl (g 0, 480, .inl ((pl 0).2.2.2.2.2.2.2.1))), (b0, .inr (0, [.ref b1, .int ((pl 0).2.2.2.2.2.2.2.2.1)])), (b1, .inl (g 0, 60, .inl ((pl 0).2.2.2.2.2.2.2.2.2)))] (wPool g ad pl)) := k_frame_v (wr := wPl g (ad 1) (pl 1) ++ (wPl g (ad 2) (pl 2) ++ (wPl g (ad 3) (pl 3) ++ (wPl g (ad 4) (pl 4) ++ (wPl g (ad 5) (pl 5) ++ (wPl g (ad 6) (pl 6) ++ (wPl g (ad 7) (pl 7) ++ (wPl g (ad 8) (pl 8) ++ (wPl g (ad 9) (pl 9) ++ (wPl g (ad 10) (pl 10) ++ (wPl g (ad 11) (pl 11) ++ (wPl g (ad 12) (pl 12) ++ (wPl g (ad 13) (pl 13)))))))))))))) (c_gCopy l D g p0 (ad 0 0) c0 b0 p1 c1 b1 (ad 0 2) (ad 0 4) (ad 0 1) (ad 0 3) (ad 0 5) sz v (pl 0)) [0, 1, 2, 3, 4, 5, 6, 7, 8, 9, 10, 11] [12, 13, 14, 15, 16, 17, 18, 19, 20, 21, 22, 23, 24, 25, 26, 27, 28, 29, 30, 31, 32, 33, 34, 35, 36, 37, 38, 39, 40, 41, 42, 43, 44, 45, 46, 47, 48, 49, 50, 51, 52, 53, 54, 55, 56, 57, 58, 59, 60, 61, 62, 63, 64, 65, 66, 67, 68, 69, 70, 71, 72, 73, 74, 75, 76, 77, 78, 79, 80, 81, 82, 83, 84, 85, 86, 87, 88, 89] [78, 79, 80, 81, 82, 83, 84, 85, 86, 87, 88, 89, 0, 1, 2, 3, 4, 5, 6, 7, 8, 9, 10, 11, 12, 13, 14, 15, 16, 17, 18, 19, 20, 21, 22, 23, 24, 25, 26, 27, 28, 29, 30, 31, 32, 33, 34, 35, 36, 37, 38, 39, 40, 41, 42, 43, 44, 45, 46, 47, 48, 49, 50, 51, 52, 53, 54, 55, 56, 57, 58, 59, 60, 61, 62, 63, 64, 65, 66, 67, 68, 69, 70, 71, 72, 73, 74, 75, 76, 77] rfl (by decide +kernel) rfl (by decide +kernel) (k_dis (by decide +kernel)) rfl (by decide +kernel)
set_option maxRecDepth 100000 in
theorem c_poolOut_1 (l : Launch) (D : va_G) (g : Nat → Nat) (ad : Nat → Nat → Nat) (p0 c0 b0 p1 c1 b1 : Nat) (sz : Nat) (v : KPV) (pl : Nat → KPV) : kMv l D g yX4_copyFrom wsX4_copyFrom 2 0 0 [.ref p0, .ref (ad 1 0)] (List.append [(p0, .inr (4, [.ref c0, .ref b0, .ref p1, .int v.1, .int v.2.1, .int v.2.2.1, .int v.2.2.2.1, .int v.2.2.2.2.1, .int v.2.2.2.2.2.1])), (p1, .inl (g 0, 80, .inl (v.2.2.2.2.2.2.1))), (c0, .inr (1, [.ref c1])), (c1, .inl (g 0, 480, .inl (v.2.2.2.2.2.2.2.1))), (b0, .inr (0, [.ref b1, .int v.2.2.2.2.2.2.2.2.1])), (b1, .inl (g 0, 60, .inl (v.2.2.2.2.2.2.2.2.2)))] (wPool g ad pl)) sz (List.append [(p0, .inr (4, [.ref c0, .ref b0, .ref p1, .int ((pl 1).1), .int ((pl 1).2.1), .int ((pl 1).2.2.1), .int ((pl 1).2.2.2.1), .int ((pl 1).2.2.2.2.1), .int ((pl 1).2.2.2.2.2.1)])), (p1, .inl (g 0, 80, .inl ((pl 1).2.2.2.2.2.2.1))), (c0, .inr (1, [.ref c1])), (c1, .inl (g 0, 480, .inl ((pl 1).2.2.2.2.2.2.2.1))), (b0, .inr (0, [.ref b1, .int ((pl 1).2.2.2.2.2.2.2.2.1)])), (b1, .inl (g 0, 60, .inl ((pl 1).2.2.2.2.2.2.2.2.2)))] (wPool g ad pl)) := k_frame_v (wr := wPl g (ad 0) (pl 0) ++ (wPl g (ad 2) (pl 2) ++ (wPl g (ad 3) (pl 3) ++ (wPl g (ad 4) (pl 4) ++ (wPl g (ad 5) (pl 5) ++ (wPl g (ad 6) (pl 6) ++ (wPl g (ad 7) (pl 7) ++ (wPl g (ad 8) (pl 8) ++ (wPl g (ad 9) (pl 9) ++ (wPl g (ad 10) (pl 10) ++ (wPl g (ad 11) (pl 11) ++ (wPl g (ad 12) (pl 12) ++ (wPl g (ad 13) (pl 13)))))))))))))) (c_gCopy l D g p0 (ad 1 0) c0 b0 p1 c1 b1 (ad 1 2) (ad 1 4) (ad 1 1) (ad 1 3) (ad 1 5) sz v (pl 1)) [0, 1, 2, 3, 4, 5, 12, 13, 14, 15, 16, 17] [6, 7, 8, 9, 10, 11, 18, 19, 20, 21, 22, 23, 24, 25, 26, 27, 28, 29, 30, 31, 32, 33, 34, 35, 36, 37, 38, 39, 40, 41, 42, 43, 44, 45, 46, 47, 48, 49, 50, 51, 52, 53, 54, 55, 56, 57, 58, 59, 60, 61, 62, 63, 64, 65, 66, 67, 68, 69, 70, 71, 72, 73, 74, 75, 76, 77, 78, 79, 80, 81, 82, 83, 84, 85, 86, 87, 88, 89] [78, 79, 80, 81, 82, 83, 0, 1, 2, 3, 4, 5, 84, 85, 86, 87, 88, 89, 6, 7, 8, 9, 10, 11, 12, 13, 14, 15, 16, 17, 18, 19, 20, 21, 22, 23, 24, 25, 26, 27, 28, 29, 30, 31, 32, 33, 34, 35, 36, 37, 38, 39, 40, 41, 42, 43, 44, 45, 46, 47, 48, 49, 50, 51, 52, 53, 54, 55, 56, 57, 58, 59, 60, 61, 62, 63, 64, 65, 66, 67, 68, 69, 70, 71, 72, 73, 74, 75, 76, 77] rfl (by decide +kernel) rfl (by decide +kernel) (k_dis (by decide +kernel)) rfl (by decide +kernel)
set_option maxRecDepth 100000 in
theorem c_poolOut_2 (l : Launch) (D : va_G) (g : Nat → Nat) (ad : Nat → Nat → Nat) (p0 c0 b0 p1 c1 b1 : Nat) (sz : Nat) (v : KPV) (pl : Nat → KPV) : kMv l D g yX4_copyFrom wsX4_copyFrom 2 0 0 [.ref p0, .ref (ad 2 0)] (List.append [(p0, .inr (4, [.ref c0, .ref b0, .ref p1, .int v.1, .int v.2.1, .int v.2.2.1, .int v.2.2.2.1, .int v.2.2.2.2.1, .int v.2.2.2.2.2.1])), (p1, .inl (g 0, 80, .inl (v.2.2.2.2.2.2.1))), (c0, .inr (1, [.ref c1])), (c1, .inl (g 0, 480, .inl (v.2.2.2.2.2.2.2.1))), (b0, .inr (0, [.ref b1, .int v.2.2.2.2.2.2.2.2.1])), (b1, .inl (g 0, 60, .inl (v.2.2.2.2.2.2.2.2.2)))] (wPool g ad pl)) sz (List.append [(p0, .inr (4, [.ref c0, .ref b0, .ref p1, .int ((pl 2).1), .int ((pl 2).2.1), .int ((pl 2).2.2.1), .int ((pl 2).2.2.2.1), .int ((pl 2).2.2.2.2.1), .int ((pl 2).2.2.2.2.2.1)])), (p1, .inl (g 0, 80, .inl ((pl 2).2.2.2.2.2.2.1))), (c0, .inr (1, [.ref c1])), (c1, .inl (g 0, 480, .inl ((pl 2).2.2.2.2.2.2.2.1))), (b0, .inr (0, [.ref b1, .int ((pl 2).2.2.2.2.2.2.2.2.1)])), (b1, .inl (g 0, 60, .inl ((pl 2).2.2.2.2.2.2.2.2.2)))] (wPool g ad pl)) := k_frame_v (wr := wPl g (ad 0) (pl 0) ++ (wPl g (ad 1) (pl 1) ++ (wPl g (ad 3) (pl 3) ++ (wPl g (ad 4) (pl 4) ++ (wPl g (ad 5) (pl 5) ++ (wPl g (ad 6) (pl 6) ++ (wPl g (ad 7) (pl 7) ++ (wPl g (ad 8) (pl 8) ++ (wPl g (ad 9) (pl 9) ++ (wPl g (ad 10) (pl 10) ++ (wPl g (ad 11) (pl 11) ++ (wPl g (ad 12) (pl 12) ++ (wPl g (ad 13) (pl 13)))))))))))))) (c_gCopy l D g p0 (ad 2 0) c0 b0 p1 c1 b1 (ad 2 2) (ad 2 4) (ad 2 1) (ad 2 3) (ad 2 5) sz v (pl 2)) [0, 1, 2, 3, 4, 5, 18, 19, 20, 21, 22, 23] [6, 7, 8, 9, 10, 11, 12, 13, 14, 15, 16, 17, 24, 25, 26, 27, 28, 29, 30, 31, 32, 33, 34, 35, 36, 37, 38, 39, 40, 41, 42, 43, 44, 45, 46, 47, 48, 49, 50, 51, 52, 53, 54, 55, 56, 57, 58, 59, 60, 61, 62, 63, 64, 65, 66, 67, 68, 69, 70, 71, 72, 73, 74, 75, 76, 77, 78, 79, 80, 81, 82, 83, 84, 85, 86, 87, 88, 89] [78, 79, 80, 81, 82, 83, 0, 1, 2, 3, 4, 5, 6, 7, 8, 9, 10, 11, 84, 85, 86, 87, 88, 89, 12, 13, 14, 15, 16, 17, 18, 19, 20, 21, 22, 23, 24, 25, 26, 27, 28, 29, 30, 31, 32, 33, 34, 35, 36, 37, 38, 39, 40, 41, 42, 43, 44, 45, 46, 47, 48, 49, 50, 51, 52, 53, 54, 55, 56, 57, 58, 59, 60, 61, 62, 63, 64, 65, 66, 67, 68, 69, 70, 71, 72, 73, 74, 75, 76, 77] rfl (by decide +kernel) rfl (by decide +kernel) (k_dis (by decide +kernel)) rfl (by decide +kernel)
set_option maxRecDepth 100000 in
theorem c_poolOut_3 (l : Launch) (D : va_G) (g : Nat → Nat) (ad : Nat → Nat → Nat) (p0 c0 b0 p1 c1 b1 : Nat) (sz : Nat) (v : KPV) (pl : Nat → KPV) : kMv l D g yX4_copyFrom wsX4_copyFrom 2 0 0 [.ref p0, .ref (ad 3 0)] (List.append [(p0, .inr (4, [.ref c0, .ref b0, .ref p1, .int v.1, .int v.2.1, .int v.2.2.1, .int v.2.2.2.1, .int v.2.2.2.2.1, .int v.2.2.2.2.2.1])), (p1, .inl (g 0, 80, .inl (v.2.2.2.2.2.2.1))), (c0, .inr (1, [.ref c1])), (c1, .inl (g 0, 480, .inl (v.2.2.2.2.2.2.2.1))), (b0, .inr (0, [.ref b1, .int v.2.2.2.2.2.2.2.2.1])), (b1, .inl (g 0, 60, .inl (v.2.2.2.2.2.2.2.2.2)))] (wPool g ad pl)) sz (List.append [(p0, .inr (4, [.ref c0, .ref b0, .ref p1, .int ((pl 3).1), .int ((pl 3).2.1), .int ((pl 3).2.2.1), .int ((pl 3).2.2.2.1), .int ((pl 3).2.2.2.2.1), .int ((pl 3).2.2.2.2.2.1)])), (p1, .inl (g 0, 80, .inl ((pl 3).2.2.2.2.2.2.1))), (c0, .inr (1, [.ref c1])), (c1, .inl (g 0, 480, .inl ((pl 3).2.2.2.2.2.2.2.1))), (b0, .inr (0, [.ref b1, .int ((pl 3).2.2.2.2.2.2.2.2.1)])), (b1, .inl (g 0, 60, .inl ((pl 3).2.2.2.2.2.2.2.2.2)))] (wPool g ad pl)) := k_frame_v (wr := wPl g (ad 0) (pl 0) ++ (wPl g (ad 1) (pl 1) ++ (wPl g (ad 2) (pl 2) ++ (wPl g (ad 4) (pl 4) ++ (wPl g (ad 5) (pl 5) ++ (wPl g (ad 6) (pl 6) ++ (wPl g (ad 7) (pl 7) ++ (wPl g (ad 8) (pl 8) ++ (wPl g (ad 9) (pl 9) ++ (wPl g (ad 10) (pl 10) ++ (wPl g (ad 11) (pl 11) ++ (wPl g (ad 12) (pl 12) ++ (wPl g (ad 13) (pl 13)))))))))))))) (c_gCopy l D g p0 (ad 3 0) c0 b0 p1 c1 b1 (ad 3 2) (ad 3 4) (ad 3 1) (ad 3 3) (ad 3 5) sz v (pl 3)) [0, 1, 2, 3, 4, 5, 24, 25, 26, 27, 28, 29] [6, 7, 8, 9, 10, 11, 12, 13, 14, 15, 16, 17, 18, 19, 20, 21, 22, 23, 30, 31, 32, 33, 34, 35, 36, 37, 38, 39, 40, 41, 42, 43, 44, 45, 46, 47, 48, 49, 50, 51, 52, 53, 54, 55, 56, 57, 58, 59, 60, 61, 62, 63, 64, 65, 66, 67, 68, 69, 70, 71, 72, 73, 74, 75, 76, 77, 78, 79, 80, 81, 82, 83, 84, 85, 86, 87, 88, 89] [78, 79, 80, 81, 82, 83, 0, 1, 2, 3, 4, 5, 6, 7, 8, 9, 10, 11, 12, 13, 14, 15, 16, 17, 84, 85, 86, 87, 88, 89, 18, 19, 20, 21, 22, 23, 24, 25, 26, 27, 28, 29, 30, 31, 32, 33, 34, 35, 36, 37, 38, 39, 40, 41, 42, 43, 44, 45, 46, 47, 48, 49, 50, 51, 52, 53, 54, 55, 56, 57, 58, 59, 60, 61, 62, 63, 64, 65, 66, 67, 68, 69, 70, 71, 72, 73, 74, 75, 76, 77] rfl (by decide +kernel) rfl (by decide +kernel) (k_dis (by decide +kernel)) rfl (by decide +kernel)
set_option maxRecDepth 100000 in
theorem c_poolOut_4 (l : Launch) (D : va_G) (g : Nat → Nat) (ad : Nat → Nat → Nat) (p0 c0 b0 p1 c1 b1 : Nat) (sz : Nat) (v : KPV) (pl : Nat → KPV) : kMv l D g yX4_copyFrom wsX4_copyFrom 2 0 0 [.ref p0, .ref (ad 4 0)] (List.append [(p0, .inr (4, [.ref c0, .ref b0, .ref p1, .int v.1, .int v.2.1, .int v.2.2.1, .int v.2.2.2.1, .int v.2.2.2.2.1, .int v.2.2.2.2.2.1])), (p1, .inl (g 0, 80, .inl (v.2.2.2.2.2.2.1))), (c0, .inr (1, [.ref c1])), (c1, .inl (g 0, 480, .inl (v.2.2.2.2.2.2.2.1))), (b0, .inr (0, [.ref b1, .int v.2.2.2.2.2.2.2.2.1])), (b1, .inl (g 0, 60, .inl (v.2.2.2.2.2.2.2.2.2)))] (wPool g ad pl)) sz (List.append [(p0, .inr (4, [.ref c0, .ref b0, .ref p1, .int ((pl 4).1), .int ((pl 4).2.1), .int ((pl 4).2.2.1), .int ((pl 4).2.2.2.1), .int ((pl 4).2.2.2.2.1), .int ((pl 4).2.2.2.2.2.1)])), (p1, .inl (g 0, 80, .inl ((pl 4).2.2.2.2.2.2.1))), (c0, .inr (1, [.ref c1])), (c1, .inl (g 0, 480, .inl ((pl 4).2.2.2.2.2.2.2.1))), (b0, .inr (0, [.ref b1, .int ((pl 4).2.2.2.2.2.2.2.2.1)])), (b1, .inl (g 0, 60, .inl ((pl 4).2.2.2.2.2.2.2.2.2)))] (wPool g ad pl)) := k_frame_v (wr := wPl g (ad 0) (pl 0) ++ (wPl g (ad 1) (pl 1) ++ (wPl g (ad 2) (pl 2) ++ (wPl g (ad 3) (pl 3) ++ (wPl g (ad 5) (pl 5) ++ (wPl g (ad 6) (pl 6) ++ (wPl g (ad 7) (pl 7) ++ (wPl g (ad 8) (pl 8) ++ (wPl g (ad 9) (pl 9) ++ (wPl g (ad 10) (pl 10) ++ (wPl g (ad 11) (pl 11) ++ (wPl g (ad 12) (pl 12) ++ (wPl g (ad 13) (pl 13)))))))))))))) (c_gCopy l D g p0 (ad 4 0) c0 b0 p1 c1 b1 (ad 4 2) (ad 4 4) (ad 4 1) (ad 4 3) (ad 4 5) sz v (pl 4)) [0, 1, 2, 3, 4, 5, 30, 31, 32, 33, 34, 35] [6, 7, 8, 9, 10, 11, 12, 13, 14, 15, 16, 17, 18, 19, 20, 21, 22, 23, 24, 25, 26, 27, 28, 29, 36, 37, 38, 39, 40, 41, 42, 43, 44, 45, 46, 47, 48, 49, 50, 51, 52, 53, 54, 55, 56, 57, 58, 59, 60, 61, 62, 63, 64, 65, 66, 67, 68, 69, 70, 71, 72, 73, 74, 75, 76, 77, 78, 79, 80, 81, 82, 83, 84, 85, 86, 87, 88, 89] [78, 79, 80, 81, 82, 83, 0, 1, 2, 3, 4, 5, 6, 7, 8, 9, 10, 11, 12, 13, 14, 15, 16, 17, 18, 19, 20, 21, 22, 23, 84, 85, 86, 87, 88, 89, 24, 25, 26, 27, 28, 29, 30, 31, 32, 33, 34, 35, 36, 37, 38, 39, 40, 41, 42, 43, 44, 45, 46, 47, 48, 49, 50, 51, 52, 53, 54, 55, 56, 57, 58, 59, 60, 61, 62, 63, 64, 65, 66, 67, 68, 69, 70, 71, 72, 73, 74, 75, 76, 77] rfl (by decide +kernel) rfl (by decide +kernel) (k_dis (by decide +kernel)) rfl (by decide +kernel)
set_option maxRecDepth 100000 in
theorem c_poolOut_5 (l : Launch) (D : va_G) (g : Nat → Nat) (ad : Nat → Nat → Nat) (p0 c0 b0 p1 c1 b1 : Nat) (sz : Nat) (v : KPV) (pl : Nat → KPV) : kMv l D g yX4_copyFrom wsX4_copyFrom 2 0 0 [.ref p0, .ref (ad 5 0)] (List.append [(p0, .inr (4, [.ref c0, .ref b0, .ref p1, .int v.1, .int v.2.1, .int v.2.2.1, .int v.2.2.2.1, .int v.2.2.2.2.1, .int v.2.2.2.2.2.1])), (p1, .inl (g 0, 80, .inl (v.2.2.2.2.2.2.1))), (c0, .inr (1, [.ref c1])), (c1, .inl (g 0, 480, .inl (v.2.2.2.2.2.2.2.1))), (b0, .inr (0, [.ref b1, .int v.2.2.2.2.2.2.2.2.1])), (b1, .inl (g 0, 60, .inl (v.2.2.2.2.2.2.2.2.2)))] (wPool g ad pl)) sz (List.append [(p0, .inr (4, [.ref c0, .ref b0, .ref p1, .int ((pl 5).1), .int ((pl 5).2.1), .int ((pl 5).2.2.1), .int ((pl 5).2.2.2.1), .int ((pl 5).2.2.2.2.1), .int ((pl 5).2.2.2.2.2.1)])), (p1, .inl (g 0, 80, .inl ((pl 5).2.2.2.2.2.2.1))), (c0, .inr (1, [.ref c1])), (c1, .inl (g 0, 480, .inl ((pl 5).2.2.2.2.2.2.2.1))), (b0, .inr (0, [.ref b1, .int ((pl 5).2.2.2.2.2.2.2.2.1)])), (b1, .inl (g 0, 60, .inl ((pl 5).2.2.2.2.2.2.2.2.2)))] (wPool g ad pl)) := k_frame_v (wr := wPl g (ad 0) (pl 0) ++ (wPl g (ad 1) (pl 1) ++ (wPl g (ad 2) (pl 2) ++ (wPl g (ad 3) (pl 3) ++ (wPl g (ad 4) (pl 4) ++ (wPl g (ad 6) (pl 6) ++ (wPl g (ad 7) (pl 7) ++ (wPl g (ad 8) (pl 8) ++ (wPl g (ad 9) (pl 9) ++ (wPl g (ad 10) (pl 10) ++ (wPl g (ad 11) (pl 11) ++ (wPl g (ad 12) (pl 12) ++ (wPl g (ad 13) (pl 13)))))))))))))) (c_gCopy l D g p0 (ad 5 0) c0 b0 p1 c1 b1 (ad 5 2) (ad 5 4) (ad 5 1) (ad 5 3) (ad 5 5) sz v (pl 5)) [0, 1, 2, 3, 4, 5, 36, 37, 38, 39, 40, 41] [6, 7, 8, 9, 10, 11, 12, 13, 14, 15, 16, 17, 18, 19, 20, 21, 22, 23, 24, 25, 26, 27, 28, 29, 30, 31, 32, 33, 34, 35, 42, 43, 44, 45, 46, 47, 48, 49, 50, 51, 52, 53, 54, 55, 56, 57, 58, 59, 60, 61, 62, 63, 64, 65, 66, 67, 68, 69, 70, 71, 72, 73, 74, 75, 76, 77, 78, 79, 80, 81, 82, 83, 84, 85, 86, 87, 88, 89] [78, 79, 80, 81, 82, 83, 0, 1, 2, 3, 4, 5, 6, 7, 8, 9, 10, 11, 12, 13, 14, 15, 16, 17, 18, 19, 20, 21, 22, 23, 24, 25, 26, 27, 28, 29, 84, 85, 86, 87, 88, 89, 30, 31, 32, 33, 34, 35, 36, 37, 38, 39, 40, 41, 42, 43, 44, 45, 46, 47, 48, 49, 50, 51, 52, 53, 54, 55, 56, 57, 58, 59, 60, 61, 62, 63, 64, 65, 66, 67, 68, 69, 70, 71, 72, 73, 74, 75, 76, 77] rfl (by decide +kernel) rfl (by decide +kernel) (k_dis (by decide +kernel)) rfl (by decide +kernel)
set_option maxRecDepth 100000 in
theorem c_poolOut_6 (l : Launch) (D : va_G) (g : Nat → Nat) (ad : Nat → Nat → Nat) (p0 c0 b0 p1 c1 b1 : Nat) (sz : Nat) (v : KPV) (pl : Nat → KPV) : kMv l D g yX4_copyFrom wsX4_copyFrom 2 0 0 [.ref p0, .ref (ad 6 0)] (List.append [(p0, .inr (4, [.ref c0, .ref b0, .ref p1, .int v.1, .int v.2.1, .int v.2.2.1, .int v.2.2.2.1, .int v.2.2.2.2.1, .int v.2.2.2.2.2.1])), (p1, .inl (g 0, 80, .inl (v.2.2.2.2.2.2.1))), (c0, .inr (1, [.ref c1])), (c1, .inl (g 0, 480, .inl (v.2.2.2.2.2.2.2.1))), (b0, .inr (0, [.ref b1, .int v.2.2.2.2.2.2.2.2.1])), (b1, .inl (g 0, 60, .inl (v.2.2.2.2.2.2.2.2.2)))] (wPool g ad pl)) sz (List.append [(p0, .inr (4, [.ref c0, .ref b0, .ref p1, .int ((pl 6).1), .int ((pl 6).2.1), .int ((pl 6).2.2.1), .int ((pl 6).2.2.2.1), .int ((pl 6).2.2.2.2.1), .int ((pl 6).2.2.2.2.2.1)])), (p1, .inl (g 0, 80, .inl ((pl 6).2.2.2.2.2.2.1))), (c0, .inr (1, [.ref c1])), (c1, .inl (g 0, 480, .inl ((pl 6).2.2.2.2.2.2.2.1))), (b0, .inr (0, [.ref b1, .int ((pl 6).2.2.2.2.2.2.2.2.1)])), (b1, .inl (g 0, 60, .inl ((pl 6).2.2.2.2.2.2.2.2.2)))] (wPool g ad pl)) := k_frame_v (wr := wPl g (ad 0) (pl 0) ++ (wPl g (ad 1) (pl 1) ++ (wPl g (ad 2) (pl 2) ++ (wPl g (ad 3) (pl 3) ++ (wPl g (ad 4) (pl 4) ++ (wPl g (ad 5) (pl 5) ++ (wPl g (ad 7) (pl 7) ++ (wPl g (ad 8) (pl 8) ++ (wPl g (ad 9) (pl 9) ++ (wPl g (ad 10) (pl 10) ++ (wPl g (ad 11) (pl 11) ++ (wPl g (ad 12) (pl 12) ++ (wPl g (ad 13) (pl 13)))))))))))))) (c_gCopy l D g p0 (ad 6 0) c0 b0 p1 c1 b1 (ad 6 2) (ad 6 4) (ad 6 1) (ad 6 3) (ad 6 5) sz v (pl 6)) [0, 1, 2, 3, 4, 5, 42, 43, 44, 45, 46, 47] [6, 7, 8, 9, 10, 11, 12, 13, 14, 15, 16, 17, 18, 19, 20, 21, 22, 23, 24, 25, 26, 27, 28, 29, 30, 31, 32, 33, 34, 35, 36, 37, 38, 39, 40, 41, 48, 49, 50, 51, 52, 53, 54, 55, 56, 57, 58, 59, 60, 61, 62, 63, 64, 65, 66, 67, 68, 69, 70, 71, 72, 73, 74, 75, 76, 77, 78, 79, 80, 81, 82, 83, 84, 85, 86, 87, 88, 89] [78, 79, 80, 81, 82, 83, 0, 1, 2, 3, 4, 5, 6, 7, 8, 9, 10, 11, 12, 13, 14, 15, 16, 17, 18, 19, 20, 21, 22, 23, 24, 25, 26, 27, 28, 29, 30, 31, 32, 33, 34, 35, 84, 85, 86, 87, 88, 89, 36, 37, 38, 39, 40, 41, 42, 43, 44, 45, 46, 47, 48, 49, 50, 51, 52, 53, 54, 55, 56, 57, 58, 59, 60, 61, 62, 63, 64, 65, 66, 67, 68, 69, 70, 71, 72, 73, 74, 75, 76, 77] rfl (by decide +kernel) rfl (by decide +kernel) (k_dis (by decide +kernel)) rfl (by decide +kernel)
set_option maxRecDepth 100000 in
theorem c_poolOut_7 (l : Launch) (D : va_G) (g : Nat → Nat) (ad : Nat → Nat → Nat) (p0 c0 b0 p1 c1 b1 : Nat) (sz : Nat) (v : KPV) (pl : Nat → KPV) : kMv l D g yX4_copyFrom wsX4_copyFrom 2 0 0 [.ref p0, .ref (ad 7 0)] (List.append [(p0, .inr (4, [.ref c0, .ref b0, .ref p1, .int v.1, .int v.2.1, .int v.2.2.1, .int v.2.2.2.1, .int v.2.2.2.2.1, .int v.2.2.2.2.2.1])), (p1, .inl (g 0, 80, .inl (v.2.2.2.2.2.2.1))), (c0, .inr (1, [.ref c1])), (c1, .inl (g 0, 480, .inl (v.2.2.2.2.2.2.2.1))), (b0, .inr (0, [.ref b1, .int v.2.2.2.2.2.2.2.2.1])), (b1, .inl (g 0, 60, .inl (v.2.2.2.2.2.2.2.2.2)))] (wPool g ad pl)) sz (List.append [(p0, .inr (4, [.ref c0, .ref b0, .ref p1, .int ((pl 7).1), .int ((pl 7).2.1), .int ((pl 7).2.2.1), .int ((pl 7).2.2.2.1), .int ((pl 7).2.2.2.2.1), .int ((pl 7).2.2.2.2.2.1)])), (p1, .inl (g 0, 80, .inl ((pl 7).2.2.2.2.2.2.1))), (c0, .inr (1, [.ref c1])), (c1, .inl (g 0, 480, .inl ((pl 7).2.2.2.2.2.2.2.1))), (b0, .inr (0, [.ref b1, .int ((pl 7).2.2.2.2.2.2.2.2.1)])), (b1, .inl (g 0, 60, .inl ((pl 7).2.2.2.2.2.2.2.2.2)))] (wPool g ad pl)) := k_frame_v (wr := wPl g (ad 0) (pl 0) ++ (wPl g (ad 1) (pl 1) ++ (wPl g (ad 2) (pl 2) ++ (wPl g (ad 3) (pl 3) ++ (wPl g (ad 4) (pl 4) ++ (wPl g (ad 5) (pl 5) ++ (wPl g (ad 6) (pl 6) ++ (wPl g (ad 8) (pl 8) ++ (wPl g (ad 9) (pl 9) ++ (wPl g (ad 10) (pl 10) ++ (wPl g (ad 11) (pl 11) ++ (wPl g (ad 12) (pl 12) ++ (wPl g (ad 13) (pl 13)))))))))))))) (c_gCopy l D g p0 (ad 7 0) c0 b0 p1 c1 b1 (ad 7 2) (ad 7 4) (ad 7 1) (ad 7 3) (ad 7 5) sz v (pl 7)) [0, 1, 2, 3, 4, 5, 48, 49, 50, 51, 52, 53] [6, 7, 8, 9, 10, 11, 12, 13, 14, 15, 16, 17, 18, 19, 20, 21, 22, 23, 24, 25, 26, 27, 28, 29, 30, 31, 32, 33, 34, 35, 36, 37, 38, 39, 40, 41, 42, 43, 44, 45, 46, 47, 54, 55, 56, 57, 58, 59, 60, 61, 62, 63, 64, 65, 66, 67, 68, 69, 70, 71, 72, 73, 74, 75, 76, 77, 78, 79, 80, 81, 82, 83, 84, 85, 86, 87, 88, 89] [78, 79, 80, 81, 82, 83, 0, 1, 2, 3, 4, 5, 6, 7, 8, 9, 10, 11, 12, 13, 14, 15, 16, 17, 18, 19, 20, 21, 22, 23, 24, 25, 26, 27, 28, 29, 30, 31, 32, 33, 34, 35, 36, 37, 38, 39, 40, 41, 84, 85, 86, 87, 88, 89, 42, 43, 44, 45, 46, 47, 48, 49, 50, 51, 52, 53, 54, 55, 56, 57, 58, 59, 60, 61, 62, 63, 64, 65, 66, 67, 68, 69, 70, 71, 72, 73, 74, 75, 76, 77] rfl (by decide +kernel) rfl (by decide +kernel) (k_dis (by decide +kernel)) rfl (by decide +kernel)
set_option maxRecDepth 100000 in
theorem c_poolOut_8 (l : Launch) (D : va_G) (g : Nat → Nat) (ad : Nat → Nat → Nat) (p0 c0 b0 p1 c1 b1 : Nat) (sz : Nat) (v : KPV) (pl : Nat → KPV) : kMv l D g yX4_copyFrom wsX4_copyFrom 2 0 0 [.ref p0, .ref (ad 8 0)] (List.append [(p0, .inr (4, [.ref c0, .ref b0, .ref p1, .int v.1, .int v.2.1, .int v.2.2.1, .int v.2.2.2.1, .int v.2.2.2.2.1, .int v.2.2.2.2.2.1])), (p1, .inl (g 0, 80, .inl (v.2.2.2.2.2.2.1))), (c0, .inr (1, [.ref c1])), (c1, .inl (g 0, 480, .inl (v.2.2.2.2.2.2.2.1))), (b0, .inr (0, [.ref b1, .int v.2.2.2.2.2.2.2.2.1])), (b1, .inl (g 0, 60, .inl (v.2.2.2.2.2.2.2.2.2)))] (wPool g ad pl)) sz (List.append [(p0, .inr (4, [.ref c0, .ref b0, .ref p1, .int ((pl 8).1), .int ((pl 8).2.1), .int ((pl 8).2.2.1), .int ((pl 8).2.2.2.1), .int ((pl 8).2.2.2.2.1), .int ((pl 8).2.2.2.2.2.1)])), (p1, .inl (g 0, 80, .inl ((pl 8).2.2.2.2.2.2.1))), (c0, .inr (1, [.ref c1])), (c1, .inl (g 0, 480, .inl ((pl 8).2.2.2.2.2.2.2.1))), (b0, .inr (0, [.ref b1, .int ((pl 8).2.2.2.2.2.2.2.2.1)])), (b1, .inl (g 0, 60, .inl ((pl 8).2.2.2.2.2.2.2.2.2)))] (wPool g ad pl)) := k_frame_v (wr := wPl g (ad 0) (pl 0) ++ (wPl g (ad 1) (pl 1) ++ (wPl g (ad 2) (pl 2) ++ (wPl g (ad 3) (pl 3) ++ (wPl g (ad 4) (pl 4) ++ (wPl g (ad 5) (pl 5) ++ (wPl g (ad 6) (pl 6) ++ (wPl g (ad 7) (pl 7) ++ (wPl g (ad 9) (pl 9) ++ (wPl g (ad 10) (pl 10) ++ (wPl g (ad 11) (pl 11) ++ (wPl g (ad 12) (pl 12) ++ (wPl g (ad 13) (pl 13)))))))))))))) (c_gCopy l D g p0 (ad 8 0) c0 b0 p1 c1 b1 (ad 8 2) (ad 8 4) (ad 8 1) (ad 8 3) (ad 8 5) sz v (pl 8)) [0, 1, 2, 3, 4, 5, 54, 55, 56, 57, 58, 59] [6, 7, 8, 9, 10, 11, 12, 13, 14, 15, 16, 17, 18, 19, 20, 21, 22, 23, 24, 25, 26, 27, 28, 29, 30, 31, 32, 33, 34, 35, 36, 37, 38, 39, 40, 41, 42, 43, 44, 45, 46, 47, 48, 49, 50, 51, 52, 53, 60, 61, 62, 63, 64, 65, 66, 67, 68, 69, 70, 71, 72, 73, 74, 75, 76, 77, 78, 79, 80, 81, 82, 83, 84, 85, 86, 87, 88, 89] [78, 79, 80, 81, 82, 83, 0, 1, 2, 3, 4, 5, 6, 7, 8, 9, 10, 11, 12, 13, 14, 15, 16, 17, 18, 19, 20, 21, 22, 23, 24, 25, 26, 27, 28, 29, 30, 31, 32, 33, 34, 35, 36, 37, 38, 39, 40, 41, 42, 43, 44, 45, 46, 47, 84, 85, 86, 87, 88, 89, 48, 49, 50, 51, 52, 53, 54, 55, 56, 57, 58, 59, 60, 61, 62, 63, 64, 65, 66, 67, 68, 69, 70, 71, 72, 73, 74, 75, 76, 77] rfl (by decide +kernel) rfl (by decide +kernel) (k_dis (by decide +kernel)) rfl (by decide +kernel)
set_option maxRecDepth 100000 in
theorem c_poolOut_9 (l : Launch) (D : va_G) (g : Nat → Nat) (ad : Nat → Nat → Nat) (p0 c0 b0 p1 c1 b1 : Nat) (sz : Nat) (v : KPV) (pl : Nat → KPV) : kMv l D g yX4_copyFrom wsX4_copyFrom 2 0 0 [.ref p0, .ref (ad 9 0)] (List.append [(p0, .inr (4, [.ref c0, .ref b0, .ref p1, .int v.1, .int v.2.1, .int v.2.2.1, .int v.2.2.2.1, .int v.2.2.2.2.1, .int v.2.2.2.2.2.1])), (p1, .inl (g 0, 80, .inl (v.2.2.2.2.2.2.1))), (c0, .inr (1, [.ref c1])), (c1, .inl (g 0, 480, .inl (v.2.2.2.2.2.2.2.1))), (b0, .inr (0, [.ref b1, .int v.2.2.2.2.2.2.2.2.1])), (b1, .inl (g 0, 60, .inl (v.2.2.2.2.2.2.2.2.2)))] (wPool g ad pl)) sz (List.append [(p0, .inr (4, [.ref c0, .ref b0, .ref p1, .int ((pl 9).1), .int ((pl 9).2.1), .int ((pl 9).2.2.1), .int ((pl 9).2.2.2.1), .int ((pl 9).2.2.2.2.1), .int ((pl 9).2.2.2.2.2.1)])), (p1, .inl (g 0, 80, .inl ((pl 9).2.2.2.2.2.2.1))), (c0, .inr (1, [.ref c1])), (c1, .inl (g 0, 480, .inl ((pl 9).2.2.2.2.2.2.2.1))), (b0, .inr (0, [.ref b1, .int ((pl 9).2.2.2.2.2.2.2.2.1)])), (b1, .inl (g 0, 60, .inl ((pl 9).2.2.2.2.2.2.2.2.2)))] (wPool g ad pl)) := k_frame_v (wr := wPl g (ad 0) (pl 0) ++ (wPl g (ad 1) (pl 1) ++ (wPl g (ad 2) (pl 2) ++ (wPl g (ad 3) (pl 3) ++ (wPl g (ad 4) (pl 4) ++ (wPl g (ad 5) (pl 5) ++ (wPl g (ad 6) (pl 6) ++ (wPl g (ad 7) (pl 7) ++ (wPl g (ad 8) (pl 8) ++ (wPl g (ad 10) (pl 10) ++ (wPl g (ad 11) (pl 11) ++ (wPl g (ad 12) (pl 12) ++ (wPl g (ad 13) (pl 13)))))))))))))) (c_gCopy l D g p0 (ad 9 0) c0 b0 p1 c1 b1 (ad 9 2) (ad 9 4) (ad 9 1) (ad 9 3) (ad 9 5) sz v (pl 9)) [0, 1, 2, 3, 4, 5, 60, 61, 62, 63, 64, 65] [6, 7, 8, 9, 10, 11, 12, 13, 14, 15, 16, 17, 18, 19, 20, 21, 22, 23, 24, 25, 26, 27, 28, 29, 30, 31, 32, 33, 34, 35, 36, 37, 38, 39, 40, 41, 42, 43, 44, 45, 46, 47, 48, 49, 50, 51, 52, 53, 54, 55, 56, 57, 58, 59, 66, 67, 68, 69, 70, 71, 72, 73, 74, 75, 76, 77, 78, 79, 80, 81, 82, 83, 84, 85, 86, 87, 88, 89] [78, 79, 80, 81, 82, 83, 0, 1, 2, 3, 4, 5, 6, 7, 8, 9, 10, 11, 12, 13, 14, 15, 16, 17, 18, 19, 20, 21, 22, 23, 24, 25, 26, 27, 28, 29, 30, 31, 32, 33, 34, 35, 36, 37, 38, 39, 40, 41, 42, 43, 44, 45, 46, 47, 48, 49, 50, 51, 52, 53, 84, 85, 86, 87, 88, 89, 54, 55, 56, 57, 58, 59, 60, 61, 62, 63, 64, 65, 66, 67, 68, 69, 70, 71, 72, 73, 74, 75, 76, 77] rfl (by decide +kernel) rfl (by decide +kernel) (k_dis (by decide +kernel)) rfl (by decide +kernel)
set_option maxRecDepth 100000 in
theorem c_poolOut_10 (l : Launch) (D : va_G) (g : Nat → Nat) (ad : Nat → Nat → Nat) (p0 c0 b0 p1 c1 b1 : Nat) (sz : Nat) (v : KPV) (pl : Nat → KPV) : kMv l D g yX4_copyFrom wsX4_copyFrom 2 0 0 [.ref p0, .ref (ad 10 0)] (List.append [(p0, .inr (4, [.ref c0, .ref b0, .ref p1, .int v.1, .int v.2.1, .int v.2.2.1, .int v.2.2.2.1, .int v.2.2.2.2.1, .int v.2.2.2.2.2.1])), (p1, .inl (g 0, 80, .inl (v.2.2.2.2.2.2.1))), (c0, .inr (1, [.ref c1])), (c1, .inl (g 0, 480, .inl (v.2.2.2.2.2.2.2.1))), (b0, .inr (0, [.ref b1, .int v.2.2.2.2.2.2.2.2.1])), (b1, .inl (g 0, 60, .inl (v.2.2.2.2.2.2.2.2.2)))] (wPool g ad pl)) sz (List.append [(p0, .inr (4, [.ref c0, .ref b0, .ref p1, .int ((pl 10).1), .int ((pl 10).2.1), .int ((pl 10).2.2.1), .int ((pl 10).2.2.2.1), .int ((pl 10).2.2.2.2.1), .int ((pl 10).2.2.2.2.2.1)])), (p1, .inl (g 0, 80, .inl ((pl 10).2.2.2.2.2.2.1))), (c0, .inr (1, [.ref c1])), (c1, .inl (g 0, 480, .inl ((pl 10).2.2.2.2.2.2.2.1))), (b0, .inr (0, [.ref b1, .int ((pl 10).2.2.2.2.2.2.2.2.1)])), (b1, .inl (g 0, 60, .inl ((pl 10).2.2.2.2.2.2.2.2.2)))] (wPool g ad pl)) := k_frame_v (wr := wPl g (ad 0) (pl 0) ++ (wPl g (ad 1) (pl 1) ++ (wPl g (ad 2) (pl 2) ++ (wPl g (ad 3) (pl 3) ++ (wPl g (ad 4) (pl 4) ++ (wPl g (ad 5) (pl 5) ++ (wPl g (ad 6) (pl 6) ++ (wPl g (ad 7) (pl 7) ++ (wPl g (ad 8) (pl 8) ++ (wPl g (ad 9) (pl 9) ++ (wPl g (ad 11) (pl 11) ++ (wPl g (ad 12) (pl 12) ++ (wPl g (ad 13) (pl 13)))))))))))))) (c_gCopy l D g p0 (ad 10 0) c0 b0 p1 c1 b1 (ad 10 2) (ad 10 4) (ad 10 1) (ad 10 3) (ad 10 5) sz v (pl 10)) [0, 1, 2, 3, 4, 5, 66, 67, 68, 69, 70, 71] [6, 7, 8, 9, 10, 11, 12, 13, 14, 15, 16, 17, 18, 19, 20, 21, 22, 23, 24, 25, 26, 27, 28, 29, 30, 31, 32, 33, 34, 35, 36, 37, 38, 39, 40, 41, 42, 43, 44, 45, 46, 47, 48, 49, 50, 51, 52, 53, 54, 55, 56, 57, 58, 59, 60, 61, 62, 63, 64, 65, 72, 73, 74, 75, 76, 77, 78, 79, 80, 81, 82, 83, 84, 85, 86, 87, 88, 89] [78, 79, 80, 81, 82, 83, 0, 1, 2, 3, 4, 5, 6, 7, 8, 9, 10, 11, 12, 13, 14, 15, 16, 17, 18, 19, 20, 21, 22, 23, 24, 25, 26, 27, 28, 29, 30, 31, 32, 33, 34, 35, 36, 37, 38, 39, 40, 41, 42, 43, 44, 45, 46, 47, 48, 49, 50, 51, 52, 53, 54, 55, 56, 57, 58, 59, 84, 85, 86, 87, 88, 89, 60, 61, 62, 63, 64, 65, 66, 67, 68, 69, 70, 71, 72, 73, 74, 75, 76, 77] rfl (by decide +kernel) rfl (by decide +kernel) (k_dis (by decide +kernel)) rfl (by decide +kernel)
set_option maxRecDepth 100000 in
theorem c_poolOut_11 (l : Launch) (D : va_G) (g : Nat → Nat) (ad : Nat → Nat → Nat) (p0 c0 b0 p1 c1 b1 : Nat) (sz : Nat) (v : KPV) (pl : Nat → KPV) : kMv l D g yX4_copyFrom wsX4_copyFrom 2 0 0 [.ref p0, .ref (ad 11 0)] (List.append [(p0, .inr (4, [.ref c0, .ref b0, .ref p1, .int v.1, .int v.2.1, .int v.2.2.1, .int v.2.2.2.1, .int v.2.2.2.2.1, .int v.2.2.2.2.2.1])), (p1, .inl (g 0, 80, .inl (v.2.2.2.2.2.2.1))), (c0, .inr (1, [.ref c1])), (c1, .inl (g 0, 480, .inl (v.2.2.2.2.2.2.2.1))), (b0, .inr (0, [.ref b1, .int v.2.2.2.2.2.2.2.2.1])), (b1, .inl (g 0, 60, .inl (v.2.2.2.2.2.2.2.2.2)))] (wPool g ad pl)) sz (List.append [(p0, .inr (4, [.ref c0, .ref b0, .ref p1, .int ((pl 11).1), .int ((pl 11).2.1), .int ((pl 11).2.2.1), .int ((pl 11).2.2.2.1), .int ((pl 11).2.2.2.2.1), .int ((pl 11).2.2.2.2.2.1)])), (p1, .inl (g 0, 80, .inl ((pl 11).2.2.2.2.2.2.1))), (c0, .inr (1, [.ref c1])), (c1, .inl (g 0, 480, .inl ((pl 11).2.2.2.2.2.2.2.1))), (b0, .inr (0, [.ref b1, .int ((pl 11).2.2.2.2.2.2.2.2.1)])), (b1, .inl (g 0, 60, .inl ((pl 11).2.2.2.2.2.2.2.2.2)))] (wPool g ad pl)) := k_frame_v (wr := wPl g (ad 0) (pl 0) ++ (wPl g (ad 1) (pl 1) ++ (wPl g (ad 2) (pl 2) ++ (wPl g (ad 3) (pl 3) ++ (wPl g (ad 4) (pl 4) ++ (wPl g (ad 5) (pl 5) ++ (wPl g (ad 6) (pl 6) ++ (wPl g (ad 7) (pl 7) ++ (wPl g (ad 8) (pl 8) ++ (wPl g (ad 9) (pl 9) ++ (wPl g (ad 10) (pl 10) ++ (wPl g (ad 12) (pl 12) ++ (wPl g (ad 13) (pl 13)))))))))))))) (c_gCopy l D g p0 (ad 11 0) c0 b0 p1 c1 b1 (ad 11 2) (ad 11 4) (ad 11 1) (ad 11 3) (ad 11 5) sz v (pl 11)) [0, 1, 2, 3, 4, 5, 72, 73, 74, 75, 76, 77] [6, 7, 8, 9, 10, 11, 12, 13, 14, 15, 16, 17, 18, 19, 20, 21, 22, 23, 24, 25, 26, 27, 28, 29, 30, 31, 32, 33, 34, 35, 36, 37, 38, 39, 40, 41, 42, 43, 44, 45, 46, 47, 48, 49, 50, 51, 52, 53, 54, 55, 56, 57, 58, 59, 60, 61, 62, 63, 64, 65, 66, 67, 68, 69, 70, 71, 78, 79, 80, 81, 82, 83, 84, 85, 86, 87, 88, 89] [78, 79, 80, 81, 82, 83, 0, 1, 2, 3, 4, 5, 6, 7, 8, 9, 10, 11, 12, 13, 14, 15, 16, 17, 18, 19, 20, 21, 22, 23, 24, 25, 26, 27, 28, 29, 30, 31, 32, 33, 34, 35, 36, 37, 38, 39, 40, 41, 42, 43, 44, 45, 46, 47, 48, 49, 50, 51, 52, 53, 54, 55, 56, 57, 58, 59, 60, 61, 62, 63, 64, 65, 84, 85, 86, 87, 88, 89, 66, 67, 68, 69, 70, 71, 72, 73, 74, 75, 76, 77] rfl (by decide +kernel) rfl (by decide +kernel) (k_dis (by decide +kernel)) rfl (by decide +kernel)
set_option maxRecDepth 100000 in
theorem c_poolOut_12 (l : Launch) (D : va_G) (g : Nat → Nat) (ad : Nat → Nat → Nat) (p0 c0 b0 p1 c1 b1 : Nat) (sz : Nat) (v : KPV) (pl : Nat → KPV) : kMv l D g yX4_copyFrom wsX4_copyFrom 2 0 0 [.ref p0, .ref (ad 12 0)] (List.append [(p0, .inr (4, [.ref c0, .ref b0, .ref p1, .int v.1, .int v.2.1, .int v.2.2.1, .int v.2.2.2.1, .int v.2.2.2.2.1, .int v.2.2.2.2.2.1])), (p1, .inl (g 0, 80, .inl (v.2.2.2.2.2.2.1))), (c0, .inr (1, [.ref c1])), (c1, .inl (g 0, 480, .inl (v.2.2.2.2.2.2.2.1))), (b0, .inr (0, [.ref b1, .int v.2.2.2.2.2.2.2.2.1])), (b1, .inl (g 0, 60, .inl (v.2.2.2.2.2.2.2.2.2)))] (wPool g ad pl)) sz (List.append [(p0, .inr (4, [.ref c0, .ref b0, .ref p1, .int ((pl 12).1), .int ((pl 12).2.1), .int ((pl 12).2.2.1), .int ((pl 12).2.2.2.1), .int ((pl 12).2.2.2.2.1), .int ((pl 12).2.2.2.2.2.1)])), (p1, .inl (g 0, 80, .inl ((pl 12).2.2.2.2.2.2.1))), (c0, .inr (1, [.ref c1])), (c1, .inl (g 0, 480, .inl ((pl 12).2.2.2.2.2.2.2.1))), (b0, .inr (0, [.ref b1, .int ((pl 12).2.2.2.2.2.2.2.2.1)])), (b1, .inl (g 0, 60, .inl ((pl 12).2.2.2.2.2.2.2.2.2)))] (wPool g ad pl)) := k_frame_v (wr := wPl g (ad 0) (pl 0) ++ (wPl g (ad 1) (pl 1) ++ (wPl g (ad 2) (pl 2) ++ (wPl g (ad 3) (pl 3) ++ (wPl g (ad 4) (pl 4) ++ (wPl g (ad 5) (pl 5) ++ (wPl g (ad 6) (pl 6) ++ (wPl g (ad 7) (pl 7) ++ (wPl g (ad 8) (pl 8) ++ (wPl g (ad 9) (pl 9) ++ (wPl g (ad 10) (pl 10) ++ (wPl g (ad 11) (pl 11) ++ (wPl g (ad 13) (pl 13)))))))))))))) (c_gCopy l D g p0 (ad 12 0) c0 b0 p1 c1 b1 (ad 12 2) (ad 12 4) (ad 12 1) (ad 12 3) (ad 12 5) sz v (pl 12)) [0, 1, 2, 3, 4, 5, 78, 79, 80, 81, 82, 83] [6, 7, 8, 9, 10, 11, 12, 13, 14, 15, 16, 17, 18, 19, 20, 21, 22, 23, 24, 25, 26, 27, 28, 29, 30, 31, 32, 33, 34, 35, 36, 37, 38, 39, 40, 41, 42, 43, 44, 45, 46, 47, 48, 49, 50, 51, 52, 53, 54, 55, 56, 57, 58, 59, 60, 61, 62, 63, 64, 65, 66, 67, 68, 69, 70, 71, 72, 73, 74, 75, 76, 77, 84, 85, 86, 87, 88, 89] [78, 79, 80, 81, 82, 83, 0, 1, 2, 3, 4, 5, 6, 7, 8, 9, 10, 11, 12, 13, 14, 15, 16, 17, 18, 19, 20, 21, 22, 23, 24, 25, 26, 27, 28, 29, 30, 31, 32, 33, 34, 35, 36, 37, 38, 39, 40, 41, 42, 43, 44, 45, 46, 47, 48, 49, 50, 51, 52, 53, 54, 55, 56, 57, 58, 59, 60, 61, 62, 63, 64, 65, 66, 67, 68, 69, 70, 71, 84, 85, 86, 87, 88, 89, 72, 73, 74, 75, 76, 77] rfl (by decide +kernel) rfl (by decide +kernel) (k_dis (by decide +kernel)) rfl (by decide +kernel)
set_option maxRecDepth 100000 in
theorem c_poolOut_13 (l : Launch) (D : va_G) (g : Nat → Nat) (ad : Nat → Nat → Nat) (p0 c0 b0 p1 c1 b1 : Nat) (sz : Nat) (v : KPV) (pl : Nat → KPV) : kMv l D g yX4_copyFrom wsX4_copyFrom 2 0 0 [.ref p0, .ref (ad 13 0)] (List.append [(p0, .inr (4, [.ref c0, .ref b0, .ref p1, .int v.1, .int v.2.1, .int v.2.2.1, .int v.2.2.2.1, .int v.2.2.2.2.1, .int v.2.2.2.2.2.1])), (p1, .inl (g 0, 80, .inl (v.2.2.2.2.2.2.1))), (c0, .inr (1, [.ref c1])), (c1, .inl (g 0, 480, .inl (v.2.2.2.2.2.2.2.1))), (b0, .inr (0, [.ref b1, .int v.2.2.2.2.2.2.2.2.1])), (b1, .inl (g 0, 60, .inl (v.2.2.2.2.2.2.2.2.2)))] (wPool g ad pl)) sz (List.append [(p0, .inr (4, [.ref c0, .ref b0, .ref p1, .int ((pl 13).1), .int ((pl 13).2.1), .int ((pl 13).2.2.1), .int ((pl 13).2.2.2.1), .int ((pl 13).2.2.2.2.1), .int ((pl 13).2.2.2.2.2.1)])), (p1, .inl (g 0, 80, .inl ((pl 13).2.2.2.2.2.2.1))), (c0, .inr (1, [.ref c1])), (c1, .inl (g 0, 480, .inl ((pl 13).2.2.2.2.2.2.2.1))), (b0, .inr (0, [.ref b1, .int ((pl 13).2.2.2.2.2.2.2.2.1)])), (b1, .inl (g 0, 60, .inl ((pl 13).2.2.2.2.2.2.2.2.2)))] (wPool g ad pl)) := k_frame_v (wr := wPl g (ad 0) (pl 0) ++ (wPl g (ad 1) (pl 1) ++ (wPl g (ad 2) (pl 2) ++ (wPl g (ad 3) (pl 3) ++ (wPl g (ad 4) (pl 4) ++ (wPl g (ad 5) (pl 5) ++ (wPl g (ad 6) (pl 6) ++ (wPl g (ad 7) (pl 7) ++ (wPl g (ad 8) (pl 8) ++ (wPl g (ad 9) (pl 9) ++ (wPl g (ad 10) (pl 10) ++ (wPl g (ad 11) (pl 11) ++ (wPl g (ad 12) (pl 12)))))))))))))) (c_gCopy l D g p0 (ad 13 0) c0 b0 p1 c1 b1 (ad 13 2) (ad 13 4) (ad 13 1) (ad 13 3) (ad 13 5) sz v (pl 13)) [0, 1, 2, 3, 4, 5, 84, 85, 86, 87, 88, 89] [6, 7, 8, 9, 10, 11, 12, 13, 14, 15, 16, 17, 18, 19, 20, 21, 22, 23, 24, 25, 26, 27, 28, 29, 30, 31, 32, 33, 34, 35, 36, 37, 38, 39, 40, 41, 42, 43, 44, 45, 46, 47, 48, 49, 50, 51, 52, 53, 54, 55, 56, 57, 58, 59, 60, 61, 62, 63, 64, 65, 66, 67, 68, 69, 70, 71, 72, 73, 74, 75, 76, 77, 78, 79, 80, 81, 82, 83] [78, 79, 80, 81, 82, 83, 0, 1, 2, 3, 4, 5, 6, 7, 8, 9, 10, 11, 12, 13, 14, 15, 16, 17, 18, 19, 20, 21, 22, 23, 24, 25, 26, 27, 28, 29, 30, 31, 32, 33, 34, 35, 36, 37, 38, 39, 40, 41, 42, 43, 44, 45, 46, 47, 48, 49, 50, 51, 52, 53, 54, 55, 56, 57, 58, 59, 60, 61, 62, 63, 64, 65, 66, 67, 68, 69, 70, 71, 72, 73, 74, 75, 76, 77, 84, 85, 86, 87, 88, 89] rfl (by decide +kernel) rfl (by decide +kernel) (k_dis (by decide +kernel)) rfl (by decide +kernel)
set_option maxRecDepth 100000 in
theorem c_poolOut (l : Launch) (D : va_G) (g : Nat → Nat) (ad : Nat → Nat → Nat) (p0 c0 b0 p1 c1 b1 : Nat) (sz : Nat) (v : KPV) (pl : Nat → KPV) (i : Nat) (hi : i < 14) : kMv l D g yX4_copyFrom wsX4_copyFrom 2 0 0 [.ref p0, .ref (ad i 0)] (List.append [(p0, .inr (4, [.ref c0, .ref b0, .ref p1, .int v.1, .int v.2.1, .int v.2.2.1, .int v.2.2.2.1, .int v.2.2.2.2.1, .int v.2.2.2.2.2.1])), (p1, .inl (g 0, 80, .inl (v.2.2.2.2.2.2.1))), (c0, .inr (1, [.ref c1])), (c1, .inl (g 0, 480, .inl (v.2.2.2.2.2.2.2.1))), (b0, .inr (0, [.ref b1, .int v.2.2.2.2.2.2.2.2.1])), (b1, .inl (g 0, 60, .inl (v.2.2.2.2.2.2.2.2.2)))] (wPool g ad pl)) sz (List.append [(p0, .inr (4, [.ref c0, .ref b0, .ref p1, .int ((pl i).1), .int ((pl i).2.1), .int ((pl i).2.2.1), .int ((pl i).2.2.2.1), .int ((pl i).2.2.2.2.1), .int ((pl i).2.2.2.2.2.1)])), (p1, .inl (g 0, 80, .inl ((pl i).2.2.2.2.2.2.1))), (c0, .inr (1, [.ref c1])), (c1, .inl (g 0, 480, .inl ((pl i).2.2.2.2.2.2.2.1))), (b0, .inr (0, [.ref b1, .int ((pl i).2.2.2.2.2.2.2.2.1)])), (b1, .inl (g 0, 60, .inl ((pl i).2.2.2.2.2.2.2.2.2)))] (wPool g ad pl)) := by
  by_cases e0 : i = 0
  · subst e0; exact c_poolOut_0 l D g ad p0 c0 b0 p1 c1 b1 sz v pl
  by_cases e1 : i = 1
  · subst e1; exact c_poolOut_1 l D g ad p0 c0 b0 p1 c1 b1 sz v pl
  by_cases e2 : i = 2
  · subst e2; exact c_poolOut_2 l D g ad p0 c0 b0 p1 c1 b1 sz v pl
  by_cases e3 : i = 3
  · subst e3; exact c_poolOut_3 l D g ad p0 c0 b0 p1 c1 b1 sz v pl
  by_cases e4 : i = 4
  · subst e4; exact c_poolOut_4 l D g ad p0 c0 b0 p1 c1 b1 sz v pl
  by_cases e5 : i = 5
  · subst e5; exact c_poolOut_5 l D g ad p0 c0 b0 p1 c1 b1 sz v pl
  by_cases e6 : i = 6
  · subst e6; exact c_poolOut_6 l D g ad p0 c0 b0 p1 c1 b1 sz v pl
  by_cases e7 : i = 7
  · subst e7; exact c_poolOut_7 l D g ad p0 c0 b0 p1 c1 b1 sz v pl
  by_cases e8 : i = 8
  · subst e8; exact c_poolOut_8 l D g ad p0 c0 b0 p1 c1 b1 sz v pl
  by_cases e9 : i = 9
  · subst e9; exact c_poolOut_9 l D g ad p0 c0 b0 p1 c1 b1 sz v pl
  by_cases e10 : i = 10
  · subst e10; exact c_poolOut_10 l D g ad p0 c0 b0 p1 c1 b1 sz v pl
  by_cases e11 : i = 11
  · subst e11; exact c_poolOut_11 l D g ad p0 c0 b0 p1 c1 b1 sz v pl
  by_cases e12 : i = 12
  · subst e12; exact c_poolOut_12 l D g ad p0 c0 b0 p1 c1 b1 sz v pl
  by_cases e13 : i = 13
  · subst e13; exact c_poolOut_13 l D g ad p0 c0 b0 p1 c1 b1 sz v pl
  omega
theorem pool_at {g : Nat → Nat} {ad : Nat → Nat → Nat} {pl : Nat → KPV} {i : Nat} (hi : i < 14) : ∃ (k : Nat) (fs : List Value), (wPool g ad pl)[k]? = some (ad i 0, .inr (4, fs)) := by
  by_cases e0 : i = 0
  · subst e0; exact ⟨0, _, rfl⟩
  by_cases e1 : i = 1
  · subst e1; exact ⟨6, _, rfl⟩
  by_cases e2 : i = 2
  · subst e2; exact ⟨12, _, rfl⟩
  by_cases e3 : i = 3
  · subst e3; exact ⟨18, _, rfl⟩
  by_cases e4 : i = 4
  · subst e4; exact ⟨24, _, rfl⟩
  by_cases e5 : i = 5
  · subst e5; exact ⟨30, _, rfl⟩
  by_cases e6 : i = 6
  · subst e6; exact ⟨36, _, rfl⟩
  by_cases e7 : i = 7
  · subst e7; exact ⟨42, _, rfl⟩
  by_cases e8 : i = 8
  · subst e8; exact ⟨48, _, rfl⟩
  by_cases e9 : i = 9
  · subst e9; exact ⟨54, _, rfl⟩
  by_cases e10 : i = 10
  · subst e10; exact ⟨60, _, rfl⟩
  by_cases e11 : i = 11
  · subst e11; exact ⟨66, _, rfl⟩
  by_cases e12 : i = 12
  · subst e12; exact ⟨72, _, rfl⟩
  by_cases e13 : i = 13
  · subst e13; exact ⟨78, _, rfl⟩
  omega
theorem pool_recv {s : State} {H : Heap} {D : va_G} {g : Nat → Nat} {ad : Nat → Nat → Nat} {pl : Nat → KPV} {X : va_W} {i : Nat} (hK : va_K D vwCl (kTy g) s) (hP : va_P D vwCl (List.append X (wPool g ad pl)) H) (hi : i < 14) : ∃ cell : Cell, H[ad i 0]? = some cell ∧ cell.vm.isStatics = false ∧ s.vm.findClass RX4 = some cell.cls := by
  obtain ⟨k, fs, h⟩ := pool_at (g := g) (ad := ad) (pl := pl) hi
  have h2 : (X ++ wPool g ad pl)[X.length + k]? = some (ad i 0, .inr (4, fs)) := by
    show (X ++ wPool g ad pl)[X.length + k]? = _
    rw [List.getElem?_append_right (by omega), show X.length + k - X.length = k by omega]
    exact h
  exact va_recv (ci := 4) (q := (RX4, TX4, 9)) (ws := X ++ wPool g ad pl) hK hP rfl h2
section KV
variable {p : Program} {l : Launch} {e : Env} {R : Room} {s : State} {m : MethodId} {args : Array Value} {below : List Frame} {meth : Method} {c : Code} {H : Heap} {locs : List Loc} {cells slots : Nat} {Q : State → Prop} {pc : Nat} {ls : Array Slot} {rest : List Value}
theorem k_topV {x y : Value} (h : x = y) (k : W p l e R s m args below meth c H locs cells slots Q (F0 m pc ls (y :: rest))) : W p l e R s m args below meth c H locs cells slots Q (F0 m pc ls (x :: rest)) := h ▸ k
end KV
theorem k_min_N {a b : Nat} (ha : a < 2 ^ 30) (hb : b < 2 ^ 30) : k_min (nI a) (nI b) = nI (min a b) := by
  unfold k_min
  by_cases h : nI b < nI a
  · rw [if_pos h]
    have := (nI_ltI (by omega) (by omega)).mp h
    rw [Nat.min_eq_right (by omega)]
  · rw [if_neg h]
    have : ¬ b < a := fun h9 => h ((nI_ltI (by omega) (by omega)).mpr h9)
    rw [Nat.min_eq_left (by omega)]
def f_X3_size (kc : Nat) : Nat :=
  kc
theorem qX3_size_0 : Cond.fieldLink RX3 16 "BlameChains$Memory" "kept" "I" ∈ wsX3_size := (List.mem_cons_of_mem _ (List.mem_append_left _ (List.mem_of_getElem? (i := 0) rfl)))
set_option maxHeartbeats 4000000 in
set_option maxRecDepth 100000 in
theorem c_X3_size (l : Launch) (D : va_G) (g : Nat → Nat) (k0 k1 : Nat) (sz : Nat) (nx : Nat) (kc : Nat) : kMi l D g yX3_size wsX3_size 1 0 0 [.ref k0] [(k0, .inr (3, [.ref k1, .int (nI nx), .int (nI kc)]))] sz (nI (f_X3_size kc)) [(k0, .inr (3, [.ref k1, .int (nI nx), .int (nI kc)]))] := by
  refine k_enter (nm := "size") (own := RX3) (bytes := cX3_size) (maxL := 1) (ret := (some .int)) (Qf := fun A => kQi D [(k0, .inr (3, [.ref k1, .int (nI nx), .int (nI kc)]))] A (nI (f_X3_size kc))) (by decide) rfl rfl rfl (Nat.le_of_ble_eq_true rfl) ?_
  rintro pp ee s mm below meth cc A ls args Q H locs hQ ⟨hx, hb, hr, hml, hown, hts, hlocks, hin⟩ hP hK hD hA hS hE hl
  have hl : lv_has ls 1 [(0, .ref k0)] := hl
  refine lv_aload_n hx hb dX3_size_0 rfl (lv_at hl 0 rfl) ?_
  refine va_get (D := D) (ci := 3) (v := .int (nI kc)) (C := RX3) (T := TX3) (N := 3) hx hb hts (fun w h => (List.mem_cons_of_mem _ (List.mem_append_right _ h))) hown hK hP 0 rfl rfl 2 (by decide) (hts _ qX3_size_0) (fun _ h9 => h9) rfl dX3_size_1 ?_
  have hE2 : (f_X3_size kc) = kc := by
    exact rfl
  subst hQ
  exact k_ri hx hb hr hlocks hP hD hS dX3_size_4 (by rw [hE2]) (rfl)
theorem qX3_forgetAll_0 : Cond.fieldLink RX3 16 "BlameChains$Memory" "kept" "I" ∈ wsX3_forgetAll := (List.mem_cons_of_mem _ (List.mem_append_left _ (List.mem_of_getElem? (i := 0) rfl)))
set_option maxHeartbeats 4000000 in
set_option maxRecDepth 100000 in
theorem c_X3_forgetAll (l : Launch) (D : va_G) (g : Nat → Nat) (k0 k1 : Nat) (sz : Nat) (nx : Nat) (kc : Nat) : kMv l D g yX3_forgetAll wsX3_forgetAll 1 0 0 [.ref k0] [(k0, .inr (3, [.ref k1, .int (nI nx), .int (nI kc)]))] sz [(k0, .inr (3, [.ref k1, .int (nI nx), .int 0]))] := by
  refine k_enter (nm := "forgetAll") (own := RX3) (bytes := cX3_forgetAll) (maxL := 1) (ret := none) (Qf := fun A => kQv D [(k0, .inr (3, [.ref k1, .int (nI nx), .int 0]))] A) (by decide) rfl rfl rfl (Nat.le_of_ble_eq_true rfl) ?_
  rintro pp ee s mm below meth cc A ls args Q H locs hQ ⟨hx, hb, hr, hml, hown, hts, hlocks, hin⟩ hP hK hD hA hS hE hl
  have hl : lv_has ls 1 [(0, .ref k0)] := hl
  refine lv_aload_n hx hb dX3_forgetAll_0 rfl (lv_at hl 0 rfl) ?_
  refine lv_iconst (v := 0) hx hb dX3_forgetAll_1 (by decide) ?_
  refine va_put (D := D) (ci := 3) (v := .int 0) (ty := .int) (C := RX3) (T := TX3) (N := 3) hx hb hts (fun w h => (List.mem_cons_of_mem _ (List.mem_append_right _ h))) tyX3 tyX3_ok nmX3 hown hK hP hD hS 0 rfl rfl 2 (by decide) (hts _ qX3_forgetAll_0) (fun _ h9 => h9) rfl (by decide +kernel) rfl rfl (Nat.le_of_ble_eq_true rfl) dX3_forgetAll_2 (fun H locs hP hD hS => ?_)
  have hP : va_P D vwCl [(k0, .inr (3, [.ref k1, .int (nI nx), .int 0]))] H := hP
  have hD : va_D A [(k0, .inr (3, [.ref k1, .int (nI nx), .int 0]))] := hD
  subst hQ
  exact k_rv hx hb hr hlocks hP hD hS dX3_forgetAll_5 rfl
def f_X3_remember (nx : Nat) (kc : Nat) (v : KPV) (pl : Nat → KPV) : Nat × Nat × (Nat → KPV) :=
  (((nx + 1) % 14), (min (kc + 1) 14), (updP pl nx v))
theorem qX3_remember_0 : Cond.fieldLink RX3 11 "BlameChains$Memory" "plans" "[LBlameChains$Plan;" ∈ wsX3_remember := (List.mem_cons_of_mem _ (List.mem_append_left _ (List.mem_append_left _ (List.mem_append_left _ (List.mem_append_left _ (List.mem_append_left _ (List.mem_of_getElem? (i := 0) rfl)))))))
theorem qX3_remember_1 : Cond.fieldLink RX3 20 "BlameChains$Memory" "next" "I" ∈ wsX3_remember := (List.mem_cons_of_mem _ (List.mem_append_left _ (List.mem_append_left _ (List.mem_append_left _ (List.mem_append_left _ (List.mem_append_left _ (List.mem_of_getElem? (i := 1) rfl)))))))
theorem qX3_remember_2 : Cond.fieldLink RX3 16 "BlameChains$Memory" "kept" "I" ∈ wsX3_remember := (List.mem_cons_of_mem _ (List.mem_append_left _ (List.mem_append_left _ (List.mem_append_left _ (List.mem_append_left _ (List.mem_append_left _ (List.mem_of_getElem? (i := 2) rfl)))))))
theorem qX3_remember_3 : Cond.methodLink RX3 27 Lib.Math.min.name ∈ wsX3_remember := (List.mem_cons_of_mem _ (List.mem_append_left _ (List.mem_append_left _ (List.mem_append_left _ (List.mem_append_left _ (List.mem_append_left _ (List.mem_of_getElem? (i := 3) rfl)))))))
theorem qX3_remember_4 : Cond.static Lib.Math.min.name ∈ wsX3_remember := (List.mem_cons_of_mem _ (List.mem_append_left _ (List.mem_append_left _ (List.mem_append_left _ (List.mem_append_left _ (List.mem_append_left _ (List.mem_of_getElem? (i := 4) rfl)))))))
theorem qX3_remember_5 : Cond.initialized "java/lang/Math" ∈ wsX3_remember := (List.mem_cons_of_mem _ (List.mem_append_left _ (List.mem_append_left _ (List.mem_append_left _ (List.mem_append_left _ (List.mem_append_left _ (List.mem_of_getElem? (i := 5) rfl)))))))
theorem qX3_remember_6 : Cond.code Lib.Math.min.name Lib.Math.min.code 2 (some .int) ∈ wsX3_remember := (List.mem_cons_of_mem _ (List.mem_append_left _ (List.mem_append_left _ (List.mem_append_left _ (List.mem_append_left _ (List.mem_append_left _ (List.mem_of_getElem? (i := 6) rfl)))))))
set_option maxHeartbeats 4000000 in
set_option maxRecDepth 100000 in
theorem c_X3_remember (l : Launch) (D : va_G) (g : Nat → Nat) (k0 p0 k1 c0 b0 p1 c1 b1 : Nat) (sz : Nat) (ad : Nat → Nat → Nat) (nx : Nat) (kc : Nat) (v : KPV) (pl : Nat → KPV) (hnx : nx < 14) (hkc : kc ≤ 14) : kMv l D g yX3_remember wsX3_remember 3 0 0 [.ref k0, .ref p0] (List.append [(k0, .inr (3, [.ref k1, .int (nI nx), .int (nI kc)])), (k1, .inl (g 3, 14, .inr (.inr (.inr (.inr (fun j => some (ad j 0))))))), (p0, .inr (4, [.ref c0, .ref b0, .ref p1, .int v.1, .int v.2.1, .int v.2.2.1, .int v.2.2.2.1, .int v.2.2.2.2.1, .int v.2.2.2.2.2.1])), (p1, .inl (g 0, 80, .inl (v.2.2.2.2.2.2.1))), (c0, .inr (1, [.ref c1])), (c1, .inl (g 0, 480, .inl (v.2.2.2.2.2.2.2.1))), (b0, .inr (0, [.ref b1, .int v.2.2.2.2.2.2.2.2.1])), (b1, .inl (g 0, 60, .inl (v.2.2.2.2.2.2.2.2.2)))] (wPool g ad pl)) sz (List.append [(k0, .inr (3, [.ref k1, .int (nI ((f_X3_remember nx kc v pl).1)), .int (nI ((f_X3_remember nx kc v pl).2.1))])), (k1, .inl (g 3, 14, .inr (.inr (.inr (.inr (fun j => some (ad j 0))))))), (p0, .inr (4, [.ref c0, .ref b0, .ref p1, .int v.1, .int v.2.1, .int v.2.2.1, .int v.2.2.2.1, .int v.2.2.2.2.1, .int v.2.2.2.2.2.1])), (p1, .inl (g 0, 80, .inl (v.2.2.2.2.2.2.1))), (c0, .inr (1, [.ref c1])), (c1, .inl (g 0, 480, .inl (v.2.2.2.2.2.2.2.1))), (b0, .inr (0, [.ref b1, .int v.2.2.2.2.2.2.2.2.1])), (b1, .inl (g 0, 60, .inl (v.2.2.2.2.2.2.2.2.2)))] (wPool g ad ((f_X3_remember nx kc v pl).2.2))) := by
  refine k_enter (nm := "remember") (own := RX3) (bytes := cX3_remember) (maxL := 2) (ret := none) (Qf := fun A => kQv D (List.append [(k0, .inr (3, [.ref k1, .int (nI ((f_X3_remember nx kc v pl).1)), .int (nI ((f_X3_remember nx kc v pl).2.1))])), (k1, .inl (g 3, 14, .inr (.inr (.inr (.inr (fun j => some (ad j 0))))))), (p0, .inr (4, [.ref c0, .ref b0, .ref p1, .int v.1, .int v.2.1, .int v.2.2.1, .int v.2.2.2.1, .int v.2.2.2.2.1, .int v.2.2.2.2.2.1])), (p1, .inl (g 0, 80, .inl (v.2.2.2.2.2.2.1))), (c0, .inr (1, [.ref c1])), (c1, .inl (g 0, 480, .inl (v.2.2.2.2.2.2.2.1))), (b0, .inr (0, [.ref b1, .int v.2.2.2.2.2.2.2.2.1])), (b1, .inl (g 0, 60, .inl (v.2.2.2.2.2.2.2.2.2)))] (wPool g ad ((f_X3_remember nx kc v pl).2.2))) A) (by decide) rfl rfl rfl (Nat.le_of_ble_eq_true rfl) ?_
  rintro pp ee s mm below meth cc A ls args Q H locs hQ ⟨hx, hb, hr, hml, hown, hts, hlocks, hin⟩ hP hK hD hA hS hE hl
  have hl : lv_has ls 2 [(0, .ref k0), (1, .ref p0)] := hl
  refine lv_aload_n hx hb dX3_remember_0 rfl (lv_at hl 0 rfl) ?_
  refine va_get (D := D) (ci := 3) (v := .ref k1) (C := RX3) (T := TX3) (N := 3) hx hb hts (fun w h => (List.mem_cons_of_mem _ (List.mem_append_left _ (List.mem_append_left _ (List.mem_append_left _ (List.mem_append_right _ h)))))) hown hK hP 0 rfl rfl 0 (by decide) (hts _ qX3_remember_0) (fun _ h9 => h9) rfl dX3_remember_1 ?_
  refine lv_aload_n hx hb dX3_remember_4 rfl (lv_at hl 0 rfl) ?_
  refine va_get (D := D) (ci := 3) (v := .int (nI nx)) (C := RX3) (T := TX3) (N := 3) hx hb hts (fun w h => (List.mem_cons_of_mem _ (List.mem_append_left _ (List.mem_append_left _ (List.mem_append_left _ (List.mem_append_right _ h)))))) hown hK hP 0 rfl rfl 1 (by decide) (hts _ qX3_remember_1) (fun _ h9 => h9) rfl dX3_remember_5 ?_
  refine va_aldq (i := (nI nx)) hx hb hK hP 1 3 rfl rfl (vp_in_nI (n := nx) (by omega) (by omega)) dX3_remember_8 ?_
  refine k_topV (y := .ref (ad nx 0)) (by rw [nI_clamp (by omega)]; rfl) ?_
  refine lv_aload_n hx hb dX3_remember_9 rfl (lv_at hl 1 rfl) ?_
  refine k_av (wr := [(k0, .inr (3, [.ref k1, .int (nI nx), .int (nI kc)])), (k1, .inl (g 3, 14, .inr (.inr (.inr (.inr (fun j => some (ad j 0)))))))]) (w2 := (List.append [(k0, .inr (3, [.ref k1, .int (nI nx), .int (nI kc)])), (k1, .inl (g 3, 14, .inr (.inr (.inr (.inr (fun j => some (ad j 0))))))), (p0, .inr (4, [.ref c0, .ref b0, .ref p1, .int v.1, .int v.2.1, .int v.2.2.1, .int v.2.2.2.1, .int v.2.2.2.2.1, .int v.2.2.2.2.2.1])), (p1, .inl (g 0, 80, .inl (v.2.2.2.2.2.2.1))), (c0, .inr (1, [.ref c1])), (c1, .inl (g 0, 480, .inl (v.2.2.2.2.2.2.2.1))), (b0, .inr (0, [.ref b1, .int v.2.2.2.2.2.2.2.2.1])), (b1, .inl (g 0, 60, .inl (v.2.2.2.2.2.2.2.2.2)))] (wPool g ad (updP pl nx v)))) (va_runV (As := [.ref p0]) (rest := []) ⟨hx, hb, hml, hown, hts⟩ (c_poolIn l D g ad p0 c0 b0 p1 c1 b1 H.size v pl nx (by omega)) (cwV 1 hts gX3_remember_X4_copyFrom rfl rfl rfl (by decide +kernel) (k_lvl (by omega) (by decide))) (kPVr hP hD hK hS hA hE [2, 3, 4, 5, 6, 7, 8, 9, 10, 11, 12, 13, 14, 15, 16, 17, 18, 19, 20, 21, 22, 23, 24, 25, 26, 27, 28, 29, 30, 31, 32, 33, 34, 35, 36, 37, 38, 39, 40, 41, 42, 43, 44, 45, 46, 47, 48, 49, 50, 51, 52, 53, 54, 55, 56, 57, 58, 59, 60, 61, 62, 63, 64, 65, 66, 67, 68, 69, 70, 71, 72, 73, 74, 75, 76, 77, 78, 79, 80, 81, 82, 83, 84, 85, 86, 87, 88, 89, 90, 91] rfl (by decide +kernel) (pool_recv hK hP (by omega))) rfl rfl hl.1 rfl (lv_room (Nat.le_of_ble_eq_true rfl)) dX3_remember_10 ⟨Nat.le_of_ble_eq_true rfl, Nat.le_of_ble_eq_true rfl⟩) hP hD hS hA [2, 3, 4, 5, 6, 7, 8, 9, 10, 11, 12, 13, 14, 15, 16, 17, 18, 19, 20, 21, 22, 23, 24, 25, 26, 27, 28, 29, 30, 31, 32, 33, 34, 35, 36, 37, 38, 39, 40, 41, 42, 43, 44, 45, 46, 47, 48, 49, 50, 51, 52, 53, 54, 55, 56, 57, 58, 59, 60, 61, 62, 63, 64, 65, 66, 67, 68, 69, 70, 71, 72, 73, 74, 75, 76, 77, 78, 79, 80, 81, 82, 83, 84, 85, 86, 87, 88, 89, 90, 91] [0, 1] [0, 1, 2, 3, 4, 5, 6, 7, 8, 9, 10, 11, 12, 13, 14, 15, 16, 17, 18, 19, 20, 21, 22, 23, 24, 25, 26, 27, 28, 29, 30, 31, 32, 33, 34, 35, 36, 37, 38, 39, 40, 41, 42, 43, 44, 45, 46, 47, 48, 49, 50, 51, 52, 53, 54, 55, 56, 57, 58, 59, 60, 61, 62, 63, 64, 65, 66, 67, 68, 69, 70, 71, 72, 73, 74, 75, 76, 77, 78, 79, 80, 81, 82, 83, 84, 85, 86, 87, 88, 89, 90, 91] rfl rfl (by decide +kernel) (k_dis (by decide +kernel)) rfl (by decide +kernel) (fun H locs hP hD hS => ?_)
  refine lv_aload_n hx hb dX3_remember_13 rfl (lv_at hl 0 rfl) ?_
  refine lv_aload_n hx hb dX3_remember_14 rfl (lv_at hl 0 rfl) ?_
  refine va_get (D := D) (ci := 3) (v := .int (nI nx)) (C := RX3) (T := TX3) (N := 3) hx hb hts (fun w h => (List.mem_cons_of_mem _ (List.mem_append_left _ (List.mem_append_left _ (List.mem_append_left _ (List.mem_append_right _ h)))))) hown hK hP 0 rfl rfl 1 (by decide) (hts _ qX3_remember_1) (fun _ h9 => h9) rfl dX3_remember_15 ?_
  refine lv_iconst (v := 1) hx hb dX3_remember_18 (by decide) ?_
  refine lv_iadd hx hb dX3_remember_19 ?_
  refine k_top (y := (nI (nx + 1))) (nI_add nx 1) ?_
  refine lv_bipush (v := 14) hx hb dX3_remember_20 (by decide) ?_
  refine lv_irem hx hb dX3_remember_22 (by decide) ?_
  refine k_top (y := (nI ((nx + 1) % 14))) (pk_rem (a := nx + 1) (d := 14) (by omega) (by decide) (by decide)) ?_
  refine va_put (D := D) (ci := 3) (v := .int (nI ((nx + 1) % 14))) (ty := .int) (C := RX3) (T := TX3) (N := 3) hx hb hts (fun w h => (List.mem_cons_of_mem _ (List.mem_append_left _ (List.mem_append_left _ (List.mem_append_left _ (List.mem_append_right _ h)))))) tyX3 tyX3_ok nmX3 hown hK hP hD hS 0 rfl rfl 1 (by decide) (hts _ qX3_remember_1) (fun _ h9 => h9) rfl (by decide +kernel) rfl rfl (Nat.le_of_ble_eq_true rfl) dX3_remember_23 (fun H locs hP hD hS => ?_)
  have hP : va_P D vwCl (List.append [(k0, .inr (3, [.ref k1, .int (nI ((nx + 1) % 14)), .int (nI kc)])), (k1, .inl (g 3, 14, .inr (.inr (.inr (.inr (fun j => some (ad j 0))))))), (p0, .inr (4, [.ref c0, .ref b0, .ref p1, .int v.1, .int v.2.1, .int v.2.2.1, .int v.2.2.2.1, .int v.2.2.2.2.1, .int v.2.2.2.2.2.1])), (p1, .inl (g 0, 80, .inl (v.2.2.2.2.2.2.1))), (c0, .inr (1, [.ref c1])), (c1, .inl (g 0, 480, .inl (v.2.2.2.2.2.2.2.1))), (b0, .inr (0, [.ref b1, .int v.2.2.2.2.2.2.2.2.1])), (b1, .inl (g 0, 60, .inl (v.2.2.2.2.2.2.2.2.2)))] (wPool g ad (updP pl nx v))) H := hP
  have hD : va_D A (List.append [(k0, .inr (3, [.ref k1, .int (nI ((nx + 1) % 14)), .int (nI kc)])), (k1, .inl (g 3, 14, .inr (.inr (.inr (.inr (fun j => some (ad j 0))))))), (p0, .inr (4, [.ref c0, .ref b0, .ref p1, .int v.1, .int v.2.1, .int v.2.2.1, .int v.2.2.2.1, .int v.2.2.2.2.1, .int v.2.2.2.2.2.1])), (p1, .inl (g 0, 80, .inl (v.2.2.2.2.2.2.1))), (c0, .inr (1, [.ref c1])), (c1, .inl (g 0, 480, .inl (v.2.2.2.2.2.2.2.1))), (b0, .inr (0, [.ref b1, .int v.2.2.2.2.2.2.2.2.1])), (b1, .inl (g 0, 60, .inl (v.2.2.2.2.2.2.2.2.2)))] (wPool g ad (updP pl nx v))) := hD
  refine lv_aload_n hx hb dX3_remember_26 rfl (lv_at hl 0 rfl) ?_
  refine lv_aload_n hx hb dX3_remember_27 rfl (lv_at hl 0 rfl) ?_
  refine va_get (D := D) (ci := 3) (v := .int (nI kc)) (C := RX3) (T := TX3) (N := 3) hx hb hts (fun w h => (List.mem_cons_of_mem _ (List.mem_append_left _ (List.mem_append_left _ (List.mem_append_left _ (List.mem_append_right _ h)))))) hown hK hP 0 rfl rfl 2 (by decide) (hts _ qX3_remember_2) (fun _ h9 => h9) rfl dX3_remember_28 ?_
  refine lv_iconst (v := 1) hx hb dX3_remember_31 (by decide) ?_
  refine lv_iadd hx hb dX3_remember_32 ?_
  refine k_top (y := (nI (kc + 1))) (nI_add kc 1) ?_
  refine lv_bipush (v := 14) hx hb dX3_remember_33 (by decide) ?_
  refine va_mmin hx hb (hml.trans hl.1.symm) hown (hts _ qX3_remember_3) (hts _ qX3_remember_4) (hts _ qX3_remember_5) (hts _ qX3_remember_6) (by first | exact Nat.le_of_ble_eq_true rfl | (simp; omega)) (by first | exact Nat.le_of_ble_eq_true rfl | (simp; omega)) (Nat.zero_le _) (Nat.zero_le _) dX3_remember_35 ?_
  refine k_top (y := (k_min (nI (kc + 1)) 14)) (rfl) ?_
  refine k_top (y := (nI (min (kc + 1) 14))) (k_min_N (a := kc + 1) (b := 14) (by omega) (by decide)) ?_
  refine va_put (D := D) (ci := 3) (v := .int (nI (min (kc + 1) 14))) (ty := .int) (C := RX3) (T := TX3) (N := 3) hx hb hts (fun w h => (List.mem_cons_of_mem _ (List.mem_append_left _ (List.mem_append_left _ (List.mem_append_left _ (List.mem_append_right _ h)))))) tyX3 tyX3_ok nmX3 hown hK hP hD hS 0 rfl rfl 2 (by decide) (hts _ qX3_remember_2) (fun _ h9 => h9) rfl (by decide +kernel) rfl rfl (Nat.le_of_ble_eq_true rfl) dX3_remember_38 (fun H locs hP hD hS => ?_)
  have hP : va_P D vwCl (List.append [(k0, .inr (3, [.ref k1, .int (nI ((nx + 1) % 14)), .int (nI (min (kc + 1) 14))])), (k1, .inl (g 3, 14, .inr (.inr (.inr (.inr (fun j => some (ad j 0))))))), (p0, .inr (4, [.ref c0, .ref b0, .ref p1, .int v.1, .int v.2.1, .int v.2.2.1, .int v.2.2.2.1, .int v.2.2.2.2.1, .int v.2.2.2.2.2.1])), (p1, .inl (g 0, 80, .inl (v.2.2.2.2.2.2.1))), (c0, .inr (1, [.ref c1])), (c1, .inl (g 0, 480, .inl (v.2.2.2.2.2.2.2.1))), (b0, .inr (0, [.ref b1, .int v.2.2.2.2.2.2.2.2.1])), (b1, .inl (g 0, 60, .inl (v.2.2.2.2.2.2.2.2.2)))] (wPool g ad (updP pl nx v))) H := hP
  have hD : va_D A (List.append [(k0, .inr (3, [.ref k1, .int (nI ((nx + 1) % 14)), .int (nI (min (kc + 1) 14))])), (k1, .inl (g 3, 14, .inr (.inr (.inr (.inr (fun j => some (ad j 0))))))), (p0, .inr (4, [.ref c0, .ref b0, .ref p1, .int v.1, .int v.2.1, .int v.2.2.1, .int v.2.2.2.1, .int v.2.2.2.2.1, .int v.2.2.2.2.2.1])), (p1, .inl (g 0, 80, .inl (v.2.2.2.2.2.2.1))), (c0, .inr (1, [.ref c1])), (c1, .inl (g 0, 480, .inl (v.2.2.2.2.2.2.2.1))), (b0, .inr (0, [.ref b1, .int v.2.2.2.2.2.2.2.2.1])), (b1, .inl (g 0, 60, .inl (v.2.2.2.2.2.2.2.2.2)))] (wPool g ad (updP pl nx v))) := hD
  have hE2 : (f_X3_remember nx kc v pl) = (((nx + 1) % 14), (min (kc + 1) 14), (updP pl nx v)) := by
    exact rfl
  subst hQ
  exact k_rv hx hb hr hlocks hP hD hS dX3_remember_41 (by rw [hE2])
def f_X3_takeBackInto (nx : Nat) (kc : Nat) (pl : Nat → KPV) : Nat × Nat × KPV :=
  (((nx + 14 - 1) % 14), (kc - 1), (pl ((nx + 14 - 1) % 14)))
theorem qX3_takeBackInto_0 : Cond.fieldLink RX3 20 "BlameChains$Memory" "next" "I" ∈ wsX3_takeBackInto := (List.mem_cons_of_mem _ (List.mem_append_left _ (List.mem_append_left _ (List.mem_append_left _ (List.mem_append_left _ (List.mem_append_left _ (List.mem_of_getElem? (i := 0) rfl)))))))
theorem qX3_takeBackInto_1 : Cond.fieldLink RX3 16 "BlameChains$Memory" "kept" "I" ∈ wsX3_takeBackInto := (List.mem_cons_of_mem _ (List.mem_append_left _ (List.mem_append_left _ (List.mem_append_left _ (List.mem_append_left _ (List.mem_append_left _ (List.mem_of_getElem? (i := 1) rfl)))))))
theorem qX3_takeBackInto_2 : Cond.fieldLink RX3 11 "BlameChains$Memory" "plans" "[LBlameChains$Plan;" ∈ wsX3_takeBackInto := (List.mem_cons_of_mem _ (List.mem_append_left _ (List.mem_append_left _ (List.mem_append_left _ (List.mem_append_left _ (List.mem_append_left _ (List.mem_of_getElem? (i := 2) rfl)))))))
set_option maxHeartbeats 4000000 in
set_option maxRecDepth 100000 in
theorem c_X3_takeBackInto (l : Launch) (D : va_G) (g : Nat → Nat) (k0 p0 k1 c0 b0 p1 c1 b1 : Nat) (sz : Nat) (ad : Nat → Nat → Nat) (nx : Nat) (kc : Nat) (v : KPV) (pl : Nat → KPV) (hnx : nx < 14) (hkc : 1 ≤ kc) (hk2 : kc ≤ 14) : kMv l D g yX3_takeBackInto wsX3_takeBackInto 3 0 0 [.ref k0, .ref p0] (List.append [(k0, .inr (3, [.ref k1, .int (nI nx), .int (nI kc)])), (k1, .inl (g 3, 14, .inr (.inr (.inr (.inr (fun j => some (ad j 0))))))), (p0, .inr (4, [.ref c0, .ref b0, .ref p1, .int v.1, .int v.2.1, .int v.2.2.1, .int v.2.2.2.1, .int v.2.2.2.2.1, .int v.2.2.2.2.2.1])), (p1, .inl (g 0, 80, .inl (v.2.2.2.2.2.2.1))), (c0, .inr (1, [.ref c1])), (c1, .inl (g 0, 480, .inl (v.2.2.2.2.2.2.2.1))), (b0, .inr (0, [.ref b1, .int v.2.2.2.2.2.2.2.2.1])), (b1, .inl (g 0, 60, .inl (v.2.2.2.2.2.2.2.2.2)))] (wPool g ad pl)) sz (List.append [(k0, .inr (3, [.ref k1, .int (nI ((f_X3_takeBackInto nx kc pl).1)), .int (nI ((f_X3_takeBackInto nx kc pl).2.1))])), (k1, .inl (g 3, 14, .inr (.inr (.inr (.inr (fun j => some (ad j 0))))))), (p0, .inr (4, [.ref c0, .ref b0, .ref p1, .int ((f_X3_takeBackInto nx kc pl).2.2.1), .int ((f_X3_takeBackInto nx kc pl).2.2.2.1), .int ((f_X3_takeBackInto nx kc pl).2.2.2.2.1), .int ((f_X3_takeBackInto nx kc pl).2.2.2.2.2.1), .int ((f_X3_takeBackInto nx kc pl).2.2.2.2.2.2.1), .int ((f_X3_takeBackInto nx kc pl).2.2.2.2.2.2.2.1)])), (p1, .inl (g 0, 80, .inl ((f_X3_takeBackInto nx kc pl).2.2.2.2.2.2.2.2.1))), (c0, .inr (1, [.ref c1])), (c1, .inl (g 0, 480, .inl ((f_X3_takeBackInto nx kc pl).2.2.2.2.2.2.2.2.2.1))), (b0, .inr (0, [.ref b1, .int ((f_X3_takeBackInto nx kc pl).2.2.2.2.2.2.2.2.2.2.1)])), (b1, .inl (g 0, 60, .inl ((f_X3_takeBackInto nx kc pl).2.2.2.2.2.2.2.2.2.2.2)))] (wPool g ad pl)) := by
  refine k_enter (nm := "takeBackInto") (own := RX3) (bytes := cX3_takeBackInto) (maxL := 2) (ret := none) (Qf := fun A => kQv D (List.append [(k0, .inr (3, [.ref k1, .int (nI ((f_X3_takeBackInto nx kc pl).1)), .int (nI ((f_X3_takeBackInto nx kc pl).2.1))])), (k1, .inl (g 3, 14, .inr (.inr (.inr (.inr (fun j => some (ad j 0))))))), (p0, .inr (4, [.ref c0, .ref b0, .ref p1, .int ((f_X3_takeBackInto nx kc pl).2.2.1), .int ((f_X3_takeBackInto nx kc pl).2.2.2.1), .int ((f_X3_takeBackInto nx kc pl).2.2.2.2.1), .int ((f_X3_takeBackInto nx kc pl).2.2.2.2.2.1), .int ((f_X3_takeBackInto nx kc pl).2.2.2.2.2.2.1), .int ((f_X3_takeBackInto nx kc pl).2.2.2.2.2.2.2.1)])), (p1, .inl (g 0, 80, .inl ((f_X3_takeBackInto nx kc pl).2.2.2.2.2.2.2.2.1))), (c0, .inr (1, [.ref c1])), (c1, .inl (g 0, 480, .inl ((f_X3_takeBackInto nx kc pl).2.2.2.2.2.2.2.2.2.1))), (b0, .inr (0, [.ref b1, .int ((f_X3_takeBackInto nx kc pl).2.2.2.2.2.2.2.2.2.2.1)])), (b1, .inl (g 0, 60, .inl ((f_X3_takeBackInto nx kc pl).2.2.2.2.2.2.2.2.2.2.2)))] (wPool g ad pl)) A) (by decide) rfl rfl rfl (Nat.le_of_ble_eq_true rfl) ?_
  rintro pp ee s mm below meth cc A ls args Q H locs hQ ⟨hx, hb, hr, hml, hown, hts, hlocks, hin⟩ hP hK hD hA hS hE hl
  have hl : lv_has ls 2 [(0, .ref k0), (1, .ref p0)] := hl
  refine lv_aload_n hx hb dX3_takeBackInto_0 rfl (lv_at hl 0 rfl) ?_
  refine lv_aload_n hx hb dX3_takeBackInto_1 rfl (lv_at hl 0 rfl) ?_
  refine va_get (D := D) (ci := 3) (v := .int (nI nx)) (C := RX3) (T := TX3) (N := 3) hx hb hts (fun w h => (List.mem_cons_of_mem _ (List.mem_append_left _ (List.mem_append_left _ (List.mem_append_left _ (List.mem_append_right _ h)))))) hown hK hP 0 rfl rfl 1 (by decide) (hts _ qX3_takeBackInto_0) (fun _ h9 => h9) rfl dX3_takeBackInto_2 ?_
  refine lv_bipush (v := 14) hx hb dX3_takeBackInto_5 (by decide) ?_
  refine lv_iadd hx hb dX3_takeBackInto_7 ?_
  refine k_top (y := (nI (nx + 14))) (nI_add nx 14) ?_
  refine lv_iconst (v := 1) hx hb dX3_takeBackInto_8 (by decide) ?_
  refine lv_isub hx hb dX3_takeBackInto_9 ?_
  refine k_top (y := (nI (nx + 14 - 1))) (pk_sub (a := nx + 14) (b := 1) (by omega)) ?_
  refine lv_bipush (v := 14) hx hb dX3_takeBackInto_10 (by decide) ?_
  refine lv_irem hx hb dX3_takeBackInto_12 (by decide) ?_
  refine k_top (y := (nI ((nx + 14 - 1) % 14))) (pk_rem (a := nx + 14 - 1) (d := 14) (by omega) (by decide) (by decide)) ?_
  refine va_put (D := D) (ci := 3) (v := .int (nI ((nx + 14 - 1) % 14))) (ty := .int) (C := RX3) (T := TX3) (N := 3) hx hb hts (fun w h => (List.mem_cons_of_mem _ (List.mem_append_left _ (List.mem_append_left _ (List.mem_append_left _ (List.mem_append_right _ h)))))) tyX3 tyX3_ok nmX3 hown hK hP hD hS 0 rfl rfl 1 (by decide) (hts _ qX3_takeBackInto_0) (fun _ h9 => h9) rfl (by decide +kernel) rfl rfl (Nat.le_of_ble_eq_true rfl) dX3_takeBackInto_13 (fun H locs hP hD hS => ?_)
  have hP : va_P D vwCl (List.append [(k0, .inr (3, [.ref k1, .int (nI ((nx + 14 - 1) % 14)), .int (nI kc)])), (k1, .inl (g 3, 14, .inr (.inr (.inr (.inr (fun j => some (ad j 0))))))), (p0, .inr (4, [.ref c0, .ref b0, .ref p1, .int v.1, .int v.2.1, .int v.2.2.1, .int v.2.2.2.1, .int v.2.2.2.2.1, .int v.2.2.2.2.2.1])), (p1, .inl (g 0, 80, .inl (v.2.2.2.2.2.2.1))), (c0, .inr (1, [.ref c1])), (c1, .inl (g 0, 480, .inl (v.2.2.2.2.2.2.2.1))), (b0, .inr (0, [.ref b1, .int v.2.2.2.2.2.2.2.2.1])), (b1, .inl (g 0, 60, .inl (v.2.2.2.2.2.2.2.2.2)))] (wPool g ad pl)) H := hP
  have hD : va_D A (List.append [(k0, .inr (3, [.ref k1, .int (nI ((nx + 14 - 1) % 14)), .int (nI kc)])), (k1, .inl (g 3, 14, .inr (.inr (.inr (.inr (fun j => some (ad j 0))))))), (p0, .inr (4, [.ref c0, .ref b0, .ref p1, .int v.1, .int v.2.1, .int v.2.2.1, .int v.2.2.2.1, .int v.2.2.2.2.1, .int v.2.2.2.2.2.1])), (p1, .inl (g 0, 80, .inl (v.2.2.2.2.2.2.1))), (c0, .inr (1, [.ref c1])), (c1, .inl (g 0, 480, .inl (v.2.2.2.2.2.2.2.1))), (b0, .inr (0, [.ref b1, .int v.2.2.2.2.2.2.2.2.1])), (b1, .inl (g 0, 60, .inl (v.2.2.2.2.2.2.2.2.2)))] (wPool g ad pl)) := hD
  refine lv_aload_n hx hb dX3_takeBackInto_16 rfl (lv_at hl 0 rfl) ?_
  refine lv_dup hx hb dX3_takeBackInto_17 rfl ?_
  refine va_get (D := D) (ci := 3) (v := .int (nI kc)) (C := RX3) (T := TX3) (N := 3) hx hb hts (fun w h => (List.mem_cons_of_mem _ (List.mem_append_left _ (List.mem_append_left _ (List.mem_append_left _ (List.mem_append_right _ h)))))) hown hK hP 0 rfl rfl 2 (by decide) (hts _ qX3_takeBackInto_1) (fun _ h9 => h9) rfl dX3_takeBackInto_18 ?_
  refine lv_iconst (v := 1) hx hb dX3_takeBackInto_21 (by decide) ?_
  refine lv_isub hx hb dX3_takeBackInto_22 ?_
  refine k_top (y := (nI (kc - 1))) (pk_sub (a := kc) (b := 1) (by omega)) ?_
  refine va_put (D := D) (ci := 3) (v := .int (nI (kc - 1))) (ty := .int) (C := RX3) (T := TX3) (N := 3) hx hb hts (fun w h => (List.mem_cons_of_mem _ (List.mem_append_left _ (List.mem_append_left _ (List.mem_append_left _ (List.mem_append_right _ h)))))) tyX3 tyX3_ok nmX3 hown hK hP hD hS 0 rfl rfl 2 (by decide) (hts _ qX3_takeBackInto_1) (fun _ h9 => h9) rfl (by decide +kernel) rfl rfl (Nat.le_of_ble_eq_true rfl) dX3_takeBackInto_23 (fun H locs hP hD hS => ?_)
  have hP : va_P D vwCl (List.append [(k0, .inr (3, [.ref k1, .int (nI ((nx + 14 - 1) % 14)), .int (nI (kc - 1))])), (k1, .inl (g 3, 14, .inr (.inr (.inr (.inr (fun j => some (ad j 0))))))), (p0, .inr (4, [.ref c0, .ref b0, .ref p1, .int v.1, .int v.2.1, .int v.2.2.1, .int v.2.2.2.1, .int v.2.2.2.2.1, .int v.2.2.2.2.2.1])), (p1, .inl (g 0, 80, .inl (v.2.2.2.2.2.2.1))), (c0, .inr (1, [.ref c1])), (c1, .inl (g 0, 480, .inl (v.2.2.2.2.2.2.2.1))), (b0, .inr (0, [.ref b1, .int v.2.2.2.2.2.2.2.2.1])), (b1, .inl (g 0, 60, .inl (v.2.2.2.2.2.2.2.2.2)))] (wPool g ad pl)) H := hP
  have hD : va_D A (List.append [(k0, .inr (3, [.ref k1, .int (nI ((nx + 14 - 1) % 14)), .int (nI (kc - 1))])), (k1, .inl (g 3, 14, .inr (.inr (.inr (.inr (fun j => some (ad j 0))))))), (p0, .inr (4, [.ref c0, .ref b0, .ref p1, .int v.1, .int v.2.1, .int v.2.2.1, .int v.2.2.2.1, .int v.2.2.2.2.1, .int v.2.2.2.2.2.1])), (p1, .inl (g 0, 80, .inl (v.2.2.2.2.2.2.1))), (c0, .inr (1, [.ref c1])), (c1, .inl (g 0, 480, .inl (v.2.2.2.2.2.2.2.1))), (b0, .inr (0, [.ref b1, .int v.2.2.2.2.2.2.2.2.1])), (b1, .inl (g 0, 60, .inl (v.2.2.2.2.2.2.2.2.2)))] (wPool g ad pl)) := hD
  refine lv_aload_n hx hb dX3_takeBackInto_26 rfl (lv_at hl 1 rfl) ?_
  refine lv_aload_n hx hb dX3_takeBackInto_27 rfl (lv_at hl 0 rfl) ?_
  refine va_get (D := D) (ci := 3) (v := .ref k1) (C := RX3) (T := TX3) (N := 3) hx hb hts (fun w h => (List.mem_cons_of_mem _ (List.mem_append_left _ (List.mem_append_left _ (List.mem_append_left _ (List.mem_append_right _ h)))))) hown hK hP 0 rfl rfl 0 (by decide) (hts _ qX3_takeBackInto_2) (fun _ h9 => h9) rfl dX3_takeBackInto_28 ?_
  refine lv_aload_n hx hb dX3_takeBackInto_31 rfl (lv_at hl 0 rfl) ?_
  refine va_get (D := D) (ci := 3) (v := .int (nI ((nx + 14 - 1) % 14))) (C := RX3) (T := TX3) (N := 3) hx hb hts (fun w h => (List.mem_cons_of_mem _ (List.mem_append_left _ (List.mem_append_left _ (List.mem_append_left _ (List.mem_append_right _ h)))))) hown hK hP 0 rfl rfl 1 (by decide) (hts _ qX3_takeBackInto_0) (fun _ h9 => h9) rfl dX3_takeBackInto_32 ?_
  refine va_aldq (i := (nI ((nx + 14 - 1) % 14))) hx hb hK hP 1 3 rfl rfl (vp_in_nI (n := ((nx + 14 - 1) % 14)) (by omega) (by omega)) dX3_takeBackInto_35 ?_
  refine k_topV (y := .ref (ad ((nx + 14 - 1) % 14) 0)) (by rw [nI_clamp (by omega)]; rfl) ?_
  refine k_av (wr := [(k0, .inr (3, [.ref k1, .int (nI ((nx + 14 - 1) % 14)), .int (nI (kc - 1))])), (k1, .inl (g 3, 14, .inr (.inr (.inr (.inr (fun j => some (ad j 0)))))))]) (w2 := (List.append [(k0, .inr (3, [.ref k1, .int (nI ((nx + 14 - 1) % 14)), .int (nI (kc - 1))])), (k1, .inl (g 3, 14, .inr (.inr (.inr (.inr (fun j => some (ad j 0))))))), (p0, .inr (4, [.ref c0, .ref b0, .ref p1, .int ((pl ((nx + 14 - 1) % 14)).1), .int ((pl ((nx + 14 - 1) % 14)).2.1), .int ((pl ((nx + 14 - 1) % 14)).2.2.1), .int ((pl ((nx + 14 - 1) % 14)).2.2.2.1), .int ((pl ((nx + 14 - 1) % 14)).2.2.2.2.1), .int ((pl ((nx + 14 - 1) % 14)).2.2.2.2.2.1)])), (p1, .inl (g 0, 80, .inl ((pl ((nx + 14 - 1) % 14)).2.2.2.2.2.2.1))), (c0, .inr (1, [.ref c1])), (c1, .inl (g 0, 480, .inl ((pl ((nx + 14 - 1) % 14)).2.2.2.2.2.2.2.1))), (b0, .inr (0, [.ref b1, .int ((pl ((nx + 14 - 1) % 14)).2.2.2.2.2.2.2.2.1)])), (b1, .inl (g 0, 60, .inl ((pl ((nx + 14 - 1) % 14)).2.2.2.2.2.2.2.2.2)))] (wPool g ad pl))) (va_runV (As := [.ref (ad ((nx + 14 - 1) % 14) 0)]) (rest := []) ⟨hx, hb, hml, hown, hts⟩ (c_poolOut l D g ad p0 c0 b0 p1 c1 b1 H.size v pl ((nx + 14 - 1) % 14) (by omega)) (cwV 1 hts gX3_takeBackInto_X4_copyFrom rfl rfl rfl (by decide +kernel) (k_lvl (by omega) (by decide))) (kPV hP hD hK hS hA hE [2, 3, 4, 5, 6, 7, 8, 9, 10, 11, 12, 13, 14, 15, 16, 17, 18, 19, 20, 21, 22, 23, 24, 25, 26, 27, 28, 29, 30, 31, 32, 33, 34, 35, 36, 37, 38, 39, 40, 41, 42, 43, 44, 45, 46, 47, 48, 49, 50, 51, 52, 53, 54, 55, 56, 57, 58, 59, 60, 61, 62, 63, 64, 65, 66, 67, 68, 69, 70, 71, 72, 73, 74, 75, 76, 77, 78, 79, 80, 81, 82, 83, 84, 85, 86, 87, 88, 89, 90, 91] rfl (by decide +kernel) 2 4 rfl rfl rfl) rfl rfl hl.1 rfl (lv_room (Nat.le_of_ble_eq_true rfl)) dX3_takeBackInto_36 ⟨Nat.le_of_ble_eq_true rfl, Nat.le_of_ble_eq_true rfl⟩) hP hD hS hA [2, 3, 4, 5, 6, 7, 8, 9, 10, 11, 12, 13, 14, 15, 16, 17, 18, 19, 20, 21, 22, 23, 24, 25, 26, 27, 28, 29, 30, 31, 32, 33, 34, 35, 36, 37, 38, 39, 40, 41, 42, 43, 44, 45, 46, 47, 48, 49, 50, 51, 52, 53, 54, 55, 56, 57, 58, 59, 60, 61, 62, 63, 64, 65, 66, 67, 68, 69, 70, 71, 72, 73, 74, 75, 76, 77, 78, 79, 80, 81, 82, 83, 84, 85, 86, 87, 88, 89, 90, 91] [0, 1] [0, 1, 2, 3, 4, 5, 6, 7, 8, 9, 10, 11, 12, 13, 14, 15, 16, 17, 18, 19, 20, 21, 22, 23, 24, 25, 26, 27, 28, 29, 30, 31, 32, 33, 34, 35, 36, 37, 38, 39, 40, 41, 42, 43, 44, 45, 46, 47, 48, 49, 50, 51, 52, 53, 54, 55, 56, 57, 58, 59, 60, 61, 62, 63, 64, 65, 66, 67, 68, 69, 70, 71, 72, 73, 74, 75, 76, 77, 78, 79, 80, 81, 82, 83, 84, 85, 86, 87, 88, 89, 90, 91] rfl rfl (by decide +kernel) (k_dis (by decide +kernel)) rfl (by decide +kernel) (fun H locs hP hD hS => ?_)
  have hE2 : (f_X3_takeBackInto nx kc pl) = (((nx + 14 - 1) % 14), (kc - 1), (pl ((nx + 14 - 1) % 14))) := by
    exact rfl
  subst hQ
  exact k_rv hx hb hr hlocks hP hD hS dX3_takeBackInto_39 (by rw [hE2])
def gf (script : Int64) : Nat → Int64
  | 0 => script
  | k + 1 => gf script k / 100000
theorem qX5_groupFromRight_0 : Cond.constantLong RX5 18 (100000) ∈ wsX5_groupFromRight := (List.mem_cons_of_mem _ (List.mem_of_getElem? (i := 0) rfl))
set_option maxHeartbeats 4000000 in
set_option maxRecDepth 100000 in
theorem c_X5_groupFromRight (l : Launch) (D : va_G) (g : Nat → Nat) (sz : Nat) (script : Int64) (many : Nat) (hm : many ≤ 100) : kMl l D g yX5_groupFromRight wsX5_groupFromRight 1 0 0 [.long script, .int (nI many)] [] sz (gf script many) [] := by
  refine k_enter (nm := "groupFromRight") (own := RX5) (bytes := cX5_groupFromRight) (maxL := 6) (ret := (some .long)) (Qf := fun A => kQl D [] A (gf script many)) (by decide) rfl rfl rfl (Nat.le_of_ble_eq_true rfl) ?_
  rintro pp ee s mm below meth cc A ls args Q H locs hQ ⟨hx, hb, hr, hml, hown, hts, hlocks, hin⟩ hP hK hD hA hS hE hl
  have hl : lv_has ls 6 [(0, .long script), (2, .int (nI many))] := hl
  refine lv_lload_n hx hb dX5_groupFromRight_0 rfl (lv_at hl 0 rfl) ?_
  refine lv_lstore_n (lv' := [(3, .long script), (0, .long script), (2, .int (nI many))]) hx hb dX5_groupFromRight_1 rfl hl (by decide) rfl (fun ls hl => ?_)
  refine lv_iconst (v := 0) hx hb dX5_groupFromRight_2 (by decide) ?_
  refine lv_istore (lv' := [(5, .int 0), (3, .long script), (0, .long script), (2, .int (nI many))]) hx hb dX5_groupFromRight_3 hl (by decide) rfl (fun ls hl => ?_)
  have hloop_5 : ∀ (nn_5 : Nat) (k : Nat) (a : Int64), many - k < nn_5 → ∀ (hk : k ≤ many) (ha : a = gf script k) (H : Heap) (locs : List Loc) (ls : Array Slot), va_P D vwCl [] H → va_D A [] → va_S A s.heap H locs → lv_has ls 6 [(5, .int (nI k)), (3, .long a), (2, .int (nI many))] → W pp l ee (kR 1 0 0) s mm args below meth cc H locs 0 0 Q (F0 mm 5 ls []) := by
    intro nn_5
    induction nn_5 with
    | zero => intro k a hm9; exact absurd hm9 (Nat.not_lt_zero _)
    | succ nn_5 ih_5 =>
      intro k a hm_5 hk ha H locs ls hP hD hS hl
      refine lv_iload hx hb dX5_groupFromRight_5 (lv_at hl 0 rfl) ?_
      refine lv_iload_n hx hb dX5_groupFromRight_7 rfl (lv_at hl 2 rfl) ?_
      refine lv_icmp_ge (tgt := 23) hx hb dX5_groupFromRight_8 (by decide) (fun c_1 => ?_) (fun c_1 => ?_)
      · have c_1 : many ≤ k := (nI_leI (a := many) (b := k) (by omega) (by omega)).mp c_1
        refine lv_lload_n hx hb dX5_groupFromRight_23 rfl (lv_at hl 1 rfl) ?_
        subst hQ
        exact k_rl hx hb hr hlocks hP hD hS dX5_groupFromRight_24 (by rw [ha, show k = many by omega]) (rfl)
      · have c_1 : ¬ (many ≤ k) := fun h9 => c_1 ((nI_leI (a := many) (b := k) (by omega) (by omega)).mpr h9)
        refine lv_lload_n hx hb dX5_groupFromRight_11 rfl (lv_at hl 1 rfl) ?_
        refine lv_ldc2 hx hb hown (hts _ qX5_groupFromRight_0) dX5_groupFromRight_12 ?_
        refine lv_ldiv hx hb dX5_groupFromRight_15 (by decide) ?_
        refine lv_lstore_n (lv' := [(3, .long (a / 100000)), (5, .int (nI k)), (2, .int (nI many))]) hx hb dX5_groupFromRight_16 rfl hl (by decide) rfl (fun ls hl => ?_)
        refine lv_iinc (v := (nI (k + 1))) (lv' := [(5, .int (nI (k + 1))), (3, .long (a / 100000)), (2, .int (nI many))]) hx hb dX5_groupFromRight_17 hl (k := 1) rfl (nI_1 _) (by decide) rfl (fun ls hl => ?_)
        refine lv_goto (tgt := 5) hx hb dX5_groupFromRight_20 (by decide) ?_
        exact ih_5 (k + 1) (a / 100000) (by omega) (by omega) (by rw [ha]; rfl) H locs ls hP hD hS (lv_sub hl [0, 1, 2] rfl)
  exact hloop_5 ((many - 0) + 1) 0 script (Nat.lt_succ_self _) (by omega) rfl H locs ls hP hD hS (lv_sub hl [0, 1, 3] rfl)
def f_X5_isChained (v : KPV) (pa : Int32) (qa : Int32) : Int32 × KPV :=
  let v_3 := (gChain v pa qa 0)
  if (f_X4_hasPart v.1 pa) = 0 then
    (0, v)
  else
    if (f_X4_mayChainTo pa qa) = 0 then
      (0, v)
    else
      (1, v_3)
theorem qX5_isChained_0 : Cond.fieldLink RX5 9 "BlameChains$Script" "copy" "LBlameChains$Plan;" ∈ wsX5_isChained := (List.mem_cons_of_mem _ (List.mem_append_left _ (List.mem_append_left _ (List.mem_of_getElem? (i := 0) rfl))))
set_option maxHeartbeats 4000000 in
set_option maxRecDepth 100000 in
theorem c_X5_isChained (l : Launch) (D : va_G) (g : Nat → Nat) (s0 p0c p0t c0c b0c p1c c1c b1c : Nat) (sz : Nat) (v : KPV) (pa : Int32) (qa : Int32) : kMi l D g yX5_isChained wsX5_isChained 3 0 0 [.ref s0, .int pa, .int qa] [(s0, .inr (5, [.ref p0c, .ref p0t])), (p0c, .inr (4, [.ref c0c, .ref b0c, .ref p1c, .int v.1, .int v.2.1, .int v.2.2.1, .int v.2.2.2.1, .int v.2.2.2.2.1, .int v.2.2.2.2.2.1])), (p1c, .inl (g 0, 80, .inl (v.2.2.2.2.2.2.1))), (c0c, .inr (1, [.ref c1c])), (c1c, .inl (g 0, 480, .inl (v.2.2.2.2.2.2.2.1))), (b0c, .inr (0, [.ref b1c, .int v.2.2.2.2.2.2.2.2.1])), (b1c, .inl (g 0, 60, .inl (v.2.2.2.2.2.2.2.2.2)))] sz ((f_X5_isChained v pa qa).1) [(s0, .inr (5, [.ref p0c, .ref p0t])), (p0c, .inr (4, [.ref c0c, .ref b0c, .ref p1c, .int ((f_X5_isChained v pa qa).2.1), .int ((f_X5_isChained v pa qa).2.2.1), .int ((f_X5_isChained v pa qa).2.2.2.1), .int ((f_X5_isChained v pa qa).2.2.2.2.1), .int ((f_X5_isChained v pa qa).2.2.2.2.2.1), .int ((f_X5_isChained v pa qa).2.2.2.2.2.2.1)])), (p1c, .inl (g 0, 80, .inl ((f_X5_isChained v pa qa).2.2.2.2.2.2.2.1))), (c0c, .inr (1, [.ref c1c])), (c1c, .inl (g 0, 480, .inl ((f_X5_isChained v pa qa).2.2.2.2.2.2.2.2.1))), (b0c, .inr (0, [.ref b1c, .int ((f_X5_isChained v pa qa).2.2.2.2.2.2.2.2.2.1)])), (b1c, .inl (g 0, 60, .inl ((f_X5_isChained v pa qa).2.2.2.2.2.2.2.2.2.2)))] := by
  refine k_enter (nm := "isChained") (own := RX5) (bytes := cX5_isChained) (maxL := 3) (ret := (some .boolean)) (Qf := fun A => kQi D [(s0, .inr (5, [.ref p0c, .ref p0t])), (p0c, .inr (4, [.ref c0c, .ref b0c, .ref p1c, .int ((f_X5_isChained v pa qa).2.1), .int ((f_X5_isChained v pa qa).2.2.1), .int ((f_X5_isChained v pa qa).2.2.2.1), .int ((f_X5_isChained v pa qa).2.2.2.2.1), .int ((f_X5_isChained v pa qa).2.2.2.2.2.1), .int ((f_X5_isChained v pa qa).2.2.2.2.2.2.1)])), (p1c, .inl (g 0, 80, .inl ((f_X5_isChained v pa qa).2.2.2.2.2.2.2.1))), (c0c, .inr (1, [.ref c1c])), (c1c, .inl (g 0, 480, .inl ((f_X5_isChained v pa qa).2.2.2.2.2.2.2.2.1))), (b0c, .inr (0, [.ref b1c, .int ((f_X5_isChained v pa qa).2.2.2.2.2.2.2.2.2.1)])), (b1c, .inl (g 0, 60, .inl ((f_X5_isChained v pa qa).2.2.2.2.2.2.2.2.2.2)))] A ((f_X5_isChained v pa qa).1)) (by decide) rfl rfl rfl (Nat.le_of_ble_eq_true rfl) ?_
  rintro pp ee s mm below meth cc A ls args Q H locs hQ ⟨hx, hb, hr, hml, hown, hts, hlocks, hin⟩ hP hK hD hA hS hE hl
  have hl : lv_has ls 3 [(0, .ref s0), (1, .int pa), (2, .int qa)] := hl
  refine lv_aload_n hx hb dX5_isChained_0 rfl (lv_at hl 0 rfl) ?_
  refine va_get (D := D) (ci := 5) (v := .ref p0c) (C := RX5) (T := TX5) (N := 2) hx hb hts (fun w h => (List.mem_cons_of_mem _ (List.mem_append_left _ (List.mem_append_right _ h)))) hown hK hP 0 rfl rfl 0 (by decide) (hts _ qX5_isChained_0) (fun _ h9 => h9) rfl dX5_isChained_1 ?_
  refine lv_iload_n hx hb dX5_isChained_4 rfl (lv_at hl 1 rfl) ?_
  refine k_ai (wr := [(s0, .inr (5, [.ref p0c, .ref p0t])), (p1c, .inl (g 0, 80, .inl (v.2.2.2.2.2.2.1))), (c0c, .inr (1, [.ref c1c])), (c1c, .inl (g 0, 480, .inl (v.2.2.2.2.2.2.2.1))), (b0c, .inr (0, [.ref b1c, .int v.2.2.2.2.2.2.2.2.1])), (b1c, .inl (g 0, 60, .inl (v.2.2.2.2.2.2.2.2.2)))]) (w2 := [(s0, .inr (5, [.ref p0c, .ref p0t])), (p0c, .inr (4, [.ref c0c, .ref b0c, .ref p1c, .int v.1, .int v.2.1, .int v.2.2.1, .int v.2.2.2.1, .int v.2.2.2.2.1, .int v.2.2.2.2.2.1])), (p1c, .inl (g 0, 80, .inl (v.2.2.2.2.2.2.1))), (c0c, .inr (1, [.ref c1c])), (c1c, .inl (g 0, 480, .inl (v.2.2.2.2.2.2.2.1))), (b0c, .inr (0, [.ref b1c, .int v.2.2.2.2.2.2.2.2.1])), (b1c, .inl (g 0, 60, .inl (v.2.2.2.2.2.2.2.2.2)))]) (va_runV (As := [.int pa]) (rest := []) ⟨hx, hb, hml, hown, hts⟩ (c_X4_hasPart l D g p0c c0c b0c p1c H.size v.1 v.2.1 v.2.2.1 v.2.2.2.1 v.2.2.2.2.1 v.2.2.2.2.2.1 pa) (cwV 1 hts gX5_isChained_X4_hasPart rfl rfl rfl (by decide +kernel) (k_lvl (by omega) (by decide))) (kPV hP hD hK hS hA hE [1] rfl (by decide) 1 4 rfl rfl rfl) rfl rfl hl.1 rfl (lv_room (Nat.le_of_ble_eq_true rfl)) dX5_isChained_5 ⟨Nat.le_of_ble_eq_true rfl, Nat.le_of_ble_eq_true rfl⟩) hP hD hS hA [1] [0, 2, 3, 4, 5, 6] [0, 6, 1, 2, 3, 4, 5] rfl rfl (by decide) (by decide) rfl (by decide) (fun H locs hP hD hS => ?_)
  refine lv_if_eq (tgt := 23) hx hb dX5_isChained_8 (by decide) (fun c_1 => ?_) (fun c_1 => ?_)
  · refine lv_iconst (v := 0) hx hb dX5_isChained_23 (by decide) ?_
    have hE2 : (f_X5_isChained v pa qa) = (0, v) := by
      exact (if_pos c_1).trans (rfl)
    subst hQ
    exact k_rz hx hb hr hlocks hP hD hS dX5_isChained_24 (by rfl) (by rw [hE2]) (by rw [hE2])
  · refine lv_aload_n hx hb dX5_isChained_11 rfl (lv_at hl 0 rfl) ?_
    refine va_get (D := D) (ci := 5) (v := .ref p0c) (C := RX5) (T := TX5) (N := 2) hx hb hts (fun w h => (List.mem_cons_of_mem _ (List.mem_append_left _ (List.mem_append_right _ h)))) hown hK hP 0 rfl rfl 0 (by decide) (hts _ qX5_isChained_0) (fun _ h9 => h9) rfl dX5_isChained_12 ?_
    refine lv_iload_n hx hb dX5_isChained_15 rfl (lv_at hl 1 rfl) ?_
    refine lv_iload_n hx hb dX5_isChained_16 rfl (lv_at hl 2 rfl) ?_
    refine k_ai (wr := [(s0, .inr (5, [.ref p0c, .ref p0t])), (p1c, .inl (g 0, 80, .inl (v.2.2.2.2.2.2.1))), (c0c, .inr (1, [.ref c1c])), (c1c, .inl (g 0, 480, .inl (v.2.2.2.2.2.2.2.1))), (b0c, .inr (0, [.ref b1c, .int v.2.2.2.2.2.2.2.2.1])), (b1c, .inl (g 0, 60, .inl (v.2.2.2.2.2.2.2.2.2)))]) (w2 := [(s0, .inr (5, [.ref p0c, .ref p0t])), (p0c, .inr (4, [.ref c0c, .ref b0c, .ref p1c, .int v.1, .int v.2.1, .int v.2.2.1, .int v.2.2.2.1, .int v.2.2.2.2.1, .int v.2.2.2.2.2.1])), (p1c, .inl (g 0, 80, .inl (v.2.2.2.2.2.2.1))), (c0c, .inr (1, [.ref c1c])), (c1c, .inl (g 0, 480, .inl (v.2.2.2.2.2.2.2.1))), (b0c, .inr (0, [.ref b1c, .int v.2.2.2.2.2.2.2.2.1])), (b1c, .inl (g 0, 60, .inl (v.2.2.2.2.2.2.2.2.2)))]) (va_runV (As := [.int pa, .int qa]) (rest := []) ⟨hx, hb, hml, hown, hts⟩ (c_X4_mayChainTo l D g p0c c0c b0c p1c H.size v.1 v.2.1 v.2.2.1 v.2.2.2.1 v.2.2.2.2.1 v.2.2.2.2.2.1 pa qa) (cwV 2 hts gX5_isChained_X4_mayChainTo rfl rfl rfl (by decide +kernel) (k_lvl (by omega) (by decide))) (kPV hP hD hK hS hA hE [1] rfl (by decide) 1 4 rfl rfl rfl) rfl rfl hl.1 rfl (lv_room (Nat.le_of_ble_eq_true rfl)) dX5_isChained_17 ⟨Nat.le_of_ble_eq_true rfl, Nat.le_of_ble_eq_true rfl⟩) hP hD hS hA [1] [0, 2, 3, 4, 5, 6] [0, 6, 1, 2, 3, 4, 5] rfl rfl (by decide) (by decide) rfl (by decide) (fun H locs hP hD hS => ?_)
    refine lv_if_ne (tgt := 25) hx hb dX5_isChained_20 (by decide) (fun c_2 => ?_) (fun c_2 => ?_)
    · refine lv_aload_n hx hb dX5_isChained_25 rfl (lv_at hl 0 rfl) ?_
      refine va_get (D := D) (ci := 5) (v := .ref p0c) (C := RX5) (T := TX5) (N := 2) hx hb hts (fun w h => (List.mem_cons_of_mem _ (List.mem_append_left _ (List.mem_append_right _ h)))) hown hK hP 0 rfl rfl 0 (by decide) (hts _ qX5_isChained_0) (fun _ h9 => h9) rfl dX5_isChained_26 ?_
      refine lv_iload_n hx hb dX5_isChained_29 rfl (lv_at hl 1 rfl) ?_
      refine lv_iload_n hx hb dX5_isChained_30 rfl (lv_at hl 2 rfl) ?_
      refine lv_iconst (v := 0) hx hb dX5_isChained_31 (by decide) ?_
      have hC := c_gChain l D g p0c c0c b0c p1c c1c b1c H.size v pa qa 0
      obtain ⟨v_3, ev_3⟩ : ∃ z, z = (gChain v pa qa 0) := ⟨_, rfl⟩
      rw [← ev_3] at hC
      have kev_3 : kEq v_3 (gChain v pa qa 0) := ev_3
      clear ev_3
      refine k_av (wr := [(s0, .inr (5, [.ref p0c, .ref p0t]))]) (w2 := [(s0, .inr (5, [.ref p0c, .ref p0t])), (p0c, .inr (4, [.ref c0c, .ref b0c, .ref p1c, .int v_3.1, .int v_3.2.1, .int v_3.2.2.1, .int v_3.2.2.2.1, .int v_3.2.2.2.2.1, .int v_3.2.2.2.2.2.1])), (p1c, .inl (g 0, 80, .inl (v_3.2.2.2.2.2.2.1))), (c0c, .inr (1, [.ref c1c])), (c1c, .inl (g 0, 480, .inl (v_3.2.2.2.2.2.2.2.1))), (b0c, .inr (0, [.ref b1c, .int v_3.2.2.2.2.2.2.2.2.1])), (b1c, .inl (g 0, 60, .inl (v_3.2.2.2.2.2.2.2.2.2)))]) (va_runV (As := [.int pa, .int qa, .int 0]) (rest := []) ⟨hx, hb, hml, hown, hts⟩ hC (cwV 3 hts gX5_isChained_X4_chainTo rfl rfl rfl (by decide +kernel) (k_lvl (by omega) (by decide))) (kPV hP hD hK hS hA hE [1, 2, 3, 4, 5, 6] rfl (by decide) 1 4 rfl rfl rfl) rfl rfl hl.1 rfl (lv_room (Nat.le_of_ble_eq_true rfl)) dX5_isChained_32 ⟨Nat.le_of_ble_eq_true rfl, Nat.le_of_ble_eq_true rfl⟩) hP hD hS hA [1, 2, 3, 4, 5, 6] [0] [0, 1, 2, 3, 4, 5, 6] rfl rfl (by decide) (by decide) rfl (by decide) (fun H locs hP hD hS => ?_)
      refine lv_iconst (v := 1) hx hb dX5_isChained_35 (by decide) ?_
      have ev_3 : (gChain v pa qa 0) = v_3 := Eq.symm kev_3
      have hE2 : (f_X5_isChained v pa qa) = (1, v_3) := by
        subst ev_3
        exact (if_neg c_1).trans ((if_neg c_2).trans (rfl))
      subst hQ
      exact k_rz hx hb hr hlocks hP hD hS dX5_isChained_36 (by rfl) (by rw [hE2]) (by rw [hE2])
    · refine lv_iconst (v := 0) hx hb dX5_isChained_23 (by decide) ?_
      have hE2 : (f_X5_isChained v pa qa) = (0, v) := by
        exact (if_neg c_1).trans ((if_pos c_2).trans (rfl))
      subst hQ
      exact k_rz hx hb hr hlocks hP hD hS dX5_isChained_24 (by rfl) (by rw [hE2]) (by rw [hE2])
def f_X5_isNetted (v : KPV) (pa : Int32) (net : Int32) : Int32 × KPV :=
  let v_2 := (gNet v pa net)
  if (f_X4_hasPart v.1 pa) = 0 then
    (0, v)
  else
    (1, v_2)
theorem qX5_isNetted_0 : Cond.fieldLink RX5 9 "BlameChains$Script" "copy" "LBlameChains$Plan;" ∈ wsX5_isNetted := (List.mem_cons_of_mem _ (List.mem_append_left _ (List.mem_append_left _ (List.mem_of_getElem? (i := 0) rfl))))
set_option maxHeartbeats 4000000 in
set_option maxRecDepth 100000 in
theorem c_X5_isNetted (l : Launch) (D : va_G) (g : Nat → Nat) (s0 p0c p0t c0c b0c p1c c1c b1c : Nat) (sz : Nat) (v : KPV) (pa : Int32) (net : Int32) : kMi l D g yX5_isNetted wsX5_isNetted 3 0 0 [.ref s0, .int pa, .int net] [(s0, .inr (5, [.ref p0c, .ref p0t])), (p0c, .inr (4, [.ref c0c, .ref b0c, .ref p1c, .int v.1, .int v.2.1, .int v.2.2.1, .int v.2.2.2.1, .int v.2.2.2.2.1, .int v.2.2.2.2.2.1])), (p1c, .inl (g 0, 80, .inl (v.2.2.2.2.2.2.1))), (c0c, .inr (1, [.ref c1c])), (c1c, .inl (g 0, 480, .inl (v.2.2.2.2.2.2.2.1))), (b0c, .inr (0, [.ref b1c, .int v.2.2.2.2.2.2.2.2.1])), (b1c, .inl (g 0, 60, .inl (v.2.2.2.2.2.2.2.2.2)))] sz ((f_X5_isNetted v pa net).1) [(s0, .inr (5, [.ref p0c, .ref p0t])), (p0c, .inr (4, [.ref c0c, .ref b0c, .ref p1c, .int ((f_X5_isNetted v pa net).2.1), .int ((f_X5_isNetted v pa net).2.2.1), .int ((f_X5_isNetted v pa net).2.2.2.1), .int ((f_X5_isNetted v pa net).2.2.2.2.1), .int ((f_X5_isNetted v pa net).2.2.2.2.2.1), .int ((f_X5_isNetted v pa net).2.2.2.2.2.2.1)])), (p1c, .inl (g 0, 80, .inl ((f_X5_isNetted v pa net).2.2.2.2.2.2.2.1))), (c0c, .inr (1, [.ref c1c])), (c1c, .inl (g 0, 480, .inl ((f_X5_isNetted v pa net).2.2.2.2.2.2.2.2.1))), (b0c, .inr (0, [.ref b1c, .int ((f_X5_isNetted v pa net).2.2.2.2.2.2.2.2.2.1)])), (b1c, .inl (g 0, 60, .inl ((f_X5_isNetted v pa net).2.2.2.2.2.2.2.2.2.2)))] := by
  refine k_enter (nm := "isNetted") (own := RX5) (bytes := cX5_isNetted) (maxL := 3) (ret := (some .boolean)) (Qf := fun A => kQi D [(s0, .inr (5, [.ref p0c, .ref p0t])), (p0c, .inr (4, [.ref c0c, .ref b0c, .ref p1c, .int ((f_X5_isNetted v pa net).2.1), .int ((f_X5_isNetted v pa net).2.2.1), .int ((f_X5_isNetted v pa net).2.2.2.1), .int ((f_X5_isNetted v pa net).2.2.2.2.1), .int ((f_X5_isNetted v pa net).2.2.2.2.2.1), .int ((f_X5_isNetted v pa net).2.2.2.2.2.2.1)])), (p1c, .inl (g 0, 80, .inl ((f_X5_isNetted v pa net).2.2.2.2.2.2.2.1))), (c0c, .inr (1, [.ref c1c])), (c1c, .inl (g 0, 480, .inl ((f_X5_isNetted v pa net).2.2.2.2.2.2.2.2.1))), (b0c, .inr (0, [.ref b1c, .int ((f_X5_isNetted v pa net).2.2.2.2.2.2.2.2.2.1)])), (b1c, .inl (g 0, 60, .inl ((f_X5_isNetted v pa net).2.2.2.2.2.2.2.2.2.2)))] A ((f_X5_isNetted v pa net).1)) (by decide) rfl rfl rfl (Nat.le_of_ble_eq_true rfl) ?_
  rintro pp ee s mm below meth cc A ls args Q H locs hQ ⟨hx, hb, hr, hml, hown, hts, hlocks, hin⟩ hP hK hD hA hS hE hl
  have hl : lv_has ls 3 [(0, .ref s0), (1, .int pa), (2, .int net)] := hl
  refine lv_aload_n hx hb dX5_isNetted_0 rfl (lv_at hl 0 rfl) ?_
  refine va_get (D := D) (ci := 5) (v := .ref p0c) (C := RX5) (T := TX5) (N := 2) hx hb hts (fun w h => (List.mem_cons_of_mem _ (List.mem_append_left _ (List.mem_append_right _ h)))) hown hK hP 0 rfl rfl 0 (by decide) (hts _ qX5_isNetted_0) (fun _ h9 => h9) rfl dX5_isNetted_1 ?_
  refine lv_iload_n hx hb dX5_isNetted_4 rfl (lv_at hl 1 rfl) ?_
  refine k_ai (wr := [(s0, .inr (5, [.ref p0c, .ref p0t])), (p1c, .inl (g 0, 80, .inl (v.2.2.2.2.2.2.1))), (c0c, .inr (1, [.ref c1c])), (c1c, .inl (g 0, 480, .inl (v.2.2.2.2.2.2.2.1))), (b0c, .inr (0, [.ref b1c, .int v.2.2.2.2.2.2.2.2.1])), (b1c, .inl (g 0, 60, .inl (v.2.2.2.2.2.2.2.2.2)))]) (w2 := [(s0, .inr (5, [.ref p0c, .ref p0t])), (p0c, .inr (4, [.ref c0c, .ref b0c, .ref p1c, .int v.1, .int v.2.1, .int v.2.2.1, .int v.2.2.2.1, .int v.2.2.2.2.1, .int v.2.2.2.2.2.1])), (p1c, .inl (g 0, 80, .inl (v.2.2.2.2.2.2.1))), (c0c, .inr (1, [.ref c1c])), (c1c, .inl (g 0, 480, .inl (v.2.2.2.2.2.2.2.1))), (b0c, .inr (0, [.ref b1c, .int v.2.2.2.2.2.2.2.2.1])), (b1c, .inl (g 0, 60, .inl (v.2.2.2.2.2.2.2.2.2)))]) (va_runV (As := [.int pa]) (rest := []) ⟨hx, hb, hml, hown, hts⟩ (c_X4_hasPart l D g p0c c0c b0c p1c H.size v.1 v.2.1 v.2.2.1 v.2.2.2.1 v.2.2.2.2.1 v.2.2.2.2.2.1 pa) (cwV 1 hts gX5_isNetted_X4_hasPart rfl rfl rfl (by decide +kernel) (k_lvl (by omega) (by decide))) (kPV hP hD hK hS hA hE [1] rfl (by decide) 1 4 rfl rfl rfl) rfl rfl hl.1 rfl (lv_room (Nat.le_of_ble_eq_true rfl)) dX5_isNetted_5 ⟨Nat.le_of_ble_eq_true rfl, Nat.le_of_ble_eq_true rfl⟩) hP hD hS hA [1] [0, 2, 3, 4, 5, 6] [0, 6, 1, 2, 3, 4, 5] rfl rfl (by decide) (by decide) rfl (by decide) (fun H locs hP hD hS => ?_)
  refine lv_if_ne (tgt := 13) hx hb dX5_isNetted_8 (by decide) (fun c_1 => ?_) (fun c_1 => ?_)
  · refine lv_aload_n hx hb dX5_isNetted_13 rfl (lv_at hl 0 rfl) ?_
    refine va_get (D := D) (ci := 5) (v := .ref p0c) (C := RX5) (T := TX5) (N := 2) hx hb hts (fun w h => (List.mem_cons_of_mem _ (List.mem_append_left _ (List.mem_append_right _ h)))) hown hK hP 0 rfl rfl 0 (by decide) (hts _ qX5_isNetted_0) (fun _ h9 => h9) rfl dX5_isNetted_14 ?_
    refine lv_iload_n hx hb dX5_isNetted_17 rfl (lv_at hl 1 rfl) ?_
    refine lv_iload_n hx hb dX5_isNetted_18 rfl (lv_at hl 2 rfl) ?_
    have hC := c_gNet l D g p0c c0c b0c p1c c1c b1c H.size v pa net
    obtain ⟨v_2, ev_2⟩ : ∃ z, z = (gNet v pa net) := ⟨_, rfl⟩
    rw [← ev_2] at hC
    have kev_2 : kEq v_2 (gNet v pa net) := ev_2
    clear ev_2
    refine k_av (wr := [(s0, .inr (5, [.ref p0c, .ref p0t]))]) (w2 := [(s0, .inr (5, [.ref p0c, .ref p0t])), (p0c, .inr (4, [.ref c0c, .ref b0c, .ref p1c, .int v_2.1, .int v_2.2.1, .int v_2.2.2.1, .int v_2.2.2.2.1, .int v_2.2.2.2.2.1, .int v_2.2.2.2.2.2.1])), (p1c, .inl (g 0, 80, .inl (v_2.2.2.2.2.2.2.1))), (c0c, .inr (1, [.ref c1c])), (c1c, .inl (g 0, 480, .inl (v_2.2.2.2.2.2.2.2.1))), (b0c, .inr (0, [.ref b1c, .int v_2.2.2.2.2.2.2.2.2.1])), (b1c, .inl (g 0, 60, .inl (v_2.2.2.2.2.2.2.2.2.2)))]) (va_runV (As := [.int pa, .int net]) (rest := []) ⟨hx, hb, hml, hown, hts⟩ hC (cwV 2 hts gX5_isNetted_X4_setNet rfl rfl rfl (by decide +kernel) (k_lvl (by omega) (by decide))) (kPV hP hD hK hS hA hE [1, 2, 3, 4, 5, 6] rfl (by decide) 1 4 rfl rfl rfl) rfl rfl hl.1 rfl (lv_room (Nat.le_of_ble_eq_true rfl)) dX5_isNetted_19 ⟨Nat.le_of_ble_eq_true rfl, Nat.le_of_ble_eq_true rfl⟩) hP hD hS hA [1, 2, 3, 4, 5, 6] [0] [0, 1, 2, 3, 4, 5, 6] rfl rfl (by decide) (by decide) rfl (by decide) (fun H locs hP hD hS => ?_)
    refine lv_iconst (v := 1) hx hb dX5_isNetted_22 (by decide) ?_
    have ev_2 : (gNet v pa net) = v_2 := Eq.symm kev_2
    have hE2 : (f_X5_isNetted v pa net) = (1, v_2) := by
      subst ev_2
      exact (if_neg c_1).trans (rfl)
    subst hQ
    exact k_rz hx hb hr hlocks hP hD hS dX5_isNetted_23 (by rfl) (by rw [hE2]) (by rw [hE2])
  · refine lv_iconst (v := 0) hx hb dX5_isNetted_11 (by decide) ?_
    have hE2 : (f_X5_isNetted v pa net) = (0, v) := by
      exact (if_pos c_1).trans (rfl)
    subst hQ
    exact k_rz hx hb hr hlocks hP hD hS dX5_isNetted_12 (by rfl) (by rw [hE2]) (by rw [hE2])
def f_X5_wouldGive (v : KPV) (pa : Int32) : Int32 × KPV :=
  let v_1 := (gCall v pa 0)
  (v_1.1, v_1.2)
theorem qX5_wouldGive_0 : Cond.fieldLink RX5 15 "BlameChains$Script" "trial" "LBlameChains$Plan;" ∈ wsX5_wouldGive := (List.mem_cons_of_mem _ (List.mem_append_left _ (List.mem_append_left _ (List.mem_append_left _ (List.mem_append_left _ (List.mem_append_left _ (List.mem_of_getElem? (i := 0) rfl)))))))
theorem qX5_wouldGive_1 : Cond.fieldLink RX5 9 "BlameChains$Script" "copy" "LBlameChains$Plan;" ∈ wsX5_wouldGive := (List.mem_cons_of_mem _ (List.mem_append_left _ (List.mem_append_left _ (List.mem_append_left _ (List.mem_append_left _ (List.mem_append_left _ (List.mem_of_getElem? (i := 1) rfl)))))))
set_option maxHeartbeats 4000000 in
set_option maxRecDepth 100000 in
theorem c_X5_wouldGive (l : Launch) (D : va_G) (g : Nat → Nat) (s0 p0c p0t c0c b0c p1c c1c b1c c0t b0t p1t c1t b1t : Nat) (sz : Nat) (v : KPV) (w : KPV) (pa : Int32) : kMi l D g yX5_wouldGive wsX5_wouldGive 32 0 0 [.ref s0, .int pa] [(s0, .inr (5, [.ref p0c, .ref p0t])), (p0c, .inr (4, [.ref c0c, .ref b0c, .ref p1c, .int v.1, .int v.2.1, .int v.2.2.1, .int v.2.2.2.1, .int v.2.2.2.2.1, .int v.2.2.2.2.2.1])), (p1c, .inl (g 0, 80, .inl (v.2.2.2.2.2.2.1))), (c0c, .inr (1, [.ref c1c])), (c1c, .inl (g 0, 480, .inl (v.2.2.2.2.2.2.2.1))), (b0c, .inr (0, [.ref b1c, .int v.2.2.2.2.2.2.2.2.1])), (b1c, .inl (g 0, 60, .inl (v.2.2.2.2.2.2.2.2.2))), (p0t, .inr (4, [.ref c0t, .ref b0t, .ref p1t, .int w.1, .int w.2.1, .int w.2.2.1, .int w.2.2.2.1, .int w.2.2.2.2.1, .int w.2.2.2.2.2.1])), (p1t, .inl (g 0, 80, .inl (w.2.2.2.2.2.2.1))), (c0t, .inr (1, [.ref c1t])), (c1t, .inl (g 0, 480, .inl (w.2.2.2.2.2.2.2.1))), (b0t, .inr (0, [.ref b1t, .int w.2.2.2.2.2.2.2.2.1])), (b1t, .inl (g 0, 60, .inl (w.2.2.2.2.2.2.2.2.2)))] sz ((f_X5_wouldGive v pa).1) [(s0, .inr (5, [.ref p0c, .ref p0t])), (p0c, .inr (4, [.ref c0c, .ref b0c, .ref p1c, .int v.1, .int v.2.1, .int v.2.2.1, .int v.2.2.2.1, .int v.2.2.2.2.1, .int v.2.2.2.2.2.1])), (p1c, .inl (g 0, 80, .inl (v.2.2.2.2.2.2.1))), (c0c, .inr (1, [.ref c1c])), (c1c, .inl (g 0, 480, .inl (v.2.2.2.2.2.2.2.1))), (b0c, .inr (0, [.ref b1c, .int v.2.2.2.2.2.2.2.2.1])), (b1c, .inl (g 0, 60, .inl (v.2.2.2.2.2.2.2.2.2))), (p0t, .inr (4, [.ref c0t, .ref b0t, .ref p1t, .int ((f_X5_wouldGive v pa).2.1), .int ((f_X5_wouldGive v pa).2.2.1), .int ((f_X5_wouldGive v pa).2.2.2.1), .int ((f_X5_wouldGive v pa).2.2.2.2.1), .int ((f_X5_wouldGive v pa).2.2.2.2.2.1), .int ((f_X5_wouldGive v pa).2.2.2.2.2.2.1)])), (p1t, .inl (g 0, 80, .inl ((f_X5_wouldGive v pa).2.2.2.2.2.2.2.1))), (c0t, .inr (1, [.ref c1t])), (c1t, .inl (g 0, 480, .inl ((f_X5_wouldGive v pa).2.2.2.2.2.2.2.2.1))), (b0t, .inr (0, [.ref b1t, .int ((f_X5_wouldGive v pa).2.2.2.2.2.2.2.2.2.1)])), (b1t, .inl (g 0, 60, .inl ((f_X5_wouldGive v pa).2.2.2.2.2.2.2.2.2.2)))] := by
  refine k_enter (nm := "wouldGive") (own := RX5) (bytes := cX5_wouldGive) (maxL := 2) (ret := (some .int)) (Qf := fun A => kQi D [(s0, .inr (5, [.ref p0c, .ref p0t])), (p0c, .inr (4, [.ref c0c, .ref b0c, .ref p1c, .int v.1, .int v.2.1, .int v.2.2.1, .int v.2.2.2.1, .int v.2.2.2.2.1, .int v.2.2.2.2.2.1])), (p1c, .inl (g 0, 80, .inl (v.2.2.2.2.2.2.1))), (c0c, .inr (1, [.ref c1c])), (c1c, .inl (g 0, 480, .inl (v.2.2.2.2.2.2.2.1))), (b0c, .inr (0, [.ref b1c, .int v.2.2.2.2.2.2.2.2.1])), (b1c, .inl (g 0, 60, .inl (v.2.2.2.2.2.2.2.2.2))), (p0t, .inr (4, [.ref c0t, .ref b0t, .ref p1t, .int ((f_X5_wouldGive v pa).2.1), .int ((f_X5_wouldGive v pa).2.2.1), .int ((f_X5_wouldGive v pa).2.2.2.1), .int ((f_X5_wouldGive v pa).2.2.2.2.1), .int ((f_X5_wouldGive v pa).2.2.2.2.2.1), .int ((f_X5_wouldGive v pa).2.2.2.2.2.2.1)])), (p1t, .inl (g 0, 80, .inl ((f_X5_wouldGive v pa).2.2.2.2.2.2.2.1))), (c0t, .inr (1, [.ref c1t])), (c1t, .inl (g 0, 480, .inl ((f_X5_wouldGive v pa).2.2.2.2.2.2.2.2.1))), (b0t, .inr (0, [.ref b1t, .int ((f_X5_wouldGive v pa).2.2.2.2.2.2.2.2.2.1)])), (b1t, .inl (g 0, 60, .inl ((f_X5_wouldGive v pa).2.2.2.2.2.2.2.2.2.2)))] A ((f_X5_wouldGive v pa).1)) (by decide) rfl rfl rfl (Nat.le_of_ble_eq_true rfl) ?_
  rintro pp ee s mm below meth cc A ls args Q H locs hQ ⟨hx, hb, hr, hml, hown, hts, hlocks, hin⟩ hP hK hD hA hS hE hl
  have hl : lv_has ls 2 [(0, .ref s0), (1, .int pa)] := hl
  refine lv_aload_n hx hb dX5_wouldGive_0 rfl (lv_at hl 0 rfl) ?_
  refine va_get (D := D) (ci := 5) (v := .ref p0t) (C := RX5) (T := TX5) (N := 2) hx hb hts (fun w h => (List.mem_cons_of_mem _ (List.mem_append_left _ (List.mem_append_left _ (List.mem_append_left _ (List.mem_append_right _ h)))))) hown hK hP 0 rfl rfl 1 (by decide) (hts _ qX5_wouldGive_0) (fun _ h9 => h9) rfl dX5_wouldGive_1 ?_
  refine lv_aload_n hx hb dX5_wouldGive_4 rfl (lv_at hl 0 rfl) ?_
  refine va_get (D := D) (ci := 5) (v := .ref p0c) (C := RX5) (T := TX5) (N := 2) hx hb hts (fun w h => (List.mem_cons_of_mem _ (List.mem_append_left _ (List.mem_append_left _ (List.mem_append_left _ (List.mem_append_right _ h)))))) hown hK hP 0 rfl rfl 0 (by decide) (hts _ qX5_wouldGive_1) (fun _ h9 => h9) rfl dX5_wouldGive_5 ?_
  refine k_av (wr := [(s0, .inr (5, [.ref p0c, .ref p0t]))]) (w2 := [(s0, .inr (5, [.ref p0c, .ref p0t])), (p0c, .inr (4, [.ref c0c, .ref b0c, .ref p1c, .int v.1, .int v.2.1, .int v.2.2.1, .int v.2.2.2.1, .int v.2.2.2.2.1, .int v.2.2.2.2.2.1])), (p1c, .inl (g 0, 80, .inl (v.2.2.2.2.2.2.1))), (c0c, .inr (1, [.ref c1c])), (c1c, .inl (g 0, 480, .inl (v.2.2.2.2.2.2.2.1))), (b0c, .inr (0, [.ref b1c, .int v.2.2.2.2.2.2.2.2.1])), (b1c, .inl (g 0, 60, .inl (v.2.2.2.2.2.2.2.2.2))), (p0t, .inr (4, [.ref c0t, .ref b0t, .ref p1t, .int v.1, .int v.2.1, .int v.2.2.1, .int v.2.2.2.1, .int v.2.2.2.2.1, .int v.2.2.2.2.2.1])), (p1t, .inl (g 0, 80, .inl (v.2.2.2.2.2.2.1))), (c0t, .inr (1, [.ref c1t])), (c1t, .inl (g 0, 480, .inl (v.2.2.2.2.2.2.2.1))), (b0t, .inr (0, [.ref b1t, .int v.2.2.2.2.2.2.2.2.1])), (b1t, .inl (g 0, 60, .inl (v.2.2.2.2.2.2.2.2.2)))]) (va_runV (As := [.ref p0c]) (rest := []) ⟨hx, hb, hml, hown, hts⟩ (c_gCopy l D g p0t p0c c0t b0t p1t c1t b1t c0c b0c p1c c1c b1c H.size w v) (cwV 1 hts gX5_wouldGive_X4_copyFrom rfl rfl rfl (by decide +kernel) (k_lvl (by omega) (by decide))) (kPV hP hD hK hS hA hE [7, 8, 9, 10, 11, 12, 1, 2, 3, 4, 5, 6] rfl (by decide) 7 4 rfl rfl rfl) rfl rfl hl.1 rfl (lv_room (Nat.le_of_ble_eq_true rfl)) dX5_wouldGive_8 ⟨Nat.le_of_ble_eq_true rfl, Nat.le_of_ble_eq_true rfl⟩) hP hD hS hA [7, 8, 9, 10, 11, 12, 1, 2, 3, 4, 5, 6] [0] [0, 7, 8, 9, 10, 11, 12, 1, 2, 3, 4, 5, 6] rfl rfl (by decide) (by decide) rfl (by decide) (fun H locs hP hD hS => ?_)
  refine lv_aload_n hx hb dX5_wouldGive_11 rfl (lv_at hl 0 rfl) ?_
  refine va_get (D := D) (ci := 5) (v := .ref p0t) (C := RX5) (T := TX5) (N := 2) hx hb hts (fun w h => (List.mem_cons_of_mem _ (List.mem_append_left _ (List.mem_append_left _ (List.mem_append_left _ (List.mem_append_right _ h)))))) hown hK hP 0 rfl rfl 1 (by decide) (hts _ qX5_wouldGive_0) (fun _ h9 => h9) rfl dX5_wouldGive_12 ?_
  refine lv_iload_n hx hb dX5_wouldGive_15 rfl (lv_at hl 1 rfl) ?_
  refine lv_iconst (v := 0) hx hb dX5_wouldGive_16 (by decide) ?_
  have hC := c_gCall l D g p0t c0t b0t p1t c1t b1t H.size v pa 0
  obtain ⟨v_1, ev_1⟩ : ∃ z, z = (gCall v pa 0) := ⟨_, rfl⟩
  rw [← ev_1] at hC
  have kev_1 : kEq v_1 (gCall v pa 0) := ev_1
  clear ev_1
  refine k_ai (wr := [(s0, .inr (5, [.ref p0c, .ref p0t])), (p0c, .inr (4, [.ref c0c, .ref b0c, .ref p1c, .int v.1, .int v.2.1, .int v.2.2.1, .int v.2.2.2.1, .int v.2.2.2.2.1, .int v.2.2.2.2.2.1])), (p1c, .inl (g 0, 80, .inl (v.2.2.2.2.2.2.1))), (c0c, .inr (1, [.ref c1c])), (c1c, .inl (g 0, 480, .inl (v.2.2.2.2.2.2.2.1))), (b0c, .inr (0, [.ref b1c, .int v.2.2.2.2.2.2.2.2.1])), (b1c, .inl (g 0, 60, .inl (v.2.2.2.2.2.2.2.2.2)))]) (w2 := [(s0, .inr (5, [.ref p0c, .ref p0t])), (p0c, .inr (4, [.ref c0c, .ref b0c, .ref p1c, .int v.1, .int v.2.1, .int v.2.2.1, .int v.2.2.2.1, .int v.2.2.2.2.1, .int v.2.2.2.2.2.1])), (p1c, .inl (g 0, 80, .inl (v.2.2.2.2.2.2.1))), (c0c, .inr (1, [.ref c1c])), (c1c, .inl (g 0, 480, .inl (v.2.2.2.2.2.2.2.1))), (b0c, .inr (0, [.ref b1c, .int v.2.2.2.2.2.2.2.2.1])), (b1c, .inl (g 0, 60, .inl (v.2.2.2.2.2.2.2.2.2))), (p0t, .inr (4, [.ref c0t, .ref b0t, .ref p1t, .int v_1.2.1, .int v_1.2.2.1, .int v_1.2.2.2.1, .int v_1.2.2.2.2.1, .int v_1.2.2.2.2.2.1, .int v_1.2.2.2.2.2.2.1])), (p1t, .inl (g 0, 80, .inl (v_1.2.2.2.2.2.2.2.1))), (c0t, .inr (1, [.ref c1t])), (c1t, .inl (g 0, 480, .inl (v_1.2.2.2.2.2.2.2.2.1))), (b0t, .inr (0, [.ref b1t, .int v_1.2.2.2.2.2.2.2.2.2.1])), (b1t, .inl (g 0, 60, .inl (v_1.2.2.2.2.2.2.2.2.2.2)))]) (va_runV (As := [.int pa, .int 0]) (rest := []) ⟨hx, hb, hml, hown, hts⟩ hC (cwV 2 hts gX5_wouldGive_X4_callFromOutside rfl rfl rfl (by decide +kernel) (k_lvl (by omega) (by decide))) (kPV hP hD hK hS hA hE [7, 8, 9, 10, 11, 12] rfl (by decide) 7 4 rfl rfl rfl) rfl rfl hl.1 rfl (lv_room (Nat.le_of_ble_eq_true rfl)) dX5_wouldGive_17 ⟨Nat.le_of_ble_eq_true rfl, Nat.le_of_ble_eq_true rfl⟩) hP hD hS hA [7, 8, 9, 10, 11, 12] [0, 1, 2, 3, 4, 5, 6] [0, 1, 2, 3, 4, 5, 6, 7, 8, 9, 10, 11, 12] rfl rfl (by decide) (by decide) rfl (by decide) (fun H locs hP hD hS => ?_)
  have ev_1 : (gCall v pa 0) = v_1 := Eq.symm kev_1
  have hE2 : (f_X5_wouldGive v pa) = (v_1.1, v_1.2) := by
    subst ev_1
    exact rfl
  subst hQ
  exact k_ri hx hb hr hlocks hP hD hS dX5_wouldGive_20 (by rw [hE2]) (by rw [hE2])
def f_X5_succeeds (v : KPV) (w : KPV) (gr : Nat) : Int32 × KPV × KPV :=
  let p_0 := (((gr) / 1000)) % 10
  let two_0 := (((gr) / 100)) % 10
  let nn_0 := (gr) % 100
  let v_3 := (gCall v (nI p_0) ((nI ((gr) % 1000)) - 500))
  let v_7 := (gCall v (nI p_0) ((nI ((gr) % 1000)) - 500))
  let v_11 := (f_X5_isChained v (nI p_0) (nI two_0))
  let v_15 := (f_X5_isNetted v (nI p_0) (nI nn_0))
  let v_20 := (gRem v (-10001) (nI p_0))
  let v_24 := (gRem v (nI p_0) (nI two_0))
  let v_36 := (f_X5_wouldGive v (nI p_0))
  if ((gr) / 10000) = 1 then
    if (f_X4_hasPart v.1 (nI p_0)) = 0 then
      (0, v, w)
    else
      if v_3.1 = (-10000) then
        (0, v_3.2, w)
      else
        (1, v_3.2, w)
  else
    if ((gr) / 10000) = 2 then
      if (f_X4_hasPart v.1 (nI p_0)) = 0 then
        (0, v, w)
      else
        if v_7.1 = (-10000) then
          (1, v_7.2, w)
        else
          (0, v_7.2, w)
    else
      if ((gr) / 10000) = 3 then
        if nn_0 = 0 then
          if v_11.1 = 0 then
            (0, v_11.2, w)
          else
            (1, v_11.2, w)
        else
          (0, v, w)
      else
        if ((gr) / 10000) = 4 then
          if two_0 = 0 then
            if v_15.1 = 0 then
              (0, v_15.2, w)
            else
              (1, v_15.2, w)
          else
            (0, v, w)
        else
          if ((gr) / 10000) = 5 then
            if two_0 = 0 then
              if nn_0 = 0 then
                if v_20.1 = 0 then
                  (0, v_20.2, w)
                else
                  (1, v_20.2, w)
              else
                (0, v, w)
            else
              (0, v, w)
          else
            if ((gr) / 10000) = 6 then
              if nn_0 = 0 then
                if v_24.1 = 0 then
                  (0, v_24.2, w)
                else
                  (1, v_24.2, w)
              else
                (0, v, w)
            else
              if ((gr) / 10000) = 7 then
                if two_0 = 0 then
                  if (f_X4_hasPart v.1 (nI p_0)) = 0 then
                    (0, v, w)
                  else
                    if (nI nn_0) < (f_X4_ofPart (v.2.2.2.2.2.2.1) (nI p_0) 6) then
                      (0, v, w)
                    else
                      (1, v, w)
                else
                  (0, v, w)
              else
                if ((gr) / 10000) = 8 then
                  if p_0 = 0 then
                    if two_0 = 0 then
                      if (nI nn_0) < v.2.2.2.1 then
                        (0, v, w)
                      else
                        (1, v, w)
                    else
                      (0, v, w)
                  else
                    (0, v, w)
                else
                  if ((gr) / 10000) = 9 then
                    if (f_X4_hasPart v.1 (nI p_0)) = 0 then
                      (0, v, w)
                    else
                      if v_36.1 = ((nI ((gr) % 1000)) - 500) then
                        (1, v, v_36.2)
                      else
                        (0, v, v_36.2)
                  else
                    (0, v, w)
theorem qX5_succeeds_0 : Cond.fieldLink RX5 9 "BlameChains$Script" "copy" "LBlameChains$Plan;" ∈ wsX5_succeeds := (List.mem_cons_of_mem _ (List.mem_append_left _ (List.mem_append_left _ (List.mem_append_left _ (List.mem_append_left _ (List.mem_append_left _ (List.mem_of_getElem? (i := 0) rfl)))))))
set_option maxHeartbeats 4000000 in
set_option maxRecDepth 100000 in
theorem c_X5_succeeds (l : Launch) (D : va_G) (g : Nat → Nat) (s0 p0c p0t c0c b0c p1c c1c b1c c0t b0t p1t c1t b1t : Nat) (sz : Nat) (v : KPV) (w : KPV) (gr : Nat) (hgr : gr ≤ 99999) : kMi l D g yX5_succeeds wsX5_succeeds 33 0 0 [.ref s0, .int (nI gr)] [(s0, .inr (5, [.ref p0c, .ref p0t])), (p0c, .inr (4, [.ref c0c, .ref b0c, .ref p1c, .int v.1, .int v.2.1, .int v.2.2.1, .int v.2.2.2.1, .int v.2.2.2.2.1, .int v.2.2.2.2.2.1])), (p1c, .inl (g 0, 80, .inl (v.2.2.2.2.2.2.1))), (c0c, .inr (1, [.ref c1c])), (c1c, .inl (g 0, 480, .inl (v.2.2.2.2.2.2.2.1))), (b0c, .inr (0, [.ref b1c, .int v.2.2.2.2.2.2.2.2.1])), (b1c, .inl (g 0, 60, .inl (v.2.2.2.2.2.2.2.2.2))), (p0t, .inr (4, [.ref c0t, .ref b0t, .ref p1t, .int w.1, .int w.2.1, .int w.2.2.1, .int w.2.2.2.1, .int w.2.2.2.2.1, .int w.2.2.2.2.2.1])), (p1t, .inl (g 0, 80, .inl (w.2.2.2.2.2.2.1))), (c0t, .inr (1, [.ref c1t])), (c1t, .inl (g 0, 480, .inl (w.2.2.2.2.2.2.2.1))), (b0t, .inr (0, [.ref b1t, .int w.2.2.2.2.2.2.2.2.1])), (b1t, .inl (g 0, 60, .inl (w.2.2.2.2.2.2.2.2.2)))] sz ((f_X5_succeeds v w gr).1) [(s0, .inr (5, [.ref p0c, .ref p0t])), (p0c, .inr (4, [.ref c0c, .ref b0c, .ref p1c, .int ((f_X5_succeeds v w gr).2.1.1), .int ((f_X5_succeeds v w gr).2.1.2.1), .int ((f_X5_succeeds v w gr).2.1.2.2.1), .int ((f_X5_succeeds v w gr).2.1.2.2.2.1), .int ((f_X5_succeeds v w gr).2.1.2.2.2.2.1), .int ((f_X5_succeeds v w gr).2.1.2.2.2.2.2.1)])), (p1c, .inl (g 0, 80, .inl ((f_X5_succeeds v w gr).2.1.2.2.2.2.2.2.1))), (c0c, .inr (1, [.ref c1c])), (c1c, .inl (g 0, 480, .inl ((f_X5_succeeds v w gr).2.1.2.2.2.2.2.2.2.1))), (b0c, .inr (0, [.ref b1c, .int ((f_X5_succeeds v w gr).2.1.2.2.2.2.2.2.2.2.1)])), (b1c, .inl (g 0, 60, .inl ((f_X5_succeeds v w gr).2.1.2.2.2.2.2.2.2.2.2))), (p0t, .inr (4, [.ref c0t, .ref b0t, .ref p1t, .int ((f_X5_succeeds v w gr).2.2.1), .int ((f_X5_succeeds v w gr).2.2.2.1), .int ((f_X5_succeeds v w gr).2.2.2.2.1), .int ((f_X5_succeeds v w gr).2.2.2.2.2.1), .int ((f_X5_succeeds v w gr).2.2.2.2.2.2.1), .int ((f_X5_succeeds v w gr).2.2.2.2.2.2.2.1)])), (p1t, .inl (g 0, 80, .inl ((f_X5_succeeds v w gr).2.2.2.2.2.2.2.2.1))), (c0t, .inr (1, [.ref c1t])), (c1t, .inl (g 0, 480, .inl ((f_X5_succeeds v w gr).2.2.2.2.2.2.2.2.2.1))), (b0t, .inr (0, [.ref b1t, .int ((f_X5_succeeds v w gr).2.2.2.2.2.2.2.2.2.2.1)])), (b1t, .inl (g 0, 60, .inl ((f_X5_succeeds v w gr).2.2.2.2.2.2.2.2.2.2.2)))] := by
  refine k_enter (nm := "succeeds") (own := RX5) (bytes := cX5_succeeds) (maxL := 6) (ret := (some .boolean)) (Qf := fun A => kQi D [(s0, .inr (5, [.ref p0c, .ref p0t])), (p0c, .inr (4, [.ref c0c, .ref b0c, .ref p1c, .int ((f_X5_succeeds v w gr).2.1.1), .int ((f_X5_succeeds v w gr).2.1.2.1), .int ((f_X5_succeeds v w gr).2.1.2.2.1), .int ((f_X5_succeeds v w gr).2.1.2.2.2.1), .int ((f_X5_succeeds v w gr).2.1.2.2.2.2.1), .int ((f_X5_succeeds v w gr).2.1.2.2.2.2.2.1)])), (p1c, .inl (g 0, 80, .inl ((f_X5_succeeds v w gr).2.1.2.2.2.2.2.2.1))), (c0c, .inr (1, [.ref c1c])), (c1c, .inl (g 0, 480, .inl ((f_X5_succeeds v w gr).2.1.2.2.2.2.2.2.2.1))), (b0c, .inr (0, [.ref b1c, .int ((f_X5_succeeds v w gr).2.1.2.2.2.2.2.2.2.2.1)])), (b1c, .inl (g 0, 60, .inl ((f_X5_succeeds v w gr).2.1.2.2.2.2.2.2.2.2.2))), (p0t, .inr (4, [.ref c0t, .ref b0t, .ref p1t, .int ((f_X5_succeeds v w gr).2.2.1), .int ((f_X5_succeeds v w gr).2.2.2.1), .int ((f_X5_succeeds v w gr).2.2.2.2.1), .int ((f_X5_succeeds v w gr).2.2.2.2.2.1), .int ((f_X5_succeeds v w gr).2.2.2.2.2.2.1), .int ((f_X5_succeeds v w gr).2.2.2.2.2.2.2.1)])), (p1t, .inl (g 0, 80, .inl ((f_X5_succeeds v w gr).2.2.2.2.2.2.2.2.1))), (c0t, .inr (1, [.ref c1t])), (c1t, .inl (g 0, 480, .inl ((f_X5_succeeds v w gr).2.2.2.2.2.2.2.2.2.1))), (b0t, .inr (0, [.ref b1t, .int ((f_X5_succeeds v w gr).2.2.2.2.2.2.2.2.2.2.1)])), (b1t, .inl (g 0, 60, .inl ((f_X5_succeeds v w gr).2.2.2.2.2.2.2.2.2.2.2)))] A ((f_X5_succeeds v w gr).1)) (by decide) rfl rfl rfl (Nat.le_of_ble_eq_true rfl) ?_
  rintro pp ee s mm below meth cc A ls args Q H locs hQ ⟨hx, hb, hr, hml, hown, hts, hlocks, hin⟩ hP hK hD hA hS hE hl
  have hl : lv_has ls 6 [(0, .ref s0), (1, .int (nI gr))] := hl
  refine lv_iload_n hx hb dX5_succeeds_0 rfl (lv_at hl 1 rfl) ?_
  refine lv_sipush (v := 1000) hx hb dX5_succeeds_1 (by decide) ?_
  refine lv_idiv hx hb dX5_succeeds_4 (by decide) ?_
  refine k_top (y := (nI ((gr) / 1000))) (pk_div (a := gr) (d := 1000) (by omega) (by decide) (by decide)) ?_
  refine lv_bipush (v := 10) hx hb dX5_succeeds_5 (by decide) ?_
  refine lv_irem hx hb dX5_succeeds_7 (by decide) ?_
  refine k_top (y := (nI ((((gr) / 1000)) % 10))) (pk_rem (a := ((gr) / 1000)) (d := 10) (by omega) (by decide) (by decide)) ?_
  refine lv_istore_n (lv' := [(2, .int (nI ((((gr) / 1000)) % 10))), (0, .ref s0), (1, .int (nI gr))]) hx hb dX5_succeeds_8 rfl hl (by decide) rfl (fun ls hl => ?_)
  refine lv_iload_n hx hb dX5_succeeds_9 rfl (lv_at hl 2 rfl) ?_
  refine lv_bipush (v := 100) hx hb dX5_succeeds_10 (by decide) ?_
  refine lv_idiv hx hb dX5_succeeds_12 (by decide) ?_
  refine k_top (y := (nI ((gr) / 100))) (pk_div (a := gr) (d := 100) (by omega) (by decide) (by decide)) ?_
  refine lv_bipush (v := 10) hx hb dX5_succeeds_13 (by decide) ?_
  refine lv_irem hx hb dX5_succeeds_15 (by decide) ?_
  refine k_top (y := (nI ((((gr) / 100)) % 10))) (pk_rem (a := ((gr) / 100)) (d := 10) (by omega) (by decide) (by decide)) ?_
  refine lv_istore_n (lv' := [(3, .int (nI ((((gr) / 100)) % 10))), (2, .int (nI ((((gr) / 1000)) % 10))), (0, .ref s0), (1, .int (nI gr))]) hx hb dX5_succeeds_16 rfl hl (by decide) rfl (fun ls hl => ?_)
  refine lv_iload_n hx hb dX5_succeeds_17 rfl (lv_at hl 3 rfl) ?_
  refine lv_bipush (v := 100) hx hb dX5_succeeds_18 (by decide) ?_
  refine lv_irem hx hb dX5_succeeds_20 (by decide) ?_
  refine k_top (y := (nI ((gr) % 100))) (pk_rem (a := gr) (d := 100) (by omega) (by decide) (by decide)) ?_
  refine lv_istore (lv' := [(4, .int (nI ((gr) % 100))), (3, .int (nI ((((gr) / 100)) % 10))), (2, .int (nI ((((gr) / 1000)) % 10))), (0, .ref s0), (1, .int (nI gr))]) hx hb dX5_succeeds_21 hl (by decide) rfl (fun ls hl => ?_)
  refine lv_iload_n hx hb dX5_succeeds_23 rfl (lv_at hl 4 rfl) ?_
  refine lv_sipush (v := 1000) hx hb dX5_succeeds_24 (by decide) ?_
  refine lv_irem hx hb dX5_succeeds_27 (by decide) ?_
  refine k_top (y := (nI ((gr) % 1000))) (pk_rem (a := gr) (d := 1000) (by omega) (by decide) (by decide)) ?_
  refine lv_sipush (v := 500) hx hb dX5_succeeds_28 (by decide) ?_
  refine lv_isub hx hb dX5_succeeds_31 ?_
  refine lv_istore (lv' := [(5, .int ((nI ((gr) % 1000)) - 500)), (4, .int (nI ((gr) % 100))), (3, .int (nI ((((gr) / 100)) % 10))), (2, .int (nI ((((gr) / 1000)) % 10))), (0, .ref s0), (1, .int (nI gr))]) hx hb dX5_succeeds_32 hl (by decide) rfl (fun ls hl => ?_)
  obtain ⟨p_0, ep_0⟩ : ∃ z, z = (((gr) / 1000)) % 10 := ⟨_, rfl⟩
  have bp_0 : p_0 ≤ 9 := by rw [ep_0]; omega
  rw [← ep_0] at hl
  have kep_0 : kEq p_0 ((((gr) / 1000)) % 10) := ep_0
  clear ep_0
  have hl : lv_has ls 6 [(5, .int ((nI ((gr) % 1000)) - 500)), (4, .int (nI ((gr) % 100))), (3, .int (nI ((((gr) / 100)) % 10))), (2, .int (nI p_0)), (0, .ref s0), (1, .int (nI gr))] := hl
  obtain ⟨two_0, etwo_0⟩ : ∃ z, z = (((gr) / 100)) % 10 := ⟨_, rfl⟩
  have btwo_0 : two_0 ≤ 9 := by rw [etwo_0]; omega
  rw [← etwo_0] at hl
  have ketwo_0 : kEq two_0 ((((gr) / 100)) % 10) := etwo_0
  clear etwo_0
  have hl : lv_has ls 6 [(5, .int ((nI ((gr) % 1000)) - 500)), (4, .int (nI ((gr) % 100))), (3, .int (nI two_0)), (2, .int (nI p_0)), (0, .ref s0), (1, .int (nI gr))] := hl
  obtain ⟨nn_0, enn_0⟩ : ∃ z, z = (gr) % 100 := ⟨_, rfl⟩
  have bnn_0 : nn_0 ≤ 99 := by rw [enn_0]; omega
  rw [← enn_0] at hl
  have kenn_0 : kEq nn_0 ((gr) % 100) := enn_0
  clear enn_0
  have hl : lv_has ls 6 [(5, .int ((nI ((gr) % 1000)) - 500)), (4, .int (nI nn_0)), (3, .int (nI two_0)), (2, .int (nI p_0)), (0, .ref s0), (1, .int (nI gr))] := hl
  refine lv_iload_n hx hb dX5_succeeds_34 rfl (lv_at hl 5 rfl) ?_
  refine lv_sipush (v := 10000) hx hb dX5_succeeds_35 (by decide) ?_
  refine lv_idiv hx hb dX5_succeeds_38 (by decide) ?_
  refine k_top (y := (nI ((gr) / 10000))) (pk_div (a := gr) (d := 10000) (by omega) (by decide) (by decide)) ?_
  by_cases c_1 : ((gr) / 10000) = 1
  · refine k_tabIn (v := 1) (off := 49) (tgt := 88) hx hb dX5_succeeds_39 (congrArg nI c_1) (by decide) (by decide) rfl (by decide) ?_
    refine lv_aload_n hx hb dX5_succeeds_88 rfl (lv_at hl 4 rfl) ?_
    refine va_get (D := D) (ci := 5) (v := .ref p0c) (C := RX5) (T := TX5) (N := 2) hx hb hts (fun w h => (List.mem_cons_of_mem _ (List.mem_append_left _ (List.mem_append_left _ (List.mem_append_left _ (List.mem_append_right _ h)))))) hown hK hP 0 rfl rfl 0 (by decide) (hts _ qX5_succeeds_0) (fun _ h9 => h9) rfl dX5_succeeds_89 ?_
    refine lv_iload_n hx hb dX5_succeeds_92 rfl (lv_at hl 3 rfl) ?_
    refine k_ai (wr := [(s0, .inr (5, [.ref p0c, .ref p0t])), (p1c, .inl (g 0, 80, .inl (v.2.2.2.2.2.2.1))), (c0c, .inr (1, [.ref c1c])), (c1c, .inl (g 0, 480, .inl (v.2.2.2.2.2.2.2.1))), (b0c, .inr (0, [.ref b1c, .int v.2.2.2.2.2.2.2.2.1])), (b1c, .inl (g 0, 60, .inl (v.2.2.2.2.2.2.2.2.2))), (p0t, .inr (4, [.ref c0t, .ref b0t, .ref p1t, .int w.1, .int w.2.1, .int w.2.2.1, .int w.2.2.2.1, .int w.2.2.2.2.1, .int w.2.2.2.2.2.1])), (p1t, .inl (g 0, 80, .inl (w.2.2.2.2.2.2.1))), (c0t, .inr (1, [.ref c1t])), (c1t, .inl (g 0, 480, .inl (w.2.2.2.2.2.2.2.1))), (b0t, .inr (0, [.ref b1t, .int w.2.2.2.2.2.2.2.2.1])), (b1t, .inl (g 0, 60, .inl (w.2.2.2.2.2.2.2.2.2)))]) (w2 := [(s0, .inr (5, [.ref p0c, .ref p0t])), (p0c, .inr (4, [.ref c0c, .ref b0c, .ref p1c, .int v.1, .int v.2.1, .int v.2.2.1, .int v.2.2.2.1, .int v.2.2.2.2.1, .int v.2.2.2.2.2.1])), (p1c, .inl (g 0, 80, .inl (v.2.2.2.2.2.2.1))), (c0c, .inr (1, [.ref c1c])), (c1c, .inl (g 0, 480, .inl (v.2.2.2.2.2.2.2.1))), (b0c, .inr (0, [.ref b1c, .int v.2.2.2.2.2.2.2.2.1])), (b1c, .inl (g 0, 60, .inl (v.2.2.2.2.2.2.2.2.2))), (p0t, .inr (4, [.ref c0t, .ref b0t, .ref p1t, .int w.1, .int w.2.1, .int w.2.2.1, .int w.2.2.2.1, .int w.2.2.2.2.1, .int w.2.2.2.2.2.1])), (p1t, .inl (g 0, 80, .inl (w.2.2.2.2.2.2.1))), (c0t, .inr (1, [.ref c1t])), (c1t, .inl (g 0, 480, .inl (w.2.2.2.2.2.2.2.1))), (b0t, .inr (0, [.ref b1t, .int w.2.2.2.2.2.2.2.2.1])), (b1t, .inl (g 0, 60, .inl (w.2.2.2.2.2.2.2.2.2)))]) (va_runV (As := [.int (nI p_0)]) (rest := []) ⟨hx, hb, hml, hown, hts⟩ (c_X4_hasPart l D g p0c c0c b0c p1c H.size v.1 v.2.1 v.2.2.1 v.2.2.2.1 v.2.2.2.2.1 v.2.2.2.2.2.1 (nI p_0)) (cwV 1 hts gX5_succeeds_X4_hasPart rfl rfl rfl (by decide +kernel) (k_lvl (by omega) (by decide))) (kPV hP hD hK hS hA hE [1] rfl (by decide) 1 4 rfl rfl rfl) rfl rfl hl.1 rfl (lv_room (Nat.le_of_ble_eq_true rfl)) dX5_succeeds_93 ⟨Nat.le_of_ble_eq_true rfl, Nat.le_of_ble_eq_true rfl⟩) hP hD hS hA [1] [0, 2, 3, 4, 5, 6, 7, 8, 9, 10, 11, 12] [0, 12, 1, 2, 3, 4, 5, 6, 7, 8, 9, 10, 11] rfl rfl (by decide) (by decide) rfl (by decide) (fun H locs hP hD hS => ?_)
    refine lv_if_eq (tgt := 119) hx hb dX5_succeeds_96 (by decide) (fun c_2 => ?_) (fun c_2 => ?_)
    · refine lv_iconst (v := 0) hx hb dX5_succeeds_119 (by decide) ?_
      have enn_0 : (gr) % 100 = nn_0 := Eq.symm kenn_0
      have etwo_0 : (((gr) / 100)) % 10 = two_0 := Eq.symm ketwo_0
      have ep_0 : (((gr) / 1000)) % 10 = p_0 := Eq.symm kep_0
      have hE2 : (f_X5_succeeds v w gr) = (0, v, w) := by
        subst enn_0
        subst etwo_0
        subst ep_0
        exact (if_pos c_1).trans ((if_pos c_2).trans (rfl))
      subst hQ
      exact k_rz hx hb hr hlocks hP hD hS dX5_succeeds_120 (by rfl) (by rw [hE2]) (by rw [hE2])
    · refine lv_aload_n hx hb dX5_succeeds_99 rfl (lv_at hl 4 rfl) ?_
      refine va_get (D := D) (ci := 5) (v := .ref p0c) (C := RX5) (T := TX5) (N := 2) hx hb hts (fun w h => (List.mem_cons_of_mem _ (List.mem_append_left _ (List.mem_append_left _ (List.mem_append_left _ (List.mem_append_right _ h)))))) hown hK hP 0 rfl rfl 0 (by decide) (hts _ qX5_succeeds_0) (fun _ h9 => h9) rfl dX5_succeeds_100 ?_
      refine lv_iload_n hx hb dX5_succeeds_103 rfl (lv_at hl 3 rfl) ?_
      refine lv_iload hx hb dX5_succeeds_104 (lv_at hl 0 rfl) ?_
      have hC := c_gCall l D g p0c c0c b0c p1c c1c b1c H.size v (nI p_0) ((nI ((gr) % 1000)) - 500)
      obtain ⟨v_3, ev_3⟩ : ∃ z, z = (gCall v (nI p_0) ((nI ((gr) % 1000)) - 500)) := ⟨_, rfl⟩
      rw [← ev_3] at hC
      have kev_3 : kEq v_3 (gCall v (nI p_0) ((nI ((gr) % 1000)) - 500)) := ev_3
      clear ev_3
      refine k_ai (wr := [(s0, .inr (5, [.ref p0c, .ref p0t])), (p0t, .inr (4, [.ref c0t, .ref b0t, .ref p1t, .int w.1, .int w.2.1, .int w.2.2.1, .int w.2.2.2.1, .int w.2.2.2.2.1, .int w.2.2.2.2.2.1])), (p1t, .inl (g 0, 80, .inl (w.2.2.2.2.2.2.1))), (c0t, .inr (1, [.ref c1t])), (c1t, .inl (g 0, 480, .inl (w.2.2.2.2.2.2.2.1))), (b0t, .inr (0, [.ref b1t, .int w.2.2.2.2.2.2.2.2.1])), (b1t, .inl (g 0, 60, .inl (w.2.2.2.2.2.2.2.2.2)))]) (w2 := [(s0, .inr (5, [.ref p0c, .ref p0t])), (p0c, .inr (4, [.ref c0c, .ref b0c, .ref p1c, .int v_3.2.1, .int v_3.2.2.1, .int v_3.2.2.2.1, .int v_3.2.2.2.2.1, .int v_3.2.2.2.2.2.1, .int v_3.2.2.2.2.2.2.1])), (p1c, .inl (g 0, 80, .inl (v_3.2.2.2.2.2.2.2.1))), (c0c, .inr (1, [.ref c1c])), (c1c, .inl (g 0, 480, .inl (v_3.2.2.2.2.2.2.2.2.1))), (b0c, .inr (0, [.ref b1c, .int v_3.2.2.2.2.2.2.2.2.2.1])), (b1c, .inl (g 0, 60, .inl (v_3.2.2.2.2.2.2.2.2.2.2))), (p0t, .inr (4, [.ref c0t, .ref b0t, .ref p1t, .int w.1, .int w.2.1, .int w.2.2.1, .int w.2.2.2.1, .int w.2.2.2.2.1, .int w.2.2.2.2.2.1])), (p1t, .inl (g 0, 80, .inl (w.2.2.2.2.2.2.1))), (c0t, .inr (1, [.ref c1t])), (c1t, .inl (g 0, 480, .inl (w.2.2.2.2.2.2.2.1))), (b0t, .inr (0, [.ref b1t, .int w.2.2.2.2.2.2.2.2.1])), (b1t, .inl (g 0, 60, .inl (w.2.2.2.2.2.2.2.2.2)))]) (va_runV (As := [.int (nI p_0), .int ((nI ((gr) % 1000)) - 500)]) (rest := []) ⟨hx, hb, hml, hown, hts⟩ hC (cwV 2 hts gX5_succeeds_X4_callFromOutside rfl rfl rfl (by decide +kernel) (k_lvl (by omega) (by decide))) (kPV hP hD hK hS hA hE [1, 2, 3, 4, 5, 6] rfl (by decide) 1 4 rfl rfl rfl) rfl rfl hl.1 rfl (lv_room (Nat.le_of_ble_eq_true rfl)) dX5_succeeds_106 ⟨Nat.le_of_ble_eq_true rfl, Nat.le_of_ble_eq_true rfl⟩) hP hD hS hA [1, 2, 3, 4, 5, 6] [0, 7, 8, 9, 10, 11, 12] [0, 7, 8, 9, 10, 11, 12, 1, 2, 3, 4, 5, 6] rfl rfl (by decide) (by decide) rfl (by decide) (fun H locs hP hD hS => ?_)
      refine lv_sipush (v := (-10000)) hx hb dX5_succeeds_109 (by decide) ?_
      refine lv_icmp_eq (tgt := 119) hx hb dX5_succeeds_112 (by decide) (fun c_4 => ?_) (fun c_4 => ?_)
      · refine lv_iconst (v := 0) hx hb dX5_succeeds_119 (by decide) ?_
        have ev_3 : (gCall v (nI p_0) ((nI ((gr) % 1000)) - 500)) = v_3 := Eq.symm kev_3
        have enn_0 : (gr) % 100 = nn_0 := Eq.symm kenn_0
        have etwo_0 : (((gr) / 100)) % 10 = two_0 := Eq.symm ketwo_0
        have ep_0 : (((gr) / 1000)) % 10 = p_0 := Eq.symm kep_0
        have hE2 : (f_X5_succeeds v w gr) = (0, v_3.2, w) := by
          subst ev_3
          subst enn_0
          subst etwo_0
          subst ep_0
          exact (if_pos c_1).trans ((if_neg c_2).trans ((if_pos c_4).trans (rfl)))
        subst hQ
        exact k_rz hx hb hr hlocks hP hD hS dX5_succeeds_120 (by rfl) (by rw [hE2]) (by rw [hE2])
      · refine lv_iconst (v := 1) hx hb dX5_succeeds_115 (by decide) ?_
        refine lv_goto (tgt := 120) hx hb dX5_succeeds_116 (by decide) ?_
        have ev_3 : (gCall v (nI p_0) ((nI ((gr) % 1000)) - 500)) = v_3 := Eq.symm kev_3
        have enn_0 : (gr) % 100 = nn_0 := Eq.symm kenn_0
        have etwo_0 : (((gr) / 100)) % 10 = two_0 := Eq.symm ketwo_0
        have ep_0 : (((gr) / 1000)) % 10 = p_0 := Eq.symm kep_0
        have hE2 : (f_X5_succeeds v w gr) = (1, v_3.2, w) := by
          subst ev_3
          subst enn_0
          subst etwo_0
          subst ep_0
          exact (if_pos c_1).trans ((if_neg c_2).trans ((if_neg c_4).trans (rfl)))
        subst hQ
        exact k_rz hx hb hr hlocks hP hD hS dX5_succeeds_120 (by rfl) (by rw [hE2]) (by rw [hE2])
  by_cases c_5 : ((gr) / 10000) = 2
  · refine k_tabIn (v := 2) (off := 82) (tgt := 121) hx hb dX5_succeeds_39 (congrArg nI c_5) (by decide) (by decide) rfl (by decide) ?_
    refine lv_aload_n hx hb dX5_succeeds_121 rfl (lv_at hl 4 rfl) ?_
    refine va_get (D := D) (ci := 5) (v := .ref p0c) (C := RX5) (T := TX5) (N := 2) hx hb hts (fun w h => (List.mem_cons_of_mem _ (List.mem_append_left _ (List.mem_append_left _ (List.mem_append_left _ (List.mem_append_right _ h)))))) hown hK hP 0 rfl rfl 0 (by decide) (hts _ qX5_succeeds_0) (fun _ h9 => h9) rfl dX5_succeeds_122 ?_
    refine lv_iload_n hx hb dX5_succeeds_125 rfl (lv_at hl 3 rfl) ?_
    refine k_ai (wr := [(s0, .inr (5, [.ref p0c, .ref p0t])), (p1c, .inl (g 0, 80, .inl (v.2.2.2.2.2.2.1))), (c0c, .inr (1, [.ref c1c])), (c1c, .inl (g 0, 480, .inl (v.2.2.2.2.2.2.2.1))), (b0c, .inr (0, [.ref b1c, .int v.2.2.2.2.2.2.2.2.1])), (b1c, .inl (g 0, 60, .inl (v.2.2.2.2.2.2.2.2.2))), (p0t, .inr (4, [.ref c0t, .ref b0t, .ref p1t, .int w.1, .int w.2.1, .int w.2.2.1, .int w.2.2.2.1, .int w.2.2.2.2.1, .int w.2.2.2.2.2.1])), (p1t, .inl (g 0, 80, .inl (w.2.2.2.2.2.2.1))), (c0t, .inr (1, [.ref c1t])), (c1t, .inl (g 0, 480, .inl (w.2.2.2.2.2.2.2.1))), (b0t, .inr (0, [.ref b1t, .int w.2.2.2.2.2.2.2.2.1])), (b1t, .inl (g 0, 60, .inl (w.2.2.2.2.2.2.2.2.2)))]) (w2 := [(s0, .inr (5, [.ref p0c, .ref p0t])), (p0c, .inr (4, [.ref c0c, .ref b0c, .ref p1c, .int v.1, .int v.2.1, .int v.2.2.1, .int v.2.2.2.1, .int v.2.2.2.2.1, .int v.2.2.2.2.2.1])), (p1c, .inl (g 0, 80, .inl (v.2.2.2.2.2.2.1))), (c0c, .inr (1, [.ref c1c])), (c1c, .inl (g 0, 480, .inl (v.2.2.2.2.2.2.2.1))), (b0c, .inr (0, [.ref b1c, .int v.2.2.2.2.2.2.2.2.1])), (b1c, .inl (g 0, 60, .inl (v.2.2.2.2.2.2.2.2.2))), (p0t, .inr (4, [.ref c0t, .ref b0t, .ref p1t, .int w.1, .int w.2.1, .int w.2.2.1, .int w.2.2.2.1, .int w.2.2.2.2.1, .int w.2.2.2.2.2.1])), (p1t, .inl (g 0, 80, .inl (w.2.2.2.2.2.2.1))), (c0t, .inr (1, [.ref c1t])), (c1t, .inl (g 0, 480, .inl (w.2.2.2.2.2.2.2.1))), (b0t, .inr (0, [.ref b1t, .int w.2.2.2.2.2.2.2.2.1])), (b1t, .inl (g 0, 60, .inl (w.2.2.2.2.2.2.2.2.2)))]) (va_runV (As := [.int (nI p_0)]) (rest := []) ⟨hx, hb, hml, hown, hts⟩ (c_X4_hasPart l D g p0c c0c b0c p1c H.size v.1 v.2.1 v.2.2.1 v.2.2.2.1 v.2.2.2.2.1 v.2.2.2.2.2.1 (nI p_0)) (cwV 1 hts gX5_succeeds_X4_hasPart rfl rfl rfl (by decide +kernel) (k_lvl (by omega) (by decide))) (kPV hP hD hK hS hA hE [1] rfl (by decide) 1 4 rfl rfl rfl) rfl rfl hl.1 rfl (lv_room (Nat.le_of_ble_eq_true rfl)) dX5_succeeds_126 ⟨Nat.le_of_ble_eq_true rfl, Nat.le_of_ble_eq_true rfl⟩) hP hD hS hA [1] [0, 2, 3, 4, 5, 6, 7, 8, 9, 10, 11, 12] [0, 12, 1, 2, 3, 4, 5, 6, 7, 8, 9, 10, 11] rfl rfl (by decide) (by decide) rfl (by decide) (fun H locs hP hD hS => ?_)
    refine lv_if_eq (tgt := 152) hx hb dX5_succeeds_129 (by decide) (fun c_6 => ?_) (fun c_6 => ?_)
    · refine lv_iconst (v := 0) hx hb dX5_succeeds_152 (by decide) ?_
      have enn_0 : (gr) % 100 = nn_0 := Eq.symm kenn_0
      have etwo_0 : (((gr) / 100)) % 10 = two_0 := Eq.symm ketwo_0
      have ep_0 : (((gr) / 1000)) % 10 = p_0 := Eq.symm kep_0
      have hE2 : (f_X5_succeeds v w gr) = (0, v, w) := by
        subst enn_0
        subst etwo_0
        subst ep_0
        exact (if_neg c_1).trans ((if_pos c_5).trans ((if_pos c_6).trans (rfl)))
      subst hQ
      exact k_rz hx hb hr hlocks hP hD hS dX5_succeeds_153 (by rfl) (by rw [hE2]) (by rw [hE2])
    · refine lv_aload_n hx hb dX5_succeeds_132 rfl (lv_at hl 4 rfl) ?_
      refine va_get (D := D) (ci := 5) (v := .ref p0c) (C := RX5) (T := TX5) (N := 2) hx hb hts (fun w h => (List.mem_cons_of_mem _ (List.mem_append_left _ (List.mem_append_left _ (List.mem_append_left _ (List.mem_append_right _ h)))))) hown hK hP 0 rfl rfl 0 (by decide) (hts _ qX5_succeeds_0) (fun _ h9 => h9) rfl dX5_succeeds_133 ?_
      refine lv_iload_n hx hb dX5_succeeds_136 rfl (lv_at hl 3 rfl) ?_
      refine lv_iload hx hb dX5_succeeds_137 (lv_at hl 0 rfl) ?_
      have hC := c_gCall l D g p0c c0c b0c p1c c1c b1c H.size v (nI p_0) ((nI ((gr) % 1000)) - 500)
      obtain ⟨v_7, ev_7⟩ : ∃ z, z = (gCall v (nI p_0) ((nI ((gr) % 1000)) - 500)) := ⟨_, rfl⟩
      rw [← ev_7] at hC
      have kev_7 : kEq v_7 (gCall v (nI p_0) ((nI ((gr) % 1000)) - 500)) := ev_7
      clear ev_7
      refine k_ai (wr := [(s0, .inr (5, [.ref p0c, .ref p0t])), (p0t, .inr (4, [.ref c0t, .ref b0t, .ref p1t, .int w.1, .int w.2.1, .int w.2.2.1, .int w.2.2.2.1, .int w.2.2.2.2.1, .int w.2.2.2.2.2.1])), (p1t, .inl (g 0, 80, .inl (w.2.2.2.2.2.2.1))), (c0t, .inr (1, [.ref c1t])), (c1t, .inl (g 0, 480, .inl (w.2.2.2.2.2.2.2.1))), (b0t, .inr (0, [.ref b1t, .int w.2.2.2.2.2.2.2.2.1])), (b1t, .inl (g 0, 60, .inl (w.2.2.2.2.2.2.2.2.2)))]) (w2 := [(s0, .inr (5, [.ref p0c, .ref p0t])), (p0c, .inr (4, [.ref c0c, .ref b0c, .ref p1c, .int v_7.2.1, .int v_7.2.2.1, .int v_7.2.2.2.1, .int v_7.2.2.2.2.1, .int v_7.2.2.2.2.2.1, .int v_7.2.2.2.2.2.2.1])), (p1c, .inl (g 0, 80, .inl (v_7.2.2.2.2.2.2.2.1))), (c0c, .inr (1, [.ref c1c])), (c1c, .inl (g 0, 480, .inl (v_7.2.2.2.2.2.2.2.2.1))), (b0c, .inr (0, [.ref b1c, .int v_7.2.2.2.2.2.2.2.2.2.1])), (b1c, .inl (g 0, 60, .inl (v_7.2.2.2.2.2.2.2.2.2.2))), (p0t, .inr (4, [.ref c0t, .ref b0t, .ref p1t, .int w.1, .int w.2.1, .int w.2.2.1, .int w.2.2.2.1, .int w.2.2.2.2.1, .int w.2.2.2.2.2.1])), (p1t, .inl (g 0, 80, .inl (w.2.2.2.2.2.2.1))), (c0t, .inr (1, [.ref c1t])), (c1t, .inl (g 0, 480, .inl (w.2.2.2.2.2.2.2.1))), (b0t, .inr (0, [.ref b1t, .int w.2.2.2.2.2.2.2.2.1])), (b1t, .inl (g 0, 60, .inl (w.2.2.2.2.2.2.2.2.2)))]) (va_runV (As := [.int (nI p_0), .int ((nI ((gr) % 1000)) - 500)]) (rest := []) ⟨hx, hb, hml, hown, hts⟩ hC (cwV 2 hts gX5_succeeds_X4_callFromOutside rfl rfl rfl (by decide +kernel) (k_lvl (by omega) (by decide))) (kPV hP hD hK hS hA hE [1, 2, 3, 4, 5, 6] rfl (by decide) 1 4 rfl rfl rfl) rfl rfl hl.1 rfl (lv_room (Nat.le_of_ble_eq_true rfl)) dX5_succeeds_139 ⟨Nat.le_of_ble_eq_true rfl, Nat.le_of_ble_eq_true rfl⟩) hP hD hS hA [1, 2, 3, 4, 5, 6] [0, 7, 8, 9, 10, 11, 12] [0, 7, 8, 9, 10, 11, 12, 1, 2, 3, 4, 5, 6] rfl rfl (by decide) (by decide) rfl (by decide) (fun H locs hP hD hS => ?_)
      refine lv_sipush (v := (-10000)) hx hb dX5_succeeds_142 (by decide) ?_
      refine lv_icmp_ne (tgt := 152) hx hb dX5_succeeds_145 (by decide) (fun c_8 => ?_) (fun c_8 => ?_)
      · refine lv_iconst (v := 0) hx hb dX5_succeeds_152 (by decide) ?_
        have ev_7 : (gCall v (nI p_0) ((nI ((gr) % 1000)) - 500)) = v_7 := Eq.symm kev_7
        have enn_0 : (gr) % 100 = nn_0 := Eq.symm kenn_0
        have etwo_0 : (((gr) / 100)) % 10 = two_0 := Eq.symm ketwo_0
        have ep_0 : (((gr) / 1000)) % 10 = p_0 := Eq.symm kep_0
        have hE2 : (f_X5_succeeds v w gr) = (0, v_7.2, w) := by
          subst ev_7
          subst enn_0
          subst etwo_0
          subst ep_0
          exact (if_neg c_1).trans ((if_pos c_5).trans ((if_neg c_6).trans ((if_neg c_8).trans (rfl))))
        subst hQ
        exact k_rz hx hb hr hlocks hP hD hS dX5_succeeds_153 (by rfl) (by rw [hE2]) (by rw [hE2])
      · refine lv_iconst (v := 1) hx hb dX5_succeeds_148 (by decide) ?_
        refine lv_goto (tgt := 153) hx hb dX5_succeeds_149 (by decide) ?_
        have ev_7 : (gCall v (nI p_0) ((nI ((gr) % 1000)) - 500)) = v_7 := Eq.symm kev_7
        have enn_0 : (gr) % 100 = nn_0 := Eq.symm kenn_0
        have etwo_0 : (((gr) / 100)) % 10 = two_0 := Eq.symm ketwo_0
        have ep_0 : (((gr) / 1000)) % 10 = p_0 := Eq.symm kep_0
        have hE2 : (f_X5_succeeds v w gr) = (1, v_7.2, w) := by
          subst ev_7
          subst enn_0
          subst etwo_0
          subst ep_0
          exact (if_neg c_1).trans ((if_pos c_5).trans ((if_neg c_6).trans ((if_pos c_8).trans (rfl))))
        subst hQ
        exact k_rz hx hb hr hlocks hP hD hS dX5_succeeds_153 (by rfl) (by rw [hE2]) (by rw [hE2])
  by_cases c_9 : ((gr) / 10000) = 3
  · refine k_tabIn (v := 3) (off := 115) (tgt := 154) hx hb dX5_succeeds_39 (congrArg nI c_9) (by decide) (by decide) rfl (by decide) ?_
    refine lv_iload hx hb dX5_succeeds_154 (lv_at hl 1 rfl) ?_
    refine lv_if_ne (tgt := 172) hx hb dX5_succeeds_156 (by decide) (fun c_10 => ?_) (fun c_10 => ?_)
    · have c_10 : ¬ (nn_0 = 0) := fun h9 => c_10 ((nI_eq (a := nn_0) (b := 0) (by omega) (by omega)).mpr h9)
      refine lv_iconst (v := 0) hx hb dX5_succeeds_172 (by decide) ?_
      have enn_0 : (gr) % 100 = nn_0 := Eq.symm kenn_0
      have etwo_0 : (((gr) / 100)) % 10 = two_0 := Eq.symm ketwo_0
      have ep_0 : (((gr) / 1000)) % 10 = p_0 := Eq.symm kep_0
      have hE2 : (f_X5_succeeds v w gr) = (0, v, w) := by
        subst enn_0
        subst etwo_0
        subst ep_0
        exact (if_neg c_1).trans ((if_neg c_5).trans ((if_pos c_9).trans ((if_neg c_10).trans (rfl))))
      subst hQ
      exact k_rz hx hb hr hlocks hP hD hS dX5_succeeds_173 (by rfl) (by rw [hE2]) (by rw [hE2])
    · have c_10 : nn_0 = 0 := (nI_eq (a := nn_0) (b := 0) (by omega) (by omega)).mp c_10
      refine lv_aload_n hx hb dX5_succeeds_159 rfl (lv_at hl 4 rfl) ?_
      refine lv_iload_n hx hb dX5_succeeds_160 rfl (lv_at hl 3 rfl) ?_
      refine lv_iload_n hx hb dX5_succeeds_161 rfl (lv_at hl 2 rfl) ?_
      have hC := c_X5_isChained l D g s0 p0c p0t c0c b0c p1c c1c b1c H.size v (nI p_0) (nI two_0)
      obtain ⟨v_11, ev_11⟩ : ∃ z, z = (f_X5_isChained v (nI p_0) (nI two_0)) := ⟨_, rfl⟩
      rw [← ev_11] at hC
      have kev_11 : kEq v_11 (f_X5_isChained v (nI p_0) (nI two_0)) := ev_11
      clear ev_11
      refine k_ai (wr := [(p0t, .inr (4, [.ref c0t, .ref b0t, .ref p1t, .int w.1, .int w.2.1, .int w.2.2.1, .int w.2.2.2.1, .int w.2.2.2.2.1, .int w.2.2.2.2.2.1])), (p1t, .inl (g 0, 80, .inl (w.2.2.2.2.2.2.1))), (c0t, .inr (1, [.ref c1t])), (c1t, .inl (g 0, 480, .inl (w.2.2.2.2.2.2.2.1))), (b0t, .inr (0, [.ref b1t, .int w.2.2.2.2.2.2.2.2.1])), (b1t, .inl (g 0, 60, .inl (w.2.2.2.2.2.2.2.2.2)))]) (w2 := [(s0, .inr (5, [.ref p0c, .ref p0t])), (p0c, .inr (4, [.ref c0c, .ref b0c, .ref p1c, .int v_11.2.1, .int v_11.2.2.1, .int v_11.2.2.2.1, .int v_11.2.2.2.2.1, .int v_11.2.2.2.2.2.1, .int v_11.2.2.2.2.2.2.1])), (p1c, .inl (g 0, 80, .inl (v_11.2.2.2.2.2.2.2.1))), (c0c, .inr (1, [.ref c1c])), (c1c, .inl (g 0, 480, .inl (v_11.2.2.2.2.2.2.2.2.1))), (b0c, .inr (0, [.ref b1c, .int v_11.2.2.2.2.2.2.2.2.2.1])), (b1c, .inl (g 0, 60, .inl (v_11.2.2.2.2.2.2.2.2.2.2))), (p0t, .inr (4, [.ref c0t, .ref b0t, .ref p1t, .int w.1, .int w.2.1, .int w.2.2.1, .int w.2.2.2.1, .int w.2.2.2.2.1, .int w.2.2.2.2.2.1])), (p1t, .inl (g 0, 80, .inl (w.2.2.2.2.2.2.1))), (c0t, .inr (1, [.ref c1t])), (c1t, .inl (g 0, 480, .inl (w.2.2.2.2.2.2.2.1))), (b0t, .inr (0, [.ref b1t, .int w.2.2.2.2.2.2.2.2.1])), (b1t, .inl (g 0, 60, .inl (w.2.2.2.2.2.2.2.2.2)))]) (va_runV (As := [.int (nI p_0), .int (nI two_0)]) (rest := []) ⟨hx, hb, hml, hown, hts⟩ hC (cwV 2 hts gX5_succeeds_X5_isChained rfl rfl rfl (by decide +kernel) (k_lvl (by omega) (by decide))) (kPV hP hD hK hS hA hE [0, 1, 2, 3, 4, 5, 6] rfl (by decide) 0 5 rfl rfl rfl) rfl rfl hl.1 rfl (lv_room (Nat.le_of_ble_eq_true rfl)) dX5_succeeds_162 ⟨Nat.le_of_ble_eq_true rfl, Nat.le_of_ble_eq_true rfl⟩) hP hD hS hA [0, 1, 2, 3, 4, 5, 6] [7, 8, 9, 10, 11, 12] [6, 7, 8, 9, 10, 11, 12, 0, 1, 2, 3, 4, 5] rfl rfl (by decide) (by decide) rfl (by decide) (fun H locs hP hD hS => ?_)
      refine lv_if_eq (tgt := 172) hx hb dX5_succeeds_165 (by decide) (fun c_12 => ?_) (fun c_12 => ?_)
      · refine lv_iconst (v := 0) hx hb dX5_succeeds_172 (by decide) ?_
        have ev_11 : (f_X5_isChained v (nI p_0) (nI two_0)) = v_11 := Eq.symm kev_11
        have enn_0 : (gr) % 100 = nn_0 := Eq.symm kenn_0
        have etwo_0 : (((gr) / 100)) % 10 = two_0 := Eq.symm ketwo_0
        have ep_0 : (((gr) / 1000)) % 10 = p_0 := Eq.symm kep_0
        have hE2 : (f_X5_succeeds v w gr) = (0, v_11.2, w) := by
          subst ev_11
          subst enn_0
          subst etwo_0
          subst ep_0
          exact (if_neg c_1).trans ((if_neg c_5).trans ((if_pos c_9).trans ((if_pos c_10).trans ((if_pos c_12).trans (rfl)))))
        subst hQ
        exact k_rz hx hb hr hlocks hP hD hS dX5_succeeds_173 (by rfl) (by rw [hE2]) (by rw [hE2])
      · refine lv_iconst (v := 1) hx hb dX5_succeeds_168 (by decide) ?_
        refine lv_goto (tgt := 173) hx hb dX5_succeeds_169 (by decide) ?_
        have ev_11 : (f_X5_isChained v (nI p_0) (nI two_0)) = v_11 := Eq.symm kev_11
        have enn_0 : (gr) % 100 = nn_0 := Eq.symm kenn_0
        have etwo_0 : (((gr) / 100)) % 10 = two_0 := Eq.symm ketwo_0
        have ep_0 : (((gr) / 1000)) % 10 = p_0 := Eq.symm kep_0
        have hE2 : (f_X5_succeeds v w gr) = (1, v_11.2, w) := by
          subst ev_11
          subst enn_0
          subst etwo_0
          subst ep_0
          exact (if_neg c_1).trans ((if_neg c_5).trans ((if_pos c_9).trans ((if_pos c_10).trans ((if_neg c_12).trans (rfl)))))
        subst hQ
        exact k_rz hx hb hr hlocks hP hD hS dX5_succeeds_173 (by rfl) (by rw [hE2]) (by rw [hE2])
  by_cases c_13 : ((gr) / 10000) = 4
  · refine k_tabIn (v := 4) (off := 135) (tgt := 174) hx hb dX5_succeeds_39 (congrArg nI c_13) (by decide) (by decide) rfl (by decide) ?_
    refine lv_iload_n hx hb dX5_succeeds_174 rfl (lv_at hl 2 rfl) ?_
    refine lv_if_ne (tgt := 192) hx hb dX5_succeeds_175 (by decide) (fun c_14 => ?_) (fun c_14 => ?_)
    · have c_14 : ¬ (two_0 = 0) := fun h9 => c_14 ((nI_eq (a := two_0) (b := 0) (by omega) (by omega)).mpr h9)
      refine lv_iconst (v := 0) hx hb dX5_succeeds_192 (by decide) ?_
      have enn_0 : (gr) % 100 = nn_0 := Eq.symm kenn_0
      have etwo_0 : (((gr) / 100)) % 10 = two_0 := Eq.symm ketwo_0
      have ep_0 : (((gr) / 1000)) % 10 = p_0 := Eq.symm kep_0
      have hE2 : (f_X5_succeeds v w gr) = (0, v, w) := by
        subst enn_0
        subst etwo_0
        subst ep_0
        exact (if_neg c_1).trans ((if_neg c_5).trans ((if_neg c_9).trans ((if_pos c_13).trans ((if_neg c_14).trans (rfl)))))
      subst hQ
      exact k_rz hx hb hr hlocks hP hD hS dX5_succeeds_193 (by rfl) (by rw [hE2]) (by rw [hE2])
    · have c_14 : two_0 = 0 := (nI_eq (a := two_0) (b := 0) (by omega) (by omega)).mp c_14
      refine lv_aload_n hx hb dX5_succeeds_178 rfl (lv_at hl 4 rfl) ?_
      refine lv_iload_n hx hb dX5_succeeds_179 rfl (lv_at hl 3 rfl) ?_
      refine lv_iload hx hb dX5_succeeds_180 (lv_at hl 1 rfl) ?_
      have hC := c_X5_isNetted l D g s0 p0c p0t c0c b0c p1c c1c b1c H.size v (nI p_0) (nI nn_0)
      obtain ⟨v_15, ev_15⟩ : ∃ z, z = (f_X5_isNetted v (nI p_0) (nI nn_0)) := ⟨_, rfl⟩
      rw [← ev_15] at hC
      have kev_15 : kEq v_15 (f_X5_isNetted v (nI p_0) (nI nn_0)) := ev_15
      clear ev_15
      refine k_ai (wr := [(p0t, .inr (4, [.ref c0t, .ref b0t, .ref p1t, .int w.1, .int w.2.1, .int w.2.2.1, .int w.2.2.2.1, .int w.2.2.2.2.1, .int w.2.2.2.2.2.1])), (p1t, .inl (g 0, 80, .inl (w.2.2.2.2.2.2.1))), (c0t, .inr (1, [.ref c1t])), (c1t, .inl (g 0, 480, .inl (w.2.2.2.2.2.2.2.1))), (b0t, .inr (0, [.ref b1t, .int w.2.2.2.2.2.2.2.2.1])), (b1t, .inl (g 0, 60, .inl (w.2.2.2.2.2.2.2.2.2)))]) (w2 := [(s0, .inr (5, [.ref p0c, .ref p0t])), (p0c, .inr (4, [.ref c0c, .ref b0c, .ref p1c, .int v_15.2.1, .int v_15.2.2.1, .int v_15.2.2.2.1, .int v_15.2.2.2.2.1, .int v_15.2.2.2.2.2.1, .int v_15.2.2.2.2.2.2.1])), (p1c, .inl (g 0, 80, .inl (v_15.2.2.2.2.2.2.2.1))), (c0c, .inr (1, [.ref c1c])), (c1c, .inl (g 0, 480, .inl (v_15.2.2.2.2.2.2.2.2.1))), (b0c, .inr (0, [.ref b1c, .int v_15.2.2.2.2.2.2.2.2.2.1])), (b1c, .inl (g 0, 60, .inl (v_15.2.2.2.2.2.2.2.2.2.2))), (p0t, .inr (4, [.ref c0t, .ref b0t, .ref p1t, .int w.1, .int w.2.1, .int w.2.2.1, .int w.2.2.2.1, .int w.2.2.2.2.1, .int w.2.2.2.2.2.1])), (p1t, .inl (g 0, 80, .inl (w.2.2.2.2.2.2.1))), (c0t, .inr (1, [.ref c1t])), (c1t, .inl (g 0, 480, .inl (w.2.2.2.2.2.2.2.1))), (b0t, .inr (0, [.ref b1t, .int w.2.2.2.2.2.2.2.2.1])), (b1t, .inl (g 0, 60, .inl (w.2.2.2.2.2.2.2.2.2)))]) (va_runV (As := [.int (nI p_0), .int (nI nn_0)]) (rest := []) ⟨hx, hb, hml, hown, hts⟩ hC (cwV 2 hts gX5_succeeds_X5_isNetted rfl rfl rfl (by decide +kernel) (k_lvl (by omega) (by decide))) (kPV hP hD hK hS hA hE [0, 1, 2, 3, 4, 5, 6] rfl (by decide) 0 5 rfl rfl rfl) rfl rfl hl.1 rfl (lv_room (Nat.le_of_ble_eq_true rfl)) dX5_succeeds_182 ⟨Nat.le_of_ble_eq_true rfl, Nat.le_of_ble_eq_true rfl⟩) hP hD hS hA [0, 1, 2, 3, 4, 5, 6] [7, 8, 9, 10, 11, 12] [6, 7, 8, 9, 10, 11, 12, 0, 1, 2, 3, 4, 5] rfl rfl (by decide) (by decide) rfl (by decide) (fun H locs hP hD hS => ?_)
      refine lv_if_eq (tgt := 192) hx hb dX5_succeeds_185 (by decide) (fun c_16 => ?_) (fun c_16 => ?_)
      · refine lv_iconst (v := 0) hx hb dX5_succeeds_192 (by decide) ?_
        have ev_15 : (f_X5_isNetted v (nI p_0) (nI nn_0)) = v_15 := Eq.symm kev_15
        have enn_0 : (gr) % 100 = nn_0 := Eq.symm kenn_0
        have etwo_0 : (((gr) / 100)) % 10 = two_0 := Eq.symm ketwo_0
        have ep_0 : (((gr) / 1000)) % 10 = p_0 := Eq.symm kep_0
        have hE2 : (f_X5_succeeds v w gr) = (0, v_15.2, w) := by
          subst ev_15
          subst enn_0
          subst etwo_0
          subst ep_0
          exact (if_neg c_1).trans ((if_neg c_5).trans ((if_neg c_9).trans ((if_pos c_13).trans ((if_pos c_14).trans ((if_pos c_16).trans (rfl))))))
        subst hQ
        exact k_rz hx hb hr hlocks hP hD hS dX5_succeeds_193 (by rfl) (by rw [hE2]) (by rw [hE2])
      · refine lv_iconst (v := 1) hx hb dX5_succeeds_188 (by decide) ?_
        refine lv_goto (tgt := 193) hx hb dX5_succeeds_189 (by decide) ?_
        have ev_15 : (f_X5_isNetted v (nI p_0) (nI nn_0)) = v_15 := Eq.symm kev_15
        have enn_0 : (gr) % 100 = nn_0 := Eq.symm kenn_0
        have etwo_0 : (((gr) / 100)) % 10 = two_0 := Eq.symm ketwo_0
        have ep_0 : (((gr) / 1000)) % 10 = p_0 := Eq.symm kep_0
        have hE2 : (f_X5_succeeds v w gr) = (1, v_15.2, w) := by
          subst ev_15
          subst enn_0
          subst etwo_0
          subst ep_0
          exact (if_neg c_1).trans ((if_neg c_5).trans ((if_neg c_9).trans ((if_pos c_13).trans ((if_pos c_14).trans ((if_neg c_16).trans (rfl))))))
        subst hQ
        exact k_rz hx hb hr hlocks hP hD hS dX5_succeeds_193 (by rfl) (by rw [hE2]) (by rw [hE2])
  by_cases c_17 : ((gr) / 10000) = 5
  · refine k_tabIn (v := 5) (off := 155) (tgt := 194) hx hb dX5_succeeds_39 (congrArg nI c_17) (by decide) (by decide) rfl (by decide) ?_
    refine lv_iload_n hx hb dX5_succeeds_194 rfl (lv_at hl 2 rfl) ?_
    refine lv_if_ne (tgt := 224) hx hb dX5_succeeds_195 (by decide) (fun c_18 => ?_) (fun c_18 => ?_)
    · have c_18 : ¬ (two_0 = 0) := fun h9 => c_18 ((nI_eq (a := two_0) (b := 0) (by omega) (by omega)).mpr h9)
      refine lv_iconst (v := 0) hx hb dX5_succeeds_224 (by decide) ?_
      have enn_0 : (gr) % 100 = nn_0 := Eq.symm kenn_0
      have etwo_0 : (((gr) / 100)) % 10 = two_0 := Eq.symm ketwo_0
      have ep_0 : (((gr) / 1000)) % 10 = p_0 := Eq.symm kep_0
      have hE2 : (f_X5_succeeds v w gr) = (0, v, w) := by
        subst enn_0
        subst etwo_0
        subst ep_0
        exact (if_neg c_1).trans ((if_neg c_5).trans ((if_neg c_9).trans ((if_neg c_13).trans ((if_pos c_17).trans ((if_neg c_18).trans (rfl))))))
      subst hQ
      exact k_rz hx hb hr hlocks hP hD hS dX5_succeeds_225 (by rfl) (by rw [hE2]) (by rw [hE2])
    · have c_18 : two_0 = 0 := (nI_eq (a := two_0) (b := 0) (by omega) (by omega)).mp c_18
      refine lv_iload hx hb dX5_succeeds_198 (lv_at hl 1 rfl) ?_
      refine lv_if_ne (tgt := 224) hx hb dX5_succeeds_200 (by decide) (fun c_19 => ?_) (fun c_19 => ?_)
      · have c_19 : ¬ (nn_0 = 0) := fun h9 => c_19 ((nI_eq (a := nn_0) (b := 0) (by omega) (by omega)).mpr h9)
        refine lv_iconst (v := 0) hx hb dX5_succeeds_224 (by decide) ?_
        have enn_0 : (gr) % 100 = nn_0 := Eq.symm kenn_0
        have etwo_0 : (((gr) / 100)) % 10 = two_0 := Eq.symm ketwo_0
        have ep_0 : (((gr) / 1000)) % 10 = p_0 := Eq.symm kep_0
        have hE2 : (f_X5_succeeds v w gr) = (0, v, w) := by
          subst enn_0
          subst etwo_0
          subst ep_0
          exact (if_neg c_1).trans ((if_neg c_5).trans ((if_neg c_9).trans ((if_neg c_13).trans ((if_pos c_17).trans ((if_pos c_18).trans ((if_neg c_19).trans (rfl)))))))
        subst hQ
        exact k_rz hx hb hr hlocks hP hD hS dX5_succeeds_225 (by rfl) (by rw [hE2]) (by rw [hE2])
      · have c_19 : nn_0 = 0 := (nI_eq (a := nn_0) (b := 0) (by omega) (by omega)).mp c_19
        refine lv_aload_n hx hb dX5_succeeds_203 rfl (lv_at hl 4 rfl) ?_
        refine va_get (D := D) (ci := 5) (v := .ref p0c) (C := RX5) (T := TX5) (N := 2) hx hb hts (fun w h => (List.mem_cons_of_mem _ (List.mem_append_left _ (List.mem_append_left _ (List.mem_append_left _ (List.mem_append_right _ h)))))) hown hK hP 0 rfl rfl 0 (by decide) (hts _ qX5_succeeds_0) (fun _ h9 => h9) rfl dX5_succeeds_204 ?_
        refine va_getN (D := D) (ci := 4) (v := .ref c0c) (C := RX4) (T := TX4) (N := 9) hx hb hts (fun w h => (List.mem_cons_of_mem _ (List.mem_append_left _ (List.mem_append_left _ (List.mem_append_right _ h))))) hown hK hP 1 rfl rfl 0 (by decide) (va_Nw.use rfl (hE.1.1 1 _ rfl)) (fun _ h9 => h9) rfl dX5_succeeds_207 ?_
        refine lv_sipush (v := (-10001)) hx hb dX5_succeeds_210 (by decide) ?_
        refine lv_iload_n hx hb dX5_succeeds_213 rfl (lv_at hl 3 rfl) ?_
        have hC := c_gRem l D g c0c c1c p0c b0c p1c b1c H.size v (-10001) (nI p_0)
        obtain ⟨v_20, ev_20⟩ : ∃ z, z = (gRem v (-10001) (nI p_0)) := ⟨_, rfl⟩
        rw [← ev_20] at hC
        have kev_20 : kEq v_20 (gRem v (-10001) (nI p_0)) := ev_20
        clear ev_20
        refine k_ai (wr := [(s0, .inr (5, [.ref p0c, .ref p0t])), (p0t, .inr (4, [.ref c0t, .ref b0t, .ref p1t, .int w.1, .int w.2.1, .int w.2.2.1, .int w.2.2.2.1, .int w.2.2.2.2.1, .int w.2.2.2.2.2.1])), (p1t, .inl (g 0, 80, .inl (w.2.2.2.2.2.2.1))), (c0t, .inr (1, [.ref c1t])), (c1t, .inl (g 0, 480, .inl (w.2.2.2.2.2.2.2.1))), (b0t, .inr (0, [.ref b1t, .int w.2.2.2.2.2.2.2.2.1])), (b1t, .inl (g 0, 60, .inl (w.2.2.2.2.2.2.2.2.2)))]) (w2 := [(s0, .inr (5, [.ref p0c, .ref p0t])), (p0c, .inr (4, [.ref c0c, .ref b0c, .ref p1c, .int v_20.2.1, .int v_20.2.2.1, .int v_20.2.2.2.1, .int v_20.2.2.2.2.1, .int v_20.2.2.2.2.2.1, .int v_20.2.2.2.2.2.2.1])), (p1c, .inl (g 0, 80, .inl (v_20.2.2.2.2.2.2.2.1))), (c0c, .inr (1, [.ref c1c])), (c1c, .inl (g 0, 480, .inl (v_20.2.2.2.2.2.2.2.2.1))), (b0c, .inr (0, [.ref b1c, .int v_20.2.2.2.2.2.2.2.2.2.1])), (b1c, .inl (g 0, 60, .inl (v_20.2.2.2.2.2.2.2.2.2.2))), (p0t, .inr (4, [.ref c0t, .ref b0t, .ref p1t, .int w.1, .int w.2.1, .int w.2.2.1, .int w.2.2.2.1, .int w.2.2.2.2.1, .int w.2.2.2.2.2.1])), (p1t, .inl (g 0, 80, .inl (w.2.2.2.2.2.2.1))), (c0t, .inr (1, [.ref c1t])), (c1t, .inl (g 0, 480, .inl (w.2.2.2.2.2.2.2.1))), (b0t, .inr (0, [.ref b1t, .int w.2.2.2.2.2.2.2.2.1])), (b1t, .inl (g 0, 60, .inl (w.2.2.2.2.2.2.2.2.2)))]) (va_runV (As := [.int (-10001), .int (nI p_0)]) (rest := []) ⟨hx, hb, hml, hown, hts⟩ hC (cwV 2 hts gX5_succeeds_X1_remove rfl rfl rfl (by decide +kernel) (k_lvl (by omega) (by decide))) (kPV hP hD hK hS hA hE [1, 2, 3, 4, 5, 6] rfl (by decide) 3 1 rfl rfl rfl) rfl rfl hl.1 rfl (lv_room (Nat.le_of_ble_eq_true rfl)) dX5_succeeds_214 ⟨Nat.le_of_ble_eq_true rfl, Nat.le_of_ble_eq_true rfl⟩) hP hD hS hA [1, 2, 3, 4, 5, 6] [0, 7, 8, 9, 10, 11, 12] [0, 7, 8, 9, 10, 11, 12, 1, 2, 3, 4, 5, 6] rfl rfl (by decide) (by decide) rfl (by decide) (fun H locs hP hD hS => ?_)
        refine lv_if_eq (tgt := 224) hx hb dX5_succeeds_217 (by decide) (fun c_21 => ?_) (fun c_21 => ?_)
        · refine lv_iconst (v := 0) hx hb dX5_succeeds_224 (by decide) ?_
          have ev_20 : (gRem v (-10001) (nI p_0)) = v_20 := Eq.symm kev_20
          have enn_0 : (gr) % 100 = nn_0 := Eq.symm kenn_0
          have etwo_0 : (((gr) / 100)) % 10 = two_0 := Eq.symm ketwo_0
          have ep_0 : (((gr) / 1000)) % 10 = p_0 := Eq.symm kep_0
          have hE2 : (f_X5_succeeds v w gr) = (0, v_20.2, w) := by
            subst ev_20
            subst enn_0
            subst etwo_0
            subst ep_0
            exact (if_neg c_1).trans ((if_neg c_5).trans ((if_neg c_9).trans ((if_neg c_13).trans ((if_pos c_17).trans ((if_pos c_18).trans ((if_pos c_19).trans ((if_pos c_21).trans (rfl))))))))
          subst hQ
          exact k_rz hx hb hr hlocks hP hD hS dX5_succeeds_225 (by rfl) (by rw [hE2]) (by rw [hE2])
        · refine lv_iconst (v := 1) hx hb dX5_succeeds_220 (by decide) ?_
          refine lv_goto (tgt := 225) hx hb dX5_succeeds_221 (by decide) ?_
          have ev_20 : (gRem v (-10001) (nI p_0)) = v_20 := Eq.symm kev_20
          have enn_0 : (gr) % 100 = nn_0 := Eq.symm kenn_0
          have etwo_0 : (((gr) / 100)) % 10 = two_0 := Eq.symm ketwo_0
          have ep_0 : (((gr) / 1000)) % 10 = p_0 := Eq.symm kep_0
          have hE2 : (f_X5_succeeds v w gr) = (1, v_20.2, w) := by
            subst ev_20
            subst enn_0
            subst etwo_0
            subst ep_0
            exact (if_neg c_1).trans ((if_neg c_5).trans ((if_neg c_9).trans ((if_neg c_13).trans ((if_pos c_17).trans ((if_pos c_18).trans ((if_pos c_19).trans ((if_neg c_21).trans (rfl))))))))
          subst hQ
          exact k_rz hx hb hr hlocks hP hD hS dX5_succeeds_225 (by rfl) (by rw [hE2]) (by rw [hE2])
  by_cases c_22 : ((gr) / 10000) = 6
  · refine k_tabIn (v := 6) (off := 187) (tgt := 226) hx hb dX5_succeeds_39 (congrArg nI c_22) (by decide) (by decide) rfl (by decide) ?_
    refine lv_iload hx hb dX5_succeeds_226 (lv_at hl 1 rfl) ?_
    refine lv_if_ne (tgt := 250) hx hb dX5_succeeds_228 (by decide) (fun c_23 => ?_) (fun c_23 => ?_)
    · have c_23 : ¬ (nn_0 = 0) := fun h9 => c_23 ((nI_eq (a := nn_0) (b := 0) (by omega) (by omega)).mpr h9)
      refine lv_iconst (v := 0) hx hb dX5_succeeds_250 (by decide) ?_
      have enn_0 : (gr) % 100 = nn_0 := Eq.symm kenn_0
      have etwo_0 : (((gr) / 100)) % 10 = two_0 := Eq.symm ketwo_0
      have ep_0 : (((gr) / 1000)) % 10 = p_0 := Eq.symm kep_0
      have hE2 : (f_X5_succeeds v w gr) = (0, v, w) := by
        subst enn_0
        subst etwo_0
        subst ep_0
        exact (if_neg c_1).trans ((if_neg c_5).trans ((if_neg c_9).trans ((if_neg c_13).trans ((if_neg c_17).trans ((if_pos c_22).trans ((if_neg c_23).trans (rfl)))))))
      subst hQ
      exact k_rz hx hb hr hlocks hP hD hS dX5_succeeds_251 (by rfl) (by rw [hE2]) (by rw [hE2])
    · have c_23 : nn_0 = 0 := (nI_eq (a := nn_0) (b := 0) (by omega) (by omega)).mp c_23
      refine lv_aload_n hx hb dX5_succeeds_231 rfl (lv_at hl 4 rfl) ?_
      refine va_get (D := D) (ci := 5) (v := .ref p0c) (C := RX5) (T := TX5) (N := 2) hx hb hts (fun w h => (List.mem_cons_of_mem _ (List.mem_append_left _ (List.mem_append_left _ (List.mem_append_left _ (List.mem_append_right _ h)))))) hown hK hP 0 rfl rfl 0 (by decide) (hts _ qX5_succeeds_0) (fun _ h9 => h9) rfl dX5_succeeds_232 ?_
      refine va_getN (D := D) (ci := 4) (v := .ref c0c) (C := RX4) (T := TX4) (N := 9) hx hb hts (fun w h => (List.mem_cons_of_mem _ (List.mem_append_left _ (List.mem_append_left _ (List.mem_append_right _ h))))) hown hK hP 1 rfl rfl 0 (by decide) (va_Nw.use rfl (hE.1.1 1 _ rfl)) (fun _ h9 => h9) rfl dX5_succeeds_235 ?_
      refine lv_iload_n hx hb dX5_succeeds_238 rfl (lv_at hl 3 rfl) ?_
      refine lv_iload_n hx hb dX5_succeeds_239 rfl (lv_at hl 2 rfl) ?_
      have hC := c_gRem l D g c0c c1c p0c b0c p1c b1c H.size v (nI p_0) (nI two_0)
      obtain ⟨v_24, ev_24⟩ : ∃ z, z = (gRem v (nI p_0) (nI two_0)) := ⟨_, rfl⟩
      rw [← ev_24] at hC
      have kev_24 : kEq v_24 (gRem v (nI p_0) (nI two_0)) := ev_24
      clear ev_24
      refine k_ai (wr := [(s0, .inr (5, [.ref p0c, .ref p0t])), (p0t, .inr (4, [.ref c0t, .ref b0t, .ref p1t, .int w.1, .int w.2.1, .int w.2.2.1, .int w.2.2.2.1, .int w.2.2.2.2.1, .int w.2.2.2.2.2.1])), (p1t, .inl (g 0, 80, .inl (w.2.2.2.2.2.2.1))), (c0t, .inr (1, [.ref c1t])), (c1t, .inl (g 0, 480, .inl (w.2.2.2.2.2.2.2.1))), (b0t, .inr (0, [.ref b1t, .int w.2.2.2.2.2.2.2.2.1])), (b1t, .inl (g 0, 60, .inl (w.2.2.2.2.2.2.2.2.2)))]) (w2 := [(s0, .inr (5, [.ref p0c, .ref p0t])), (p0c, .inr (4, [.ref c0c, .ref b0c, .ref p1c, .int v_24.2.1, .int v_24.2.2.1, .int v_24.2.2.2.1, .int v_24.2.2.2.2.1, .int v_24.2.2.2.2.2.1, .int v_24.2.2.2.2.2.2.1])), (p1c, .inl (g 0, 80, .inl (v_24.2.2.2.2.2.2.2.1))), (c0c, .inr (1, [.ref c1c])), (c1c, .inl (g 0, 480, .inl (v_24.2.2.2.2.2.2.2.2.1))), (b0c, .inr (0, [.ref b1c, .int v_24.2.2.2.2.2.2.2.2.2.1])), (b1c, .inl (g 0, 60, .inl (v_24.2.2.2.2.2.2.2.2.2.2))), (p0t, .inr (4, [.ref c0t, .ref b0t, .ref p1t, .int w.1, .int w.2.1, .int w.2.2.1, .int w.2.2.2.1, .int w.2.2.2.2.1, .int w.2.2.2.2.2.1])), (p1t, .inl (g 0, 80, .inl (w.2.2.2.2.2.2.1))), (c0t, .inr (1, [.ref c1t])), (c1t, .inl (g 0, 480, .inl (w.2.2.2.2.2.2.2.1))), (b0t, .inr (0, [.ref b1t, .int w.2.2.2.2.2.2.2.2.1])), (b1t, .inl (g 0, 60, .inl (w.2.2.2.2.2.2.2.2.2)))]) (va_runV (As := [.int (nI p_0), .int (nI two_0)]) (rest := []) ⟨hx, hb, hml, hown, hts⟩ hC (cwV 2 hts gX5_succeeds_X1_remove rfl rfl rfl (by decide +kernel) (k_lvl (by omega) (by decide))) (kPV hP hD hK hS hA hE [1, 2, 3, 4, 5, 6] rfl (by decide) 3 1 rfl rfl rfl) rfl rfl hl.1 rfl (lv_room (Nat.le_of_ble_eq_true rfl)) dX5_succeeds_240 ⟨Nat.le_of_ble_eq_true rfl, Nat.le_of_ble_eq_true rfl⟩) hP hD hS hA [1, 2, 3, 4, 5, 6] [0, 7, 8, 9, 10, 11, 12] [0, 7, 8, 9, 10, 11, 12, 1, 2, 3, 4, 5, 6] rfl rfl (by decide) (by decide) rfl (by decide) (fun H locs hP hD hS => ?_)
      refine lv_if_eq (tgt := 250) hx hb dX5_succeeds_243 (by decide) (fun c_25 => ?_) (fun c_25 => ?_)
      · refine lv_iconst (v := 0) hx hb dX5_succeeds_250 (by decide) ?_
        have ev_24 : (gRem v (nI p_0) (nI two_0)) = v_24 := Eq.symm kev_24
        have enn_0 : (gr) % 100 = nn_0 := Eq.symm kenn_0
        have etwo_0 : (((gr) / 100)) % 10 = two_0 := Eq.symm ketwo_0
        have ep_0 : (((gr) / 1000)) % 10 = p_0 := Eq.symm kep_0
        have hE2 : (f_X5_succeeds v w gr) = (0, v_24.2, w) := by
          subst ev_24
          subst enn_0
          subst etwo_0
          subst ep_0
          exact (if_neg c_1).trans ((if_neg c_5).trans ((if_neg c_9).trans ((if_neg c_13).trans ((if_neg c_17).trans ((if_pos c_22).trans ((if_pos c_23).trans ((if_pos c_25).trans (rfl))))))))
        subst hQ
        exact k_rz hx hb hr hlocks hP hD hS dX5_succeeds_251 (by rfl) (by rw [hE2]) (by rw [hE2])
      · refine lv_iconst (v := 1) hx hb dX5_succeeds_246 (by decide) ?_
        refine lv_goto (tgt := 251) hx hb dX5_succeeds_247 (by decide) ?_
        have ev_24 : (gRem v (nI p_0) (nI two_0)) = v_24 := Eq.symm kev_24
        have enn_0 : (gr) % 100 = nn_0 := Eq.symm kenn_0
        have etwo_0 : (((gr) / 100)) % 10 = two_0 := Eq.symm ketwo_0
        have ep_0 : (((gr) / 1000)) % 10 = p_0 := Eq.symm kep_0
        have hE2 : (f_X5_succeeds v w gr) = (1, v_24.2, w) := by
          subst ev_24
          subst enn_0
          subst etwo_0
          subst ep_0
          exact (if_neg c_1).trans ((if_neg c_5).trans ((if_neg c_9).trans ((if_neg c_13).trans ((if_neg c_17).trans ((if_pos c_22).trans ((if_pos c_23).trans ((if_neg c_25).trans (rfl))))))))
        subst hQ
        exact k_rz hx hb hr hlocks hP hD hS dX5_succeeds_251 (by rfl) (by rw [hE2]) (by rw [hE2])
  by_cases c_26 : ((gr) / 10000) = 7
  · refine k_tabIn (v := 7) (off := 213) (tgt := 252) hx hb dX5_succeeds_39 (congrArg nI c_26) (by decide) (by decide) rfl (by decide) ?_
    refine lv_iload_n hx hb dX5_succeeds_252 rfl (lv_at hl 2 rfl) ?_
    refine lv_if_ne (tgt := 286) hx hb dX5_succeeds_253 (by decide) (fun c_27 => ?_) (fun c_27 => ?_)
    · have c_27 : ¬ (two_0 = 0) := fun h9 => c_27 ((nI_eq (a := two_0) (b := 0) (by omega) (by omega)).mpr h9)
      refine lv_iconst (v := 0) hx hb dX5_succeeds_286 (by decide) ?_
      have enn_0 : (gr) % 100 = nn_0 := Eq.symm kenn_0
      have etwo_0 : (((gr) / 100)) % 10 = two_0 := Eq.symm ketwo_0
      have ep_0 : (((gr) / 1000)) % 10 = p_0 := Eq.symm kep_0
      have hE2 : (f_X5_succeeds v w gr) = (0, v, w) := by
        subst enn_0
        subst etwo_0
        subst ep_0
        exact (if_neg c_1).trans ((if_neg c_5).trans ((if_neg c_9).trans ((if_neg c_13).trans ((if_neg c_17).trans ((if_neg c_22).trans ((if_pos c_26).trans ((if_neg c_27).trans (rfl))))))))
      subst hQ
      exact k_rz hx hb hr hlocks hP hD hS dX5_succeeds_287 (by rfl) (by rw [hE2]) (by rw [hE2])
    · have c_27 : two_0 = 0 := (nI_eq (a := two_0) (b := 0) (by omega) (by omega)).mp c_27
      refine lv_aload_n hx hb dX5_succeeds_256 rfl (lv_at hl 4 rfl) ?_
      refine va_get (D := D) (ci := 5) (v := .ref p0c) (C := RX5) (T := TX5) (N := 2) hx hb hts (fun w h => (List.mem_cons_of_mem _ (List.mem_append_left _ (List.mem_append_left _ (List.mem_append_left _ (List.mem_append_right _ h)))))) hown hK hP 0 rfl rfl 0 (by decide) (hts _ qX5_succeeds_0) (fun _ h9 => h9) rfl dX5_succeeds_257 ?_
      refine lv_iload_n hx hb dX5_succeeds_260 rfl (lv_at hl 3 rfl) ?_
      refine k_ai (wr := [(s0, .inr (5, [.ref p0c, .ref p0t])), (p1c, .inl (g 0, 80, .inl (v.2.2.2.2.2.2.1))), (c0c, .inr (1, [.ref c1c])), (c1c, .inl (g 0, 480, .inl (v.2.2.2.2.2.2.2.1))), (b0c, .inr (0, [.ref b1c, .int v.2.2.2.2.2.2.2.2.1])), (b1c, .inl (g 0, 60, .inl (v.2.2.2.2.2.2.2.2.2))), (p0t, .inr (4, [.ref c0t, .ref b0t, .ref p1t, .int w.1, .int w.2.1, .int w.2.2.1, .int w.2.2.2.1, .int w.2.2.2.2.1, .int w.2.2.2.2.2.1])), (p1t, .inl (g 0, 80, .inl (w.2.2.2.2.2.2.1))), (c0t, .inr (1, [.ref c1t])), (c1t, .inl (g 0, 480, .inl (w.2.2.2.2.2.2.2.1))), (b0t, .inr (0, [.ref b1t, .int w.2.2.2.2.2.2.2.2.1])), (b1t, .inl (g 0, 60, .inl (w.2.2.2.2.2.2.2.2.2)))]) (w2 := [(s0, .inr (5, [.ref p0c, .ref p0t])), (p0c, .inr (4, [.ref c0c, .ref b0c, .ref p1c, .int v.1, .int v.2.1, .int v.2.2.1, .int v.2.2.2.1, .int v.2.2.2.2.1, .int v.2.2.2.2.2.1])), (p1c, .inl (g 0, 80, .inl (v.2.2.2.2.2.2.1))), (c0c, .inr (1, [.ref c1c])), (c1c, .inl (g 0, 480, .inl (v.2.2.2.2.2.2.2.1))), (b0c, .inr (0, [.ref b1c, .int v.2.2.2.2.2.2.2.2.1])), (b1c, .inl (g 0, 60, .inl (v.2.2.2.2.2.2.2.2.2))), (p0t, .inr (4, [.ref c0t, .ref b0t, .ref p1t, .int w.1, .int w.2.1, .int w.2.2.1, .int w.2.2.2.1, .int w.2.2.2.2.1, .int w.2.2.2.2.2.1])), (p1t, .inl (g 0, 80, .inl (w.2.2.2.2.2.2.1))), (c0t, .inr (1, [.ref c1t])), (c1t, .inl (g 0, 480, .inl (w.2.2.2.2.2.2.2.1))), (b0t, .inr (0, [.ref b1t, .int w.2.2.2.2.2.2.2.2.1])), (b1t, .inl (g 0, 60, .inl (w.2.2.2.2.2.2.2.2.2)))]) (va_runV (As := [.int (nI p_0)]) (rest := []) ⟨hx, hb, hml, hown, hts⟩ (c_X4_hasPart l D g p0c c0c b0c p1c H.size v.1 v.2.1 v.2.2.1 v.2.2.2.1 v.2.2.2.2.1 v.2.2.2.2.2.1 (nI p_0)) (cwV 1 hts gX5_succeeds_X4_hasPart rfl rfl rfl (by decide +kernel) (k_lvl (by omega) (by decide))) (kPV hP hD hK hS hA hE [1] rfl (by decide) 1 4 rfl rfl rfl) rfl rfl hl.1 rfl (lv_room (Nat.le_of_ble_eq_true rfl)) dX5_succeeds_261 ⟨Nat.le_of_ble_eq_true rfl, Nat.le_of_ble_eq_true rfl⟩) hP hD hS hA [1] [0, 2, 3, 4, 5, 6, 7, 8, 9, 10, 11, 12] [0, 12, 1, 2, 3, 4, 5, 6, 7, 8, 9, 10, 11] rfl rfl (by decide) (by decide) rfl (by decide) (fun H locs hP hD hS => ?_)
      refine lv_if_eq (tgt := 286) hx hb dX5_succeeds_264 (by decide) (fun c_28 => ?_) (fun c_28 => ?_)
      · refine lv_iconst (v := 0) hx hb dX5_succeeds_286 (by decide) ?_
        have enn_0 : (gr) % 100 = nn_0 := Eq.symm kenn_0
        have etwo_0 : (((gr) / 100)) % 10 = two_0 := Eq.symm ketwo_0
        have ep_0 : (((gr) / 1000)) % 10 = p_0 := Eq.symm kep_0
        have hE2 : (f_X5_succeeds v w gr) = (0, v, w) := by
          subst enn_0
          subst etwo_0
          subst ep_0
          exact (if_neg c_1).trans ((if_neg c_5).trans ((if_neg c_9).trans ((if_neg c_13).trans ((if_neg c_17).trans ((if_neg c_22).trans ((if_pos c_26).trans ((if_pos c_27).trans ((if_pos c_28).trans (rfl)))))))))
        subst hQ
        exact k_rz hx hb hr hlocks hP hD hS dX5_succeeds_287 (by rfl) (by rw [hE2]) (by rw [hE2])
      · refine lv_aload_n hx hb dX5_succeeds_267 rfl (lv_at hl 4 rfl) ?_
        refine va_get (D := D) (ci := 5) (v := .ref p0c) (C := RX5) (T := TX5) (N := 2) hx hb hts (fun w h => (List.mem_cons_of_mem _ (List.mem_append_left _ (List.mem_append_left _ (List.mem_append_left _ (List.mem_append_right _ h)))))) hown hK hP 0 rfl rfl 0 (by decide) (hts _ qX5_succeeds_0) (fun _ h9 => h9) rfl dX5_succeeds_268 ?_
        refine lv_iload_n hx hb dX5_succeeds_271 rfl (lv_at hl 3 rfl) ?_
        refine lv_bipush (v := 6) hx hb dX5_succeeds_272 (by decide) ?_
        refine k_ai (wr := [(s0, .inr (5, [.ref p0c, .ref p0t])), (c0c, .inr (1, [.ref c1c])), (c1c, .inl (g 0, 480, .inl (v.2.2.2.2.2.2.2.1))), (b0c, .inr (0, [.ref b1c, .int v.2.2.2.2.2.2.2.2.1])), (b1c, .inl (g 0, 60, .inl (v.2.2.2.2.2.2.2.2.2))), (p0t, .inr (4, [.ref c0t, .ref b0t, .ref p1t, .int w.1, .int w.2.1, .int w.2.2.1, .int w.2.2.2.1, .int w.2.2.2.2.1, .int w.2.2.2.2.2.1])), (p1t, .inl (g 0, 80, .inl (w.2.2.2.2.2.2.1))), (c0t, .inr (1, [.ref c1t])), (c1t, .inl (g 0, 480, .inl (w.2.2.2.2.2.2.2.1))), (b0t, .inr (0, [.ref b1t, .int w.2.2.2.2.2.2.2.2.1])), (b1t, .inl (g 0, 60, .inl (w.2.2.2.2.2.2.2.2.2)))]) (w2 := [(s0, .inr (5, [.ref p0c, .ref p0t])), (p0c, .inr (4, [.ref c0c, .ref b0c, .ref p1c, .int v.1, .int v.2.1, .int v.2.2.1, .int v.2.2.2.1, .int v.2.2.2.2.1, .int v.2.2.2.2.2.1])), (p1c, .inl (g 0, 80, .inl (v.2.2.2.2.2.2.1))), (c0c, .inr (1, [.ref c1c])), (c1c, .inl (g 0, 480, .inl (v.2.2.2.2.2.2.2.1))), (b0c, .inr (0, [.ref b1c, .int v.2.2.2.2.2.2.2.2.1])), (b1c, .inl (g 0, 60, .inl (v.2.2.2.2.2.2.2.2.2))), (p0t, .inr (4, [.ref c0t, .ref b0t, .ref p1t, .int w.1, .int w.2.1, .int w.2.2.1, .int w.2.2.2.1, .int w.2.2.2.2.1, .int w.2.2.2.2.2.1])), (p1t, .inl (g 0, 80, .inl (w.2.2.2.2.2.2.1))), (c0t, .inr (1, [.ref c1t])), (c1t, .inl (g 0, 480, .inl (w.2.2.2.2.2.2.2.1))), (b0t, .inr (0, [.ref b1t, .int w.2.2.2.2.2.2.2.2.1])), (b1t, .inl (g 0, 60, .inl (w.2.2.2.2.2.2.2.2.2)))]) (va_runV (As := [.int (nI p_0), .int 6]) (rest := []) ⟨hx, hb, hml, hown, hts⟩ (c_X4_ofPart l D g p0c c0c b0c p1c H.size v.1 v.2.1 v.2.2.1 v.2.2.2.1 v.2.2.2.2.1 v.2.2.2.2.2.1 (v.2.2.2.2.2.2.1) (nI p_0) 6 (by omega)) (cwV 2 hts gX5_succeeds_X4_ofPart rfl rfl rfl (by decide +kernel) (k_lvl (by omega) (by decide))) (kPV hP hD hK hS hA hE [1, 2] rfl (by decide) 1 4 rfl rfl rfl) rfl rfl hl.1 rfl (lv_room (Nat.le_of_ble_eq_true rfl)) dX5_succeeds_274 ⟨Nat.le_of_ble_eq_true rfl, Nat.le_of_ble_eq_true rfl⟩) hP hD hS hA [1, 2] [0, 3, 4, 5, 6, 7, 8, 9, 10, 11, 12] [0, 11, 12, 1, 2, 3, 4, 5, 6, 7, 8, 9, 10] rfl rfl (by decide) (by decide) rfl (by decide) (fun H locs hP hD hS => ?_)
        refine lv_iload hx hb dX5_succeeds_277 (lv_at hl 1 rfl) ?_
        refine lv_icmp_gt (tgt := 286) hx hb dX5_succeeds_279 (by decide) (fun c_29 => ?_) (fun c_29 => ?_)
        · refine lv_iconst (v := 0) hx hb dX5_succeeds_286 (by decide) ?_
          have enn_0 : (gr) % 100 = nn_0 := Eq.symm kenn_0
          have etwo_0 : (((gr) / 100)) % 10 = two_0 := Eq.symm ketwo_0
          have ep_0 : (((gr) / 1000)) % 10 = p_0 := Eq.symm kep_0
          have hE2 : (f_X5_succeeds v w gr) = (0, v, w) := by
            subst enn_0
            subst etwo_0
            subst ep_0
            exact (if_neg c_1).trans ((if_neg c_5).trans ((if_neg c_9).trans ((if_neg c_13).trans ((if_neg c_17).trans ((if_neg c_22).trans ((if_pos c_26).trans ((if_pos c_27).trans ((if_neg c_28).trans ((if_pos c_29).trans (rfl))))))))))
          subst hQ
          exact k_rz hx hb hr hlocks hP hD hS dX5_succeeds_287 (by rfl) (by rw [hE2]) (by rw [hE2])
        · refine lv_iconst (v := 1) hx hb dX5_succeeds_282 (by decide) ?_
          refine lv_goto (tgt := 287) hx hb dX5_succeeds_283 (by decide) ?_
          have enn_0 : (gr) % 100 = nn_0 := Eq.symm kenn_0
          have etwo_0 : (((gr) / 100)) % 10 = two_0 := Eq.symm ketwo_0
          have ep_0 : (((gr) / 1000)) % 10 = p_0 := Eq.symm kep_0
          have hE2 : (f_X5_succeeds v w gr) = (1, v, w) := by
            subst enn_0
            subst etwo_0
            subst ep_0
            exact (if_neg c_1).trans ((if_neg c_5).trans ((if_neg c_9).trans ((if_neg c_13).trans ((if_neg c_17).trans ((if_neg c_22).trans ((if_pos c_26).trans ((if_pos c_27).trans ((if_neg c_28).trans ((if_neg c_29).trans (rfl))))))))))
          subst hQ
          exact k_rz hx hb hr hlocks hP hD hS dX5_succeeds_287 (by rfl) (by rw [hE2]) (by rw [hE2])
  by_cases c_30 : ((gr) / 10000) = 8
  · refine k_tabIn (v := 8) (off := 249) (tgt := 288) hx hb dX5_succeeds_39 (congrArg nI c_30) (by decide) (by decide) rfl (by decide) ?_
    refine lv_iload_n hx hb dX5_succeeds_288 rfl (lv_at hl 3 rfl) ?_
    refine lv_if_ne (tgt := 312) hx hb dX5_succeeds_289 (by decide) (fun c_31 => ?_) (fun c_31 => ?_)
    · have c_31 : ¬ (p_0 = 0) := fun h9 => c_31 ((nI_eq (a := p_0) (b := 0) (by omega) (by omega)).mpr h9)
      refine lv_iconst (v := 0) hx hb dX5_succeeds_312 (by decide) ?_
      have enn_0 : (gr) % 100 = nn_0 := Eq.symm kenn_0
      have etwo_0 : (((gr) / 100)) % 10 = two_0 := Eq.symm ketwo_0
      have ep_0 : (((gr) / 1000)) % 10 = p_0 := Eq.symm kep_0
      have hE2 : (f_X5_succeeds v w gr) = (0, v, w) := by
        subst enn_0
        subst etwo_0
        subst ep_0
        exact (if_neg c_1).trans ((if_neg c_5).trans ((if_neg c_9).trans ((if_neg c_13).trans ((if_neg c_17).trans ((if_neg c_22).trans ((if_neg c_26).trans ((if_pos c_30).trans ((if_neg c_31).trans (rfl)))))))))
      subst hQ
      exact k_rz hx hb hr hlocks hP hD hS dX5_succeeds_313 (by rfl) (by rw [hE2]) (by rw [hE2])
    · have c_31 : p_0 = 0 := (nI_eq (a := p_0) (b := 0) (by omega) (by omega)).mp c_31
      refine lv_iload_n hx hb dX5_succeeds_292 rfl (lv_at hl 2 rfl) ?_
      refine lv_if_ne (tgt := 312) hx hb dX5_succeeds_293 (by decide) (fun c_32 => ?_) (fun c_32 => ?_)
      · have c_32 : ¬ (two_0 = 0) := fun h9 => c_32 ((nI_eq (a := two_0) (b := 0) (by omega) (by omega)).mpr h9)
        refine lv_iconst (v := 0) hx hb dX5_succeeds_312 (by decide) ?_
        have enn_0 : (gr) % 100 = nn_0 := Eq.symm kenn_0
        have etwo_0 : (((gr) / 100)) % 10 = two_0 := Eq.symm ketwo_0
        have ep_0 : (((gr) / 1000)) % 10 = p_0 := Eq.symm kep_0
        have hE2 : (f_X5_succeeds v w gr) = (0, v, w) := by
          subst enn_0
          subst etwo_0
          subst ep_0
          exact (if_neg c_1).trans ((if_neg c_5).trans ((if_neg c_9).trans ((if_neg c_13).trans ((if_neg c_17).trans ((if_neg c_22).trans ((if_neg c_26).trans ((if_pos c_30).trans ((if_pos c_31).trans ((if_neg c_32).trans (rfl))))))))))
        subst hQ
        exact k_rz hx hb hr hlocks hP hD hS dX5_succeeds_313 (by rfl) (by rw [hE2]) (by rw [hE2])
      · have c_32 : two_0 = 0 := (nI_eq (a := two_0) (b := 0) (by omega) (by omega)).mp c_32
        refine lv_aload_n hx hb dX5_succeeds_296 rfl (lv_at hl 4 rfl) ?_
        refine va_get (D := D) (ci := 5) (v := .ref p0c) (C := RX5) (T := TX5) (N := 2) hx hb hts (fun w h => (List.mem_cons_of_mem _ (List.mem_append_left _ (List.mem_append_left _ (List.mem_append_left _ (List.mem_append_right _ h)))))) hown hK hP 0 rfl rfl 0 (by decide) (hts _ qX5_succeeds_0) (fun _ h9 => h9) rfl dX5_succeeds_297 ?_
        refine va_getN (D := D) (ci := 4) (v := .int v.2.2.2.1) (C := RX4) (T := TX4) (N := 9) hx hb hts (fun w h => (List.mem_cons_of_mem _ (List.mem_append_left _ (List.mem_append_left _ (List.mem_append_right _ h))))) hown hK hP 1 rfl rfl 6 (by decide) (va_Nw.use rfl (hE.1.1 8 _ rfl)) (fun _ h9 => h9) rfl dX5_succeeds_300 ?_
        refine lv_iload hx hb dX5_succeeds_303 (lv_at hl 1 rfl) ?_
        refine lv_icmp_gt (tgt := 312) hx hb dX5_succeeds_305 (by decide) (fun c_33 => ?_) (fun c_33 => ?_)
        · refine lv_iconst (v := 0) hx hb dX5_succeeds_312 (by decide) ?_
          have enn_0 : (gr) % 100 = nn_0 := Eq.symm kenn_0
          have etwo_0 : (((gr) / 100)) % 10 = two_0 := Eq.symm ketwo_0
          have ep_0 : (((gr) / 1000)) % 10 = p_0 := Eq.symm kep_0
          have hE2 : (f_X5_succeeds v w gr) = (0, v, w) := by
            subst enn_0
            subst etwo_0
            subst ep_0
            exact (if_neg c_1).trans ((if_neg c_5).trans ((if_neg c_9).trans ((if_neg c_13).trans ((if_neg c_17).trans ((if_neg c_22).trans ((if_neg c_26).trans ((if_pos c_30).trans ((if_pos c_31).trans ((if_pos c_32).trans ((if_pos c_33).trans (rfl)))))))))))
          subst hQ
          exact k_rz hx hb hr hlocks hP hD hS dX5_succeeds_313 (by rfl) (by rw [hE2]) (by rw [hE2])
        · refine lv_iconst (v := 1) hx hb dX5_succeeds_308 (by decide) ?_
          refine lv_goto (tgt := 313) hx hb dX5_succeeds_309 (by decide) ?_
          have enn_0 : (gr) % 100 = nn_0 := Eq.symm kenn_0
          have etwo_0 : (((gr) / 100)) % 10 = two_0 := Eq.symm ketwo_0
          have ep_0 : (((gr) / 1000)) % 10 = p_0 := Eq.symm kep_0
          have hE2 : (f_X5_succeeds v w gr) = (1, v, w) := by
            subst enn_0
            subst etwo_0
            subst ep_0
            exact (if_neg c_1).trans ((if_neg c_5).trans ((if_neg c_9).trans ((if_neg c_13).trans ((if_neg c_17).trans ((if_neg c_22).trans ((if_neg c_26).trans ((if_pos c_30).trans ((if_pos c_31).trans ((if_pos c_32).trans ((if_neg c_33).trans (rfl)))))))))))
          subst hQ
          exact k_rz hx hb hr hlocks hP hD hS dX5_succeeds_313 (by rfl) (by rw [hE2]) (by rw [hE2])
  by_cases c_34 : ((gr) / 10000) = 9
  · refine k_tabIn (v := 9) (off := 275) (tgt := 314) hx hb dX5_succeeds_39 (congrArg nI c_34) (by decide) (by decide) rfl (by decide) ?_
    refine lv_aload_n hx hb dX5_succeeds_314 rfl (lv_at hl 4 rfl) ?_
    refine va_get (D := D) (ci := 5) (v := .ref p0c) (C := RX5) (T := TX5) (N := 2) hx hb hts (fun w h => (List.mem_cons_of_mem _ (List.mem_append_left _ (List.mem_append_left _ (List.mem_append_left _ (List.mem_append_right _ h)))))) hown hK hP 0 rfl rfl 0 (by decide) (hts _ qX5_succeeds_0) (fun _ h9 => h9) rfl dX5_succeeds_315 ?_
    refine lv_iload_n hx hb dX5_succeeds_318 rfl (lv_at hl 3 rfl) ?_
    refine k_ai (wr := [(s0, .inr (5, [.ref p0c, .ref p0t])), (p1c, .inl (g 0, 80, .inl (v.2.2.2.2.2.2.1))), (c0c, .inr (1, [.ref c1c])), (c1c, .inl (g 0, 480, .inl (v.2.2.2.2.2.2.2.1))), (b0c, .inr (0, [.ref b1c, .int v.2.2.2.2.2.2.2.2.1])), (b1c, .inl (g 0, 60, .inl (v.2.2.2.2.2.2.2.2.2))), (p0t, .inr (4, [.ref c0t, .ref b0t, .ref p1t, .int w.1, .int w.2.1, .int w.2.2.1, .int w.2.2.2.1, .int w.2.2.2.2.1, .int w.2.2.2.2.2.1])), (p1t, .inl (g 0, 80, .inl (w.2.2.2.2.2.2.1))), (c0t, .inr (1, [.ref c1t])), (c1t, .inl (g 0, 480, .inl (w.2.2.2.2.2.2.2.1))), (b0t, .inr (0, [.ref b1t, .int w.2.2.2.2.2.2.2.2.1])), (b1t, .inl (g 0, 60, .inl (w.2.2.2.2.2.2.2.2.2)))]) (w2 := [(s0, .inr (5, [.ref p0c, .ref p0t])), (p0c, .inr (4, [.ref c0c, .ref b0c, .ref p1c, .int v.1, .int v.2.1, .int v.2.2.1, .int v.2.2.2.1, .int v.2.2.2.2.1, .int v.2.2.2.2.2.1])), (p1c, .inl (g 0, 80, .inl (v.2.2.2.2.2.2.1))), (c0c, .inr (1, [.ref c1c])), (c1c, .inl (g 0, 480, .inl (v.2.2.2.2.2.2.2.1))), (b0c, .inr (0, [.ref b1c, .int v.2.2.2.2.2.2.2.2.1])), (b1c, .inl (g 0, 60, .inl (v.2.2.2.2.2.2.2.2.2))), (p0t, .inr (4, [.ref c0t, .ref b0t, .ref p1t, .int w.1, .int w.2.1, .int w.2.2.1, .int w.2.2.2.1, .int w.2.2.2.2.1, .int w.2.2.2.2.2.1])), (p1t, .inl (g 0, 80, .inl (w.2.2.2.2.2.2.1))), (c0t, .inr (1, [.ref c1t])), (c1t, .inl (g 0, 480, .inl (w.2.2.2.2.2.2.2.1))), (b0t, .inr (0, [.ref b1t, .int w.2.2.2.2.2.2.2.2.1])), (b1t, .inl (g 0, 60, .inl (w.2.2.2.2.2.2.2.2.2)))]) (va_runV (As := [.int (nI p_0)]) (rest := []) ⟨hx, hb, hml, hown, hts⟩ (c_X4_hasPart l D g p0c c0c b0c p1c H.size v.1 v.2.1 v.2.2.1 v.2.2.2.1 v.2.2.2.2.1 v.2.2.2.2.2.1 (nI p_0)) (cwV 1 hts gX5_succeeds_X4_hasPart rfl rfl rfl (by decide +kernel) (k_lvl (by omega) (by decide))) (kPV hP hD hK hS hA hE [1] rfl (by decide) 1 4 rfl rfl rfl) rfl rfl hl.1 rfl (lv_room (Nat.le_of_ble_eq_true rfl)) dX5_succeeds_319 ⟨Nat.le_of_ble_eq_true rfl, Nat.le_of_ble_eq_true rfl⟩) hP hD hS hA [1] [0, 2, 3, 4, 5, 6, 7, 8, 9, 10, 11, 12] [0, 12, 1, 2, 3, 4, 5, 6, 7, 8, 9, 10, 11] rfl rfl (by decide) (by decide) rfl (by decide) (fun H locs hP hD hS => ?_)
    refine lv_if_eq (tgt := 339) hx hb dX5_succeeds_322 (by decide) (fun c_35 => ?_) (fun c_35 => ?_)
    · refine lv_iconst (v := 0) hx hb dX5_succeeds_339 (by decide) ?_
      have enn_0 : (gr) % 100 = nn_0 := Eq.symm kenn_0
      have etwo_0 : (((gr) / 100)) % 10 = two_0 := Eq.symm ketwo_0
      have ep_0 : (((gr) / 1000)) % 10 = p_0 := Eq.symm kep_0
      have hE2 : (f_X5_succeeds v w gr) = (0, v, w) := by
        subst enn_0
        subst etwo_0
        subst ep_0
        exact (if_neg c_1).trans ((if_neg c_5).trans ((if_neg c_9).trans ((if_neg c_13).trans ((if_neg c_17).trans ((if_neg c_22).trans ((if_neg c_26).trans ((if_neg c_30).trans ((if_pos c_34).trans ((if_pos c_35).trans (rfl))))))))))
      subst hQ
      exact k_rz hx hb hr hlocks hP hD hS dX5_succeeds_340 (by rfl) (by rw [hE2]) (by rw [hE2])
    · refine lv_aload_n hx hb dX5_succeeds_325 rfl (lv_at hl 4 rfl) ?_
      refine lv_iload_n hx hb dX5_succeeds_326 rfl (lv_at hl 3 rfl) ?_
      have hC := c_X5_wouldGive l D g s0 p0c p0t c0c b0c p1c c1c b1c c0t b0t p1t c1t b1t H.size v w (nI p_0)
      obtain ⟨v_36, ev_36⟩ : ∃ z, z = (f_X5_wouldGive v (nI p_0)) := ⟨_, rfl⟩
      rw [← ev_36] at hC
      have kev_36 : kEq v_36 (f_X5_wouldGive v (nI p_0)) := ev_36
      clear ev_36
      refine k_ai (wr := []) (w2 := [(s0, .inr (5, [.ref p0c, .ref p0t])), (p0c, .inr (4, [.ref c0c, .ref b0c, .ref p1c, .int v.1, .int v.2.1, .int v.2.2.1, .int v.2.2.2.1, .int v.2.2.2.2.1, .int v.2.2.2.2.2.1])), (p1c, .inl (g 0, 80, .inl (v.2.2.2.2.2.2.1))), (c0c, .inr (1, [.ref c1c])), (c1c, .inl (g 0, 480, .inl (v.2.2.2.2.2.2.2.1))), (b0c, .inr (0, [.ref b1c, .int v.2.2.2.2.2.2.2.2.1])), (b1c, .inl (g 0, 60, .inl (v.2.2.2.2.2.2.2.2.2))), (p0t, .inr (4, [.ref c0t, .ref b0t, .ref p1t, .int v_36.2.1, .int v_36.2.2.1, .int v_36.2.2.2.1, .int v_36.2.2.2.2.1, .int v_36.2.2.2.2.2.1, .int v_36.2.2.2.2.2.2.1])), (p1t, .inl (g 0, 80, .inl (v_36.2.2.2.2.2.2.2.1))), (c0t, .inr (1, [.ref c1t])), (c1t, .inl (g 0, 480, .inl (v_36.2.2.2.2.2.2.2.2.1))), (b0t, .inr (0, [.ref b1t, .int v_36.2.2.2.2.2.2.2.2.2.1])), (b1t, .inl (g 0, 60, .inl (v_36.2.2.2.2.2.2.2.2.2.2)))]) (va_runV (As := [.int (nI p_0)]) (rest := []) ⟨hx, hb, hml, hown, hts⟩ hC (cwV 1 hts gX5_succeeds_X5_wouldGive rfl rfl rfl (by decide +kernel) (k_lvl (by omega) (by decide))) (kPV hP hD hK hS hA hE [0, 1, 2, 3, 4, 5, 6, 7, 8, 9, 10, 11, 12] rfl (by decide) 0 5 rfl rfl rfl) rfl rfl hl.1 rfl (lv_room (Nat.le_of_ble_eq_true rfl)) dX5_succeeds_327 ⟨Nat.le_of_ble_eq_true rfl, Nat.le_of_ble_eq_true rfl⟩) hP hD hS hA [0, 1, 2, 3, 4, 5, 6, 7, 8, 9, 10, 11, 12] [] [0, 1, 2, 3, 4, 5, 6, 7, 8, 9, 10, 11, 12] rfl rfl (by decide) (by decide) rfl (by decide) (fun H locs hP hD hS => ?_)
      refine lv_iload hx hb dX5_succeeds_330 (lv_at hl 0 rfl) ?_
      refine lv_icmp_ne (tgt := 339) hx hb dX5_succeeds_332 (by decide) (fun c_37 => ?_) (fun c_37 => ?_)
      · refine lv_iconst (v := 0) hx hb dX5_succeeds_339 (by decide) ?_
        have ev_36 : (f_X5_wouldGive v (nI p_0)) = v_36 := Eq.symm kev_36
        have enn_0 : (gr) % 100 = nn_0 := Eq.symm kenn_0
        have etwo_0 : (((gr) / 100)) % 10 = two_0 := Eq.symm ketwo_0
        have ep_0 : (((gr) / 1000)) % 10 = p_0 := Eq.symm kep_0
        have hE2 : (f_X5_succeeds v w gr) = (0, v, v_36.2) := by
          subst ev_36
          subst enn_0
          subst etwo_0
          subst ep_0
          exact (if_neg c_1).trans ((if_neg c_5).trans ((if_neg c_9).trans ((if_neg c_13).trans ((if_neg c_17).trans ((if_neg c_22).trans ((if_neg c_26).trans ((if_neg c_30).trans ((if_pos c_34).trans ((if_neg c_35).trans ((if_neg c_37).trans (rfl)))))))))))
        subst hQ
        exact k_rz hx hb hr hlocks hP hD hS dX5_succeeds_340 (by rfl) (by rw [hE2]) (by rw [hE2])
      · refine lv_iconst (v := 1) hx hb dX5_succeeds_335 (by decide) ?_
        refine lv_goto (tgt := 340) hx hb dX5_succeeds_336 (by decide) ?_
        have ev_36 : (f_X5_wouldGive v (nI p_0)) = v_36 := Eq.symm kev_36
        have enn_0 : (gr) % 100 = nn_0 := Eq.symm kenn_0
        have etwo_0 : (((gr) / 100)) % 10 = two_0 := Eq.symm ketwo_0
        have ep_0 : (((gr) / 1000)) % 10 = p_0 := Eq.symm kep_0
        have hE2 : (f_X5_succeeds v w gr) = (1, v, v_36.2) := by
          subst ev_36
          subst enn_0
          subst etwo_0
          subst ep_0
          exact (if_neg c_1).trans ((if_neg c_5).trans ((if_neg c_9).trans ((if_neg c_13).trans ((if_neg c_17).trans ((if_neg c_22).trans ((if_neg c_26).trans ((if_neg c_30).trans ((if_pos c_34).trans ((if_neg c_35).trans ((if_pos c_37).trans (rfl)))))))))))
        subst hQ
        exact k_rz hx hb hr hlocks hP hD hS dX5_succeeds_340 (by rfl) (by rw [hE2]) (by rw [hE2])
  refine k_tabDef (tgt := 341) hx hb dX5_succeeds_39 ?_ (by decide) ?_
  · intro v h1 h2 q
    rcases k_rng h1 with h3 | h1
    · subst h3; exact (c_1 ((nI_eq (by omega) (by omega)).mp (k_ti (k := nI 1) (by decide) q))).elim
    rcases k_rng h1 with h3 | h1
    · subst h3; exact (c_5 ((nI_eq (by omega) (by omega)).mp (k_ti (k := nI 2) (by decide) q))).elim
    rcases k_rng h1 with h3 | h1
    · subst h3; exact (c_9 ((nI_eq (by omega) (by omega)).mp (k_ti (k := nI 3) (by decide) q))).elim
    rcases k_rng h1 with h3 | h1
    · subst h3; exact (c_13 ((nI_eq (by omega) (by omega)).mp (k_ti (k := nI 4) (by decide) q))).elim
    rcases k_rng h1 with h3 | h1
    · subst h3; exact (c_17 ((nI_eq (by omega) (by omega)).mp (k_ti (k := nI 5) (by decide) q))).elim
    rcases k_rng h1 with h3 | h1
    · subst h3; exact (c_22 ((nI_eq (by omega) (by omega)).mp (k_ti (k := nI 6) (by decide) q))).elim
    rcases k_rng h1 with h3 | h1
    · subst h3; exact (c_26 ((nI_eq (by omega) (by omega)).mp (k_ti (k := nI 7) (by decide) q))).elim
    rcases k_rng h1 with h3 | h1
    · subst h3; exact (c_30 ((nI_eq (by omega) (by omega)).mp (k_ti (k := nI 8) (by decide) q))).elim
    rcases k_rng h1 with h3 | h1
    · subst h3; exact (c_34 ((nI_eq (by omega) (by omega)).mp (k_ti (k := nI 9) (by decide) q))).elim
    exfalso; omega
  refine lv_iconst (v := 0) hx hb dX5_succeeds_341 (by decide) ?_
  have enn_0 : (gr) % 100 = nn_0 := Eq.symm kenn_0
  have etwo_0 : (((gr) / 100)) % 10 = two_0 := Eq.symm ketwo_0
  have ep_0 : (((gr) / 1000)) % 10 = p_0 := Eq.symm kep_0
  have hE2 : (f_X5_succeeds v w gr) = (0, v, w) := by
    subst enn_0
    subst etwo_0
    subst ep_0
    exact (if_neg c_1).trans ((if_neg c_5).trans ((if_neg c_9).trans ((if_neg c_13).trans ((if_neg c_17).trans ((if_neg c_22).trans ((if_neg c_26).trans ((if_neg c_30).trans ((if_neg c_34).trans (rfl)))))))))
  subst hQ
  exact k_rz hx hb hr hlocks hP hD hS dX5_succeeds_342 (by rfl) (by rw [hE2]) (by rw [hE2])
def h_X5_succeeds := hid f_X5_succeeds
theorem h_X5_succeeds_eq : h_X5_succeeds = f_X5_succeeds := hid_eq _
theorem c_X5_succeedsH (l : Launch) (D : va_G) (g : Nat → Nat) (s0 p0c p0t c0c b0c p1c c1c b1c c0t b0t p1t c1t b1t : Nat) (sz : Nat) (v : KPV) (w : KPV) (gr : Nat) (hgr : gr ≤ 99999) : kMi l D g yX5_succeeds wsX5_succeeds 33 0 0 [.ref s0, .int (nI gr)] [(s0, .inr (5, [.ref p0c, .ref p0t])), (p0c, .inr (4, [.ref c0c, .ref b0c, .ref p1c, .int v.1, .int v.2.1, .int v.2.2.1, .int v.2.2.2.1, .int v.2.2.2.2.1, .int v.2.2.2.2.2.1])), (p1c, .inl (g 0, 80, .inl (v.2.2.2.2.2.2.1))), (c0c, .inr (1, [.ref c1c])), (c1c, .inl (g 0, 480, .inl (v.2.2.2.2.2.2.2.1))), (b0c, .inr (0, [.ref b1c, .int v.2.2.2.2.2.2.2.2.1])), (b1c, .inl (g 0, 60, .inl (v.2.2.2.2.2.2.2.2.2))), (p0t, .inr (4, [.ref c0t, .ref b0t, .ref p1t, .int w.1, .int w.2.1, .int w.2.2.1, .int w.2.2.2.1, .int w.2.2.2.2.1, .int w.2.2.2.2.2.1])), (p1t, .inl (g 0, 80, .inl (w.2.2.2.2.2.2.1))), (c0t, .inr (1, [.ref c1t])), (c1t, .inl (g 0, 480, .inl (w.2.2.2.2.2.2.2.1))), (b0t, .inr (0, [.ref b1t, .int w.2.2.2.2.2.2.2.2.1])), (b1t, .inl (g 0, 60, .inl (w.2.2.2.2.2.2.2.2.2)))] sz ((h_X5_succeeds v w gr).1) [(s0, .inr (5, [.ref p0c, .ref p0t])), (p0c, .inr (4, [.ref c0c, .ref b0c, .ref p1c, .int ((h_X5_succeeds v w gr).2.1.1), .int ((h_X5_succeeds v w gr).2.1.2.1), .int ((h_X5_succeeds v w gr).2.1.2.2.1), .int ((h_X5_succeeds v w gr).2.1.2.2.2.1), .int ((h_X5_succeeds v w gr).2.1.2.2.2.2.1), .int ((h_X5_succeeds v w gr).2.1.2.2.2.2.2.1)])), (p1c, .inl (g 0, 80, .inl ((h_X5_succeeds v w gr).2.1.2.2.2.2.2.2.1))), (c0c, .inr (1, [.ref c1c])), (c1c, .inl (g 0, 480, .inl ((h_X5_succeeds v w gr).2.1.2.2.2.2.2.2.2.1))), (b0c, .inr (0, [.ref b1c, .int ((h_X5_succeeds v w gr).2.1.2.2.2.2.2.2.2.2.1)])), (b1c, .inl (g 0, 60, .inl ((h_X5_succeeds v w gr).2.1.2.2.2.2.2.2.2.2.2))), (p0t, .inr (4, [.ref c0t, .ref b0t, .ref p1t, .int ((h_X5_succeeds v w gr).2.2.1), .int ((h_X5_succeeds v w gr).2.2.2.1), .int ((h_X5_succeeds v w gr).2.2.2.2.1), .int ((h_X5_succeeds v w gr).2.2.2.2.2.1), .int ((h_X5_succeeds v w gr).2.2.2.2.2.2.1), .int ((h_X5_succeeds v w gr).2.2.2.2.2.2.2.1)])), (p1t, .inl (g 0, 80, .inl ((h_X5_succeeds v w gr).2.2.2.2.2.2.2.2.1))), (c0t, .inr (1, [.ref c1t])), (c1t, .inl (g 0, 480, .inl ((h_X5_succeeds v w gr).2.2.2.2.2.2.2.2.2.1))), (b0t, .inr (0, [.ref b1t, .int ((h_X5_succeeds v w gr).2.2.2.2.2.2.2.2.2.2.1)])), (b1t, .inl (g 0, 60, .inl ((h_X5_succeeds v w gr).2.2.2.2.2.2.2.2.2.2.2)))] := by
  rw [h_X5_succeeds_eq]
  exact c_X5_succeeds l D g s0 p0c p0t c0c b0c p1c c1c b1c c0t b0t p1t c1t b1t sz v w gr hgr
end
