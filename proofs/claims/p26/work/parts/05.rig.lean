/-! LadderClimb$Rig: what its methods answer, over the numbers R of a rig (0 to 7 its fields, 8 to 10 weights, 11 to 13 steps) -/
theorem zvin {i : Int32} {n : Nat} (h : decide (¬ (i < 0 ∨ n ≤ i.toNatClampNeg)) = true) : vp_in i n := by
  unfold vp_in
  exact of_decide_eq_true h
def fMax (x y : Int32) : Int32 := if x < y then y else x
def fMin (x y : Int32) : Int32 := if y < x then y else x
def fAbs (x : Int32) : Int32 := if 0 ≤ x then x else 0 - x
def fFD (x y : Int32) : Int32 := if 0 ≤ x ^^^ y then x / y else if (x / y) * y = x then x / y else x / y - 1
def fFull (R : Nat → Int32) : Int32 := if R 7 < 3 then 0 else 1
def fBears (R : Nat → Int32) (q : Int32) : Int32 := if q < 0 then 0 else if R 7 ≤ q then 0 else if 3 ≤ q then 0 else 1
def fLoad (R : Nat → Int32) : Int32 := R 2 + R 8 + R 9 + R 10
def fMoment (R : Nat → Int32) : Int32 := R 0 * (5 * R 2 + R 11 * R 8 + R 12 * R 9 + R 13 * R 10)
def fPush (R : Nat → Int32) (f : Int32) : Int32 := fMoment R - 10 * f * R 0
def fGP (R : Nat → Int32) : Int32 := if R 3 < 0 then 0 else if 4 ≤ R 3 then 0 else ([5, 25, 40, 60] : List Int32).getD (R 3).toNatClampNeg 0
def fWP (R : Nat → Int32) : Int32 := if R 4 < 0 then 0 else if 4 ≤ R 4 then 0 else ([0, 20, 45, 60] : List Int32).getD (R 4).toNatClampNeg 0
def fLBW (R : Nat → Int32) : Int32 := if R 4 = 3 then 0 else if 1000 * R 1 - 10 * R 0 * fWP R ≤ 0 then -1000 else -fFD (fWP R * fMoment R) (1000 * R 1 - 10 * R 0 * fWP R)
def fSlope (R : Nat → Int32) : Int32 := 10 * R 1 * fGP R - 1000 * R 0
def fRoom (R : Nat → Int32) : Int32 := 10 * R 1 * (fGP R * fLoad R + 100 * R 5) - 100 * fMoment R
def fLBG (R : Nat → Int32) : Int32 := if 0 ≤ fSlope R then -1000 else -fFD (fRoom R) (-fSlope R)
def fLeast (R : Nat → Int32) : Int32 := fMax (-1000) (fMax (fLBW R) (fLBG R))
def fGreat (R : Nat → Int32) : Int32 := if 1000 * R 1 + 10 * R 0 * fWP R ≤ 0 then 0 else fFD (fWP R * fMoment R) (1000 * R 1 + 10 * R 0 * fWP R)
def fStands (R : Nat → Int32) : Int32 := if fGreat R < fLeast R then 0 else 1
def fForces (R : Nat → Int32) : Int32 := fMax 0 (fGreat R - fLeast R + 1)
def fNearest (R : Nat → Int32) : Int32 := fMax (fLeast R) (fMin 0 (fGreat R))
def fWallBad (R : Nat → Int32) (f : Int32) : Bool := decide (fWP R * fPush R f < 1000 * R 1 * fAbs f) || (decide (R 4 = 3) && decide (f < 0))
def fWGW1 (R : Nat → Int32) (f : Int32) : Int32 := if 0 ≤ fPush R f then 0 else 1
def fWGW2 (R : Nat → Int32) (f : Int32) : Int32 := if fWallBad R f = true then fWGW1 R f ||| 2 else fWGW1 R f
def fWGW3 (R : Nat → Int32) (f : Int32) : Int32 := if f ≤ fLoad R then fWGW2 R f else fWGW2 R f ||| 4
def fWGW (R : Nat → Int32) (f : Int32) : Int32 := if 100 * fPush R f ≤ 10 * R 1 * (fGP R * (fLoad R - f) + 100 * R 5) then fWGW3 R f else fWGW3 R f ||| 8
theorem zpos0 {x : Int32} (h : ¬ x ≤ 0) : ¬ x = 0 := fun z => h (by rw [z]; decide)
theorem zneg0 {x : Int32} (h : ¬ 0 ≤ x) : ¬ -x = 0 := fun z => h (by
  have h2 : x = 0 := by rw [← Int32.neg_neg (a := x), z]; rfl
  rw [h2]; decide)
theorem zvinN {x : Int32} {n : Nat} {N : Int32} (hN : N.toInt = n) (h0 : ¬ x < 0) (h1 : ¬ N ≤ x) : vp_in x n := by
  have e0 : ¬ x.toInt < (0 : Int32).toInt := fun z => h0 (Int32.lt_iff_toInt_lt.mpr z)
  have e1 : ¬ N.toInt ≤ x.toInt := fun z => h1 (Int32.le_iff_toInt_le.mpr z)
  have e2 : (0 : Int32).toInt = 0 := by decide
  exact vp_in_iff.mpr ⟨by omega, by omega⟩
theorem zvin4 {x : Int32} (h0 : ¬ x < 0) (h1 : ¬ 4 ≤ x) : vp_in x 4 := zvinN (by decide) h0 h1
theorem zvin3 {x : Int32} (h0 : ¬ x < 0) (h1 : ¬ 3 ≤ x) : vp_in x 3 := zvinN (by decide) h0 h1
theorem fWallBad_1 {R : Nat → Int32} {f : Int32} (h : fWP R * fPush R f < 1000 * R 1 * fAbs f) : fWallBad R f = true := by unfold fWallBad; rw [decide_eq_true h]; rfl
theorem fWallBad_2 {R : Nat → Int32} {f : Int32} (h1 : R 4 = 3) (h2 : ¬ 0 ≤ f) : fWallBad R f = true := by unfold fWallBad; rw [decide_eq_true h1, decide_eq_true (Int32.not_le.mp h2)]; simp
theorem fWallBad_3 {R : Nat → Int32} {f : Int32} (h : ¬ fWP R * fPush R f < 1000 * R 1 * fAbs f) (h1 : ¬ R 4 = 3) : ¬ fWallBad R f = true := by unfold fWallBad; rw [decide_eq_false h, decide_eq_false h1]; simp
theorem fWallBad_4 {R : Nat → Int32} {f : Int32} (h : ¬ fWP R * fPush R f < 1000 * R 1 * fAbs f) (h2 : 0 ≤ f) : ¬ fWallBad R f = true := by unfold fWallBad; rw [decide_eq_false h, decide_eq_false (Int32.not_lt.mpr h2)]; simp
theorem fBears_in {R : Nat → Int32} {q : Int32} (h : ¬ fBears R q = 0) : vp_in q 3 := by
  unfold fBears at h
  by_cases h0 : q < 0
  · simp [h0] at h
  · by_cases h1 : R 7 ≤ q
    · simp [h0, h1] at h
    · by_cases h2 : 3 ≤ q
      · simp [h0, h1, h2] at h
      · have e0 : ¬ q.toInt < (0 : Int32).toInt := fun z => h0 (Int32.lt_iff_toInt_lt.mpr z)
        have e2 : ¬ (3 : Int32).toInt ≤ q.toInt := fun z => h2 (Int32.le_iff_toInt_le.mpr z)
        refine vp_in_iff.mpr ⟨?_, ?_⟩
        · have : (0 : Int32).toInt = 0 := by decide
          omega
        · have : (3 : Int32).toInt = 3 := by decide
          omega
def sWeightOf (mem : zM) (j : Nat) (q : Int32) : Int32 := if fBears (rv mem j) q = 0 then 0 else mem (3 * j + 1) q.toNatClampNeg
def sStepOf (mem : zM) (j : Nat) (q : Int32) : Int32 := if fBears (rv mem j) q = 0 then 0 else mem (3 * j + 2) q.toNatClampNeg
def sSetStep (mem : zM) (j : Nat) (q v : Int32) : zM := if fBears (rv mem j) q = 0 then mem else mset mem (3 * j + 2) q.toNatClampNeg v
def sAdd (mem : zM) (j : Nat) (w : Int32) : zM := if mem (3 * j) 7 < 0 then mem else if 3 ≤ mem (3 * j) 7 then mem else mset (mset (mset mem (3 * j + 1) (mem (3 * j) 7).toNatClampNeg w) (3 * j + 2) (mem (3 * j) 7).toNatClampNeg 0) (3 * j) 7 (mem (3 * j) 7 + 1)
set_option maxHeartbeats 1000000 in
set_option maxRecDepth 100000 in
theorem k_floorDiv (l : Launch) (D : va_G) (tys : List (ClassId × FieldType)) (ws : va_W) (x y : Int32) (hne : ¬ y = 0) : zMi l yJ9_floorDiv_7cf53 wsJ9_floorDiv_7cf53 ({ frames := 0, cells := 0, slots := 0, locals := 0 }) D tys [.int x, .int y] ws (fun r (_ : Unit) => r = fFD x y) (fun _ => ws) 0 0 := by
  refine zMiF.of (cc := cJ9_floorDiv_7cf53) (maxL := 3) (ret := (some .int)) (by decide +kernel) rfl (lv0 := [(0, .int x), (1, .int y)]) (Nat.le_of_ble_eq_true rfl) rfl ?_
  intro p e s m args below meth c E hZ hr hlocks hnm
  refine z_iload_n E dJ9_floorDiv_7cf53_0 rfl 0 rfl ?_
  refine z_iload_n E dJ9_floorDiv_7cf53_1 rfl 1 rfl ?_
  refine z_idiv E dJ9_floorDiv_7cf53_2 hne ?_
  refine z_istore_n (lv' := [(2, .int (x / y)), (0, .int x), (1, .int y)]) E dJ9_floorDiv_7cf53_3 rfl (by decide) rfl ?_
  refine z_iload_n E dJ9_floorDiv_7cf53_4 rfl 1 rfl ?_
  refine z_iload_n E dJ9_floorDiv_7cf53_5 rfl 2 rfl ?_
  refine z_ixor E dJ9_floorDiv_7cf53_6 ?_
  refine z_if_ge (tgt := 21) E dJ9_floorDiv_7cf53_7 (by decide) (fun c7 => ?_) (fun c7 => ?_)
  · skip
    refine z_iload_n E dJ9_floorDiv_7cf53_21 rfl 0 rfl ?_
    exact z_iretM E hr hlocks (()) rfl (by simp [fFD, c7]) (Nat.le_of_ble_eq_true rfl) (Nat.le_of_ble_eq_true rfl) dJ9_floorDiv_7cf53_22
  · skip
    refine z_iload_n E dJ9_floorDiv_7cf53_10 rfl 0 rfl ?_
    refine z_iload_n E dJ9_floorDiv_7cf53_11 rfl 2 rfl ?_
    refine z_imul E dJ9_floorDiv_7cf53_12 ?_
    refine z_iload_n E dJ9_floorDiv_7cf53_13 rfl 1 rfl ?_
    refine z_icmp_eq (tgt := 21) E dJ9_floorDiv_7cf53_14 (by decide) (fun c14 => ?_) (fun c14 => ?_)
    · skip
      refine z_iload_n E dJ9_floorDiv_7cf53_21 rfl 0 rfl ?_
      exact z_iretM E hr hlocks (()) rfl (by simp [fFD, c7, c14]) (Nat.le_of_ble_eq_true rfl) (Nat.le_of_ble_eq_true rfl) dJ9_floorDiv_7cf53_22
    · skip
      refine z_iload_n E dJ9_floorDiv_7cf53_17 rfl 0 rfl ?_
      refine z_iconst (v := 1) E dJ9_floorDiv_7cf53_18 (by decide) ?_
      refine z_isub E dJ9_floorDiv_7cf53_19 ?_
      exact z_iretM E hr hlocks (()) rfl (by simp [fFD, c7, c14]) (Nat.le_of_ble_eq_true rfl) (Nat.le_of_ble_eq_true rfl) dJ9_floorDiv_7cf53_20
set_option maxHeartbeats 1000000 in
set_option maxRecDepth 100000 in
theorem k_isFull (l : Launch) (D : va_G) (ad : Nat → Nat) (cI cR cS cL : ClassId) (mem : zM) {j : Nat} (hj : j < 29) : zMi l yX2_isFull wsX2_isFull ({ frames := 0, cells := 0, slots := 0, locals := 0 }) D (cK cI cR cS cL) [.ref (ad (3 * j))] (cw ad cI cR cS mem) (fun r u => r = fFull (rv mem j) ∧ u = mem) (cw ad cI cR cS) 0 0 := by
  refine zMiM.of (cc := cX2_isFull) (maxL := 1) (ret := (some .boolean)) (by decide +kernel) rfl (lv0 := [(0, .ref (ad (3 * j)))]) (Nat.le_of_ble_eq_true rfl) rfl ?_
  intro p e s m args below meth c E hZ hr hlocks hnm
  refine z_aload_n E dX2_isFull_0 rfl 0 rfl ?_
  refine z_get E (3 * j) (cw_rig hj) (C := RX2) (T := TX2) (N := 10) rfl (fun _ h => List.mem_cons_of_mem _ (List.mem_append_right _ h)) 7 (by decide) (List.mem_of_getElem? (i := 1) (by decide +kernel)) rfl (v := .int (mem (3 * j) 7)) rfl dX2_isFull_1 ?_
  refine z_iconst (v := 3) E dX2_isFull_4 (by decide) ?_
  refine z_icmp_lt (tgt := 12) E dX2_isFull_5 (by decide) (fun c5 => ?_) (fun c5 => ?_)
  · skip
    refine z_iconst (v := 0) E dX2_isFull_12 (by decide) ?_
    exact z_izretM E hr hlocks (mem) rfl rfl ⟨by simp [fFull, rv, c5], rfl⟩ (Nat.le_of_ble_eq_true rfl) (Nat.le_of_ble_eq_true rfl) dX2_isFull_13
  · skip
    refine z_iconst (v := 1) E dX2_isFull_8 (by decide) ?_
    refine z_goto (tgt := 13) E dX2_isFull_9 (by decide) ?_
    exact z_izretM E hr hlocks (mem) rfl rfl ⟨by simp [fFull, rv, c5], rfl⟩ (Nat.le_of_ble_eq_true rfl) (Nat.le_of_ble_eq_true rfl) dX2_isFull_13
set_option maxHeartbeats 1000000 in
set_option maxRecDepth 100000 in
theorem k_bears (l : Launch) (D : va_G) (ad : Nat → Nat) (cI cR cS cL : ClassId) (mem : zM) {j : Nat} (hj : j < 29) (q : Int32) : zMi l yX2_bears wsX2_bears ({ frames := 0, cells := 0, slots := 0, locals := 0 }) D (cK cI cR cS cL) [.ref (ad (3 * j)), .int q] (cw ad cI cR cS mem) (fun r u => r = fBears (rv mem j) q ∧ u = mem) (cw ad cI cR cS) 0 0 := by
  refine zMiM.of (cc := cX2_bears) (maxL := 2) (ret := (some .boolean)) (by decide +kernel) rfl (lv0 := [(0, .ref (ad (3 * j))), (1, .int q)]) (Nat.le_of_ble_eq_true rfl) rfl ?_
  intro p e s m args below meth c E hZ hr hlocks hnm
  refine z_iload_n E dX2_bears_0 rfl 1 rfl ?_
  refine z_if_lt (tgt := 21) E dX2_bears_1 (by decide) (fun c1 => ?_) (fun c1 => ?_)
  · skip
    refine z_iconst (v := 0) E dX2_bears_21 (by decide) ?_
    exact z_izretM E hr hlocks (mem) rfl rfl ⟨by simp [fBears, rv, c1], rfl⟩ (Nat.le_of_ble_eq_true rfl) (Nat.le_of_ble_eq_true rfl) dX2_bears_22
  · skip
    refine z_iload_n E dX2_bears_4 rfl 1 rfl ?_
    refine z_aload_n E dX2_bears_5 rfl 0 rfl ?_
    refine z_get E (3 * j) (cw_rig hj) (C := RX2) (T := TX2) (N := 10) rfl (fun _ h => List.mem_cons_of_mem _ (List.mem_append_right _ h)) 7 (by decide) (List.mem_of_getElem? (i := 1) (by decide +kernel)) rfl (v := .int (mem (3 * j) 7)) rfl dX2_bears_6 ?_
    refine z_icmp_ge (tgt := 21) E dX2_bears_9 (by decide) (fun c9 => ?_) (fun c9 => ?_)
    · skip
      refine z_iconst (v := 0) E dX2_bears_21 (by decide) ?_
      exact z_izretM E hr hlocks (mem) rfl rfl ⟨by simp [fBears, rv, c1, c9], rfl⟩ (Nat.le_of_ble_eq_true rfl) (Nat.le_of_ble_eq_true rfl) dX2_bears_22
    · skip
      refine z_iload_n E dX2_bears_12 rfl 1 rfl ?_
      refine z_iconst (v := 3) E dX2_bears_13 (by decide) ?_
      refine z_icmp_ge (tgt := 21) E dX2_bears_14 (by decide) (fun c14 => ?_) (fun c14 => ?_)
      · skip
        refine z_iconst (v := 0) E dX2_bears_21 (by decide) ?_
        exact z_izretM E hr hlocks (mem) rfl rfl ⟨by simp [fBears, rv, c1, c9, c14], rfl⟩ (Nat.le_of_ble_eq_true rfl) (Nat.le_of_ble_eq_true rfl) dX2_bears_22
      · skip
        refine z_iconst (v := 1) E dX2_bears_17 (by decide) ?_
        refine z_goto (tgt := 22) E dX2_bears_18 (by decide) ?_
        exact z_izretM E hr hlocks (mem) rfl rfl ⟨by simp [fBears, rv, c1, c9, c14], rfl⟩ (Nat.le_of_ble_eq_true rfl) (Nat.le_of_ble_eq_true rfl) dX2_bears_22
set_option maxHeartbeats 1000000 in
set_option maxRecDepth 100000 in
theorem k_weightOf (l : Launch) (D : va_G) (ad : Nat → Nat) (cI cR cS cL : ClassId) (mem : zM) {j : Nat} (hj : j < 29) (q : Int32) : zMi l yX2_weightOf wsX2_weightOf ({ frames := 1, cells := 0, slots := 0, locals := 21 }) D (cK cI cR cS cL) [.ref (ad (3 * j)), .int q] (cw ad cI cR cS mem) (fun r u => r = sWeightOf mem j q ∧ u = mem) (cw ad cI cR cS) 0 0 := by
  refine zMiM.of (cc := cX2_weightOf) (maxL := 2) (ret := (some .int)) (by decide +kernel) rfl (lv0 := [(0, .ref (ad (3 * j))), (1, .int q)]) (Nat.le_of_ble_eq_true rfl) rfl ?_
  intro p e s m args below meth c E hZ hr hlocks hnm
  refine z_aload_n E dX2_weightOf_0 rfl 0 rfl ?_
  refine z_iload_n E dX2_weightOf_1 rfl 1 rfl ?_
  refine z_callVi E hZ (k_bears l D ad cI cR cS cL mem hj q) gX2_weightOf_X2_bears (n := 1) rfl rfl rfl (by decide +kernel) rfl ⟨Nat.le_of_ble_eq_true rfl, Nat.le_of_ble_eq_true rfl⟩  (C := RX2) rfl (3 * j) (cw_rig hj) (As := [.int q]) (rest := []) rfl (Nat.le_of_ble_eq_true rfl) ⟨Nat.le_of_ble_eq_true rfl, Nat.le_of_ble_eq_true rfl⟩ dX2_weightOf_2 (fun r u hp => ?_)
  rw [hp.1, hp.2]
  refine z_if_eq (tgt := 17) E dX2_weightOf_5 (by decide) (fun c5 => ?_) (fun c5 => ?_)
  · skip
    refine z_iconst (v := 0) E dX2_weightOf_17 (by decide) ?_
    exact z_iretM E hr hlocks (mem) rfl ⟨by simp [sWeightOf, c5], rfl⟩ (Nat.le_of_ble_eq_true rfl) (Nat.le_of_ble_eq_true rfl) dX2_weightOf_18
  · skip
    refine z_aload_n E dX2_weightOf_8 rfl 0 rfl ?_
    refine z_get E (3 * j) (cw_rig hj) (C := RX2) (T := TX2) (N := 10) rfl (fun _ h => List.mem_cons_of_mem _ (List.mem_append_right _ h)) 8 (by decide) (List.mem_of_getElem? (i := 1) (by decide +kernel)) rfl (v := .ref (ad (3 * j + 1))) rfl dX2_weightOf_9 ?_
    refine z_iload_n E dX2_weightOf_12 rfl 1 rfl ?_
    refine z_iald E (3 * j + 1) 0 (cw_wt hj) rfl (fBears_in c5) (v := mem (3 * j + 1) q.toNatClampNeg) rfl dX2_weightOf_13 ?_
    refine z_goto (tgt := 18) E dX2_weightOf_14 (by decide) ?_
    exact z_iretM E hr hlocks (mem) rfl ⟨by simp [sWeightOf, c5], rfl⟩ (Nat.le_of_ble_eq_true rfl) (Nat.le_of_ble_eq_true rfl) dX2_weightOf_18
set_option maxHeartbeats 1000000 in
set_option maxRecDepth 100000 in
theorem k_stepOf (l : Launch) (D : va_G) (ad : Nat → Nat) (cI cR cS cL : ClassId) (mem : zM) {j : Nat} (hj : j < 29) (q : Int32) : zMi l yX2_stepOf wsX2_stepOf ({ frames := 1, cells := 0, slots := 0, locals := 21 }) D (cK cI cR cS cL) [.ref (ad (3 * j)), .int q] (cw ad cI cR cS mem) (fun r u => r = sStepOf mem j q ∧ u = mem) (cw ad cI cR cS) 0 0 := by
  refine zMiM.of (cc := cX2_stepOf) (maxL := 2) (ret := (some .int)) (by decide +kernel) rfl (lv0 := [(0, .ref (ad (3 * j))), (1, .int q)]) (Nat.le_of_ble_eq_true rfl) rfl ?_
  intro p e s m args below meth c E hZ hr hlocks hnm
  refine z_aload_n E dX2_stepOf_0 rfl 0 rfl ?_
  refine z_iload_n E dX2_stepOf_1 rfl 1 rfl ?_
  refine z_callVi E hZ (k_bears l D ad cI cR cS cL mem hj q) gX2_stepOf_X2_bears (n := 1) rfl rfl rfl (by decide +kernel) rfl ⟨Nat.le_of_ble_eq_true rfl, Nat.le_of_ble_eq_true rfl⟩  (C := RX2) rfl (3 * j) (cw_rig hj) (As := [.int q]) (rest := []) rfl (Nat.le_of_ble_eq_true rfl) ⟨Nat.le_of_ble_eq_true rfl, Nat.le_of_ble_eq_true rfl⟩ dX2_stepOf_2 (fun r u hp => ?_)
  rw [hp.1, hp.2]
  refine z_if_eq (tgt := 17) E dX2_stepOf_5 (by decide) (fun c5 => ?_) (fun c5 => ?_)
  · skip
    refine z_iconst (v := 0) E dX2_stepOf_17 (by decide) ?_
    exact z_iretM E hr hlocks (mem) rfl ⟨by simp [sStepOf, c5], rfl⟩ (Nat.le_of_ble_eq_true rfl) (Nat.le_of_ble_eq_true rfl) dX2_stepOf_18
  · skip
    refine z_aload_n E dX2_stepOf_8 rfl 0 rfl ?_
    refine z_get E (3 * j) (cw_rig hj) (C := RX2) (T := TX2) (N := 10) rfl (fun _ h => List.mem_cons_of_mem _ (List.mem_append_right _ h)) 9 (by decide) (List.mem_of_getElem? (i := 1) (by decide +kernel)) rfl (v := .ref (ad (3 * j + 2))) rfl dX2_stepOf_9 ?_
    refine z_iload_n E dX2_stepOf_12 rfl 1 rfl ?_
    refine z_iald E (3 * j + 2) 0 (cw_st hj) rfl (fBears_in c5) (v := mem (3 * j + 2) q.toNatClampNeg) rfl dX2_stepOf_13 ?_
    refine z_goto (tgt := 18) E dX2_stepOf_14 (by decide) ?_
    exact z_iretM E hr hlocks (mem) rfl ⟨by simp [sStepOf, c5], rfl⟩ (Nat.le_of_ble_eq_true rfl) (Nat.le_of_ble_eq_true rfl) dX2_stepOf_18
set_option maxHeartbeats 1000000 in
set_option maxRecDepth 100000 in
theorem k_setStep (l : Launch) (D : va_G) (ad : Nat → Nat) (cI cR cS cL : ClassId) (mem : zM) {j : Nat} (hj : j < 29) (q v : Int32) : zMv l yX2_setStep wsX2_setStep ({ frames := 1, cells := 0, slots := 0, locals := 21 }) D (cK cI cR cS cL) [.ref (ad (3 * j)), .int q, .int v] (cw ad cI cR cS mem) (fun u => u = sSetStep mem j q v) (cw ad cI cR cS) 0 0 := by
  refine zMvM.of (cc := cX2_setStep) (maxL := 3) (ret := none) (by decide +kernel) rfl (lv0 := [(0, .ref (ad (3 * j))), (1, .int q), (2, .int v)]) (Nat.le_of_ble_eq_true rfl) rfl ?_
  intro p e s m args below meth c E hZ hr hlocks hnm
  refine z_aload_n E dX2_setStep_0 rfl 0 rfl ?_
  refine z_iload_n E dX2_setStep_1 rfl 1 rfl ?_
  refine z_callVi E hZ (k_bears l D ad cI cR cS cL mem hj q) gX2_setStep_X2_bears (n := 1) rfl rfl rfl (by decide +kernel) rfl ⟨Nat.le_of_ble_eq_true rfl, Nat.le_of_ble_eq_true rfl⟩  (C := RX2) rfl (3 * j) (cw_rig hj) (As := [.int q]) (rest := []) rfl (Nat.le_of_ble_eq_true rfl) ⟨Nat.le_of_ble_eq_true rfl, Nat.le_of_ble_eq_true rfl⟩ dX2_setStep_2 (fun r u hp => ?_)
  rw [hp.1, hp.2]
  refine z_if_eq (tgt := 15) E dX2_setStep_5 (by decide) (fun c5 => ?_) (fun c5 => ?_)
  · skip
    exact z_vretM E hr hlocks (mem) rfl (by simp [sSetStep, c5]) (Nat.le_of_ble_eq_true rfl) (Nat.le_of_ble_eq_true rfl) dX2_setStep_15
  · skip
    refine z_aload_n E dX2_setStep_8 rfl 0 rfl ?_
    refine z_get E (3 * j) (cw_rig hj) (C := RX2) (T := TX2) (N := 10) rfl (fun _ h => List.mem_cons_of_mem _ (List.mem_append_right _ h)) 9 (by decide) (List.mem_of_getElem? (i := 1) (by decide +kernel)) rfl (v := .ref (ad (3 * j + 2))) rfl dX2_setStep_9 ?_
    refine z_iload_n E dX2_setStep_12 rfl 1 rfl ?_
    refine z_iload_n E dX2_setStep_13 rfl 2 rfl ?_
    refine z_iast E (3 * j + 2) 0 (cw_st hj) rfl (fBears_in c5) (ws' := cw ad cI cR cS (mset mem (3 * j + 2) q.toNatClampNeg v)) (cs_st hj q.toNatClampNeg v) dX2_setStep_14 ?_
    refine z_gm (fun m1 hm1 => ?_)
    exact z_vretM E hr hlocks (m1) rfl (by simp [sSetStep, c5, hm1]) (Nat.le_of_ble_eq_true rfl) (Nat.le_of_ble_eq_true rfl) dX2_setStep_15
set_option maxHeartbeats 1000000 in
set_option maxRecDepth 100000 in
theorem k_load (l : Launch) (D : va_G) (ad : Nat → Nat) (cI cR cS cL : ClassId) (mem : zM) {j : Nat} (hj : j < 29) : zMi l yX2_load wsX2_load ({ frames := 0, cells := 0, slots := 0, locals := 0 }) D (cK cI cR cS cL) [.ref (ad (3 * j))] (cw ad cI cR cS mem) (fun r u => r = fLoad (rv mem j) ∧ u = mem) (cw ad cI cR cS) 0 0 := by
  refine zMiM.of (cc := cX2_load) (maxL := 3) (ret := (some .int)) (by decide +kernel) rfl (lv0 := [(0, .ref (ad (3 * j)))]) (Nat.le_of_ble_eq_true rfl) rfl ?_
  intro p e s m args below meth c E hZ hr hlocks hnm
  refine z_aload_n E dX2_load_0 rfl 0 rfl ?_
  refine z_get E (3 * j) (cw_rig hj) (C := RX2) (T := TX2) (N := 10) rfl (fun _ h => List.mem_cons_of_mem _ (List.mem_append_right _ h)) 2 (by decide) (List.mem_of_getElem? (i := 1) (by decide +kernel)) rfl (v := .int (mem (3 * j) 2)) rfl dX2_load_1 ?_
  refine z_istore_n (lv' := [(1, .int (mem (3 * j) 2)), (0, .ref (ad (3 * j)))]) E dX2_load_4 rfl (by decide) rfl ?_
  refine z_iconst (v := 0) E dX2_load_5 (by decide) ?_
  refine z_istore_n (lv' := [(2, .int 0), (1, .int (mem (3 * j) 2)), (0, .ref (ad (3 * j)))]) E dX2_load_6 rfl (by decide) rfl ?_
  refine z_iload_n E dX2_load_7 rfl 0 rfl ?_
  refine z_iconst (v := 3) E dX2_load_8 (by decide) ?_
  refine z_icmp_ge_f (tgt := 27) E dX2_load_9 (by decide) (by decide) ?_
  refine z_iload_n E dX2_load_12 rfl 1 rfl ?_
  refine z_aload_n E dX2_load_13 rfl 2 rfl ?_
  refine z_get E (3 * j) (cw_rig hj) (C := RX2) (T := TX2) (N := 10) rfl (fun _ h => List.mem_cons_of_mem _ (List.mem_append_right _ h)) 8 (by decide) (List.mem_of_getElem? (i := 2) (by decide +kernel)) rfl (v := .ref (ad (3 * j + 1))) rfl dX2_load_14 ?_
  refine z_iload_n E dX2_load_17 rfl 0 rfl ?_
  refine z_iald E (3 * j + 1) 0 (cw_wt hj) rfl (zvin rfl) (v := mem (3 * j + 1) 0) rfl dX2_load_18 ?_
  refine z_iadd E dX2_load_19 ?_
  refine z_istore_n (lv' := [(1, .int ((mem (3 * j) 2) + (mem (3 * j + 1) 0))), (2, .int 0), (0, .ref (ad (3 * j)))]) E dX2_load_20 rfl (by decide) rfl ?_
  refine z_iinc (v := 1) (lv' := [(2, .int 1), (1, .int ((mem (3 * j) 2) + (mem (3 * j + 1) 0))), (0, .ref (ad (3 * j)))]) E dX2_load_21 (q := 1) rfl (by decide) (by decide) rfl ?_
  refine z_goto (tgt := 7) E dX2_load_24 (by decide) ?_
  refine z_iload_n E dX2_load_7 rfl 0 rfl ?_
  refine z_iconst (v := 3) E dX2_load_8 (by decide) ?_
  refine z_icmp_ge_f (tgt := 27) E dX2_load_9 (by decide) (by decide) ?_
  refine z_iload_n E dX2_load_12 rfl 1 rfl ?_
  refine z_aload_n E dX2_load_13 rfl 2 rfl ?_
  refine z_get E (3 * j) (cw_rig hj) (C := RX2) (T := TX2) (N := 10) rfl (fun _ h => List.mem_cons_of_mem _ (List.mem_append_right _ h)) 8 (by decide) (List.mem_of_getElem? (i := 2) (by decide +kernel)) rfl (v := .ref (ad (3 * j + 1))) rfl dX2_load_14 ?_
  refine z_iload_n E dX2_load_17 rfl 0 rfl ?_
  refine z_iald E (3 * j + 1) 0 (cw_wt hj) rfl (zvin rfl) (v := mem (3 * j + 1) 1) rfl dX2_load_18 ?_
  refine z_iadd E dX2_load_19 ?_
  refine z_istore_n (lv' := [(1, .int (((mem (3 * j) 2) + (mem (3 * j + 1) 0)) + (mem (3 * j + 1) 1))), (2, .int 1), (0, .ref (ad (3 * j)))]) E dX2_load_20 rfl (by decide) rfl ?_
  refine z_iinc (v := 2) (lv' := [(2, .int 2), (1, .int (((mem (3 * j) 2) + (mem (3 * j + 1) 0)) + (mem (3 * j + 1) 1))), (0, .ref (ad (3 * j)))]) E dX2_load_21 (q := 1) rfl (by decide) (by decide) rfl ?_
  refine z_goto (tgt := 7) E dX2_load_24 (by decide) ?_
  refine z_iload_n E dX2_load_7 rfl 0 rfl ?_
  refine z_iconst (v := 3) E dX2_load_8 (by decide) ?_
  refine z_icmp_ge_f (tgt := 27) E dX2_load_9 (by decide) (by decide) ?_
  refine z_iload_n E dX2_load_12 rfl 1 rfl ?_
  refine z_aload_n E dX2_load_13 rfl 2 rfl ?_
  refine z_get E (3 * j) (cw_rig hj) (C := RX2) (T := TX2) (N := 10) rfl (fun _ h => List.mem_cons_of_mem _ (List.mem_append_right _ h)) 8 (by decide) (List.mem_of_getElem? (i := 2) (by decide +kernel)) rfl (v := .ref (ad (3 * j + 1))) rfl dX2_load_14 ?_
  refine z_iload_n E dX2_load_17 rfl 0 rfl ?_
  refine z_iald E (3 * j + 1) 0 (cw_wt hj) rfl (zvin rfl) (v := mem (3 * j + 1) 2) rfl dX2_load_18 ?_
  refine z_iadd E dX2_load_19 ?_
  refine z_istore_n (lv' := [(1, .int ((((mem (3 * j) 2) + (mem (3 * j + 1) 0)) + (mem (3 * j + 1) 1)) + (mem (3 * j + 1) 2))), (2, .int 2), (0, .ref (ad (3 * j)))]) E dX2_load_20 rfl (by decide) rfl ?_
  refine z_iinc (v := 3) (lv' := [(2, .int 3), (1, .int ((((mem (3 * j) 2) + (mem (3 * j + 1) 0)) + (mem (3 * j + 1) 1)) + (mem (3 * j + 1) 2))), (0, .ref (ad (3 * j)))]) E dX2_load_21 (q := 1) rfl (by decide) (by decide) rfl ?_
  refine z_goto (tgt := 7) E dX2_load_24 (by decide) ?_
  refine z_iload_n E dX2_load_7 rfl 0 rfl ?_
  refine z_iconst (v := 3) E dX2_load_8 (by decide) ?_
  refine z_icmp_ge_t (tgt := 27) E dX2_load_9 (by decide) (by decide) ?_
  refine z_iload_n E dX2_load_27 rfl 1 rfl ?_
  exact z_iretM E hr hlocks (mem) rfl ⟨rfl, rfl⟩ (Nat.le_of_ble_eq_true rfl) (Nat.le_of_ble_eq_true rfl) dX2_load_28
set_option maxHeartbeats 1000000 in
set_option maxRecDepth 100000 in
theorem k_moment (l : Launch) (D : va_G) (ad : Nat → Nat) (cI cR cS cL : ClassId) (mem : zM) {j : Nat} (hj : j < 29) : zMi l yX2_moment wsX2_moment ({ frames := 0, cells := 0, slots := 0, locals := 0 }) D (cK cI cR cS cL) [.ref (ad (3 * j))] (cw ad cI cR cS mem) (fun r u => r = fMoment (rv mem j) ∧ u = mem) (cw ad cI cR cS) 0 0 := by
  refine zMiM.of (cc := cX2_moment) (maxL := 3) (ret := (some .int)) (by decide +kernel) rfl (lv0 := [(0, .ref (ad (3 * j)))]) (Nat.le_of_ble_eq_true rfl) rfl ?_
  intro p e s m args below meth c E hZ hr hlocks hnm
  refine z_iconst (v := 5) E dX2_moment_0 (by decide) ?_
  refine z_aload_n E dX2_moment_1 rfl 0 rfl ?_
  refine z_get E (3 * j) (cw_rig hj) (C := RX2) (T := TX2) (N := 10) rfl (fun _ h => List.mem_cons_of_mem _ (List.mem_append_right _ h)) 2 (by decide) (List.mem_of_getElem? (i := 1) (by decide +kernel)) rfl (v := .int (mem (3 * j) 2)) rfl dX2_moment_2 ?_
  refine z_imul E dX2_moment_5 ?_
  refine z_istore_n (lv' := [(1, .int (5 * (mem (3 * j) 2))), (0, .ref (ad (3 * j)))]) E dX2_moment_6 rfl (by decide) rfl ?_
  refine z_iconst (v := 0) E dX2_moment_7 (by decide) ?_
  refine z_istore_n (lv' := [(2, .int 0), (1, .int (5 * (mem (3 * j) 2))), (0, .ref (ad (3 * j)))]) E dX2_moment_8 rfl (by decide) rfl ?_
  refine z_iload_n E dX2_moment_9 rfl 0 rfl ?_
  refine z_iconst (v := 3) E dX2_moment_10 (by decide) ?_
  refine z_icmp_ge_f (tgt := 36) E dX2_moment_11 (by decide) (by decide) ?_
  refine z_iload_n E dX2_moment_14 rfl 1 rfl ?_
  refine z_aload_n E dX2_moment_15 rfl 2 rfl ?_
  refine z_get E (3 * j) (cw_rig hj) (C := RX2) (T := TX2) (N := 10) rfl (fun _ h => List.mem_cons_of_mem _ (List.mem_append_right _ h)) 9 (by decide) (List.mem_of_getElem? (i := 2) (by decide +kernel)) rfl (v := .ref (ad (3 * j + 2))) rfl dX2_moment_16 ?_
  refine z_iload_n E dX2_moment_19 rfl 0 rfl ?_
  refine z_iald E (3 * j + 2) 0 (cw_st hj) rfl (zvin rfl) (v := mem (3 * j + 2) 0) rfl dX2_moment_20 ?_
  refine z_aload_n E dX2_moment_21 rfl 2 rfl ?_
  refine z_get E (3 * j) (cw_rig hj) (C := RX2) (T := TX2) (N := 10) rfl (fun _ h => List.mem_cons_of_mem _ (List.mem_append_right _ h)) 8 (by decide) (List.mem_of_getElem? (i := 3) (by decide +kernel)) rfl (v := .ref (ad (3 * j + 1))) rfl dX2_moment_22 ?_
  refine z_iload_n E dX2_moment_25 rfl 0 rfl ?_
  refine z_iald E (3 * j + 1) 0 (cw_wt hj) rfl (zvin rfl) (v := mem (3 * j + 1) 0) rfl dX2_moment_26 ?_
  refine z_imul E dX2_moment_27 ?_
  refine z_iadd E dX2_moment_28 ?_
  refine z_istore_n (lv' := [(1, .int ((5 * (mem (3 * j) 2)) + ((mem (3 * j + 2) 0) * (mem (3 * j + 1) 0)))), (2, .int 0), (0, .ref (ad (3 * j)))]) E dX2_moment_29 rfl (by decide) rfl ?_
  refine z_iinc (v := 1) (lv' := [(2, .int 1), (1, .int ((5 * (mem (3 * j) 2)) + ((mem (3 * j + 2) 0) * (mem (3 * j + 1) 0)))), (0, .ref (ad (3 * j)))]) E dX2_moment_30 (q := 1) rfl (by decide) (by decide) rfl ?_
  refine z_goto (tgt := 9) E dX2_moment_33 (by decide) ?_
  refine z_iload_n E dX2_moment_9 rfl 0 rfl ?_
  refine z_iconst (v := 3) E dX2_moment_10 (by decide) ?_
  refine z_icmp_ge_f (tgt := 36) E dX2_moment_11 (by decide) (by decide) ?_
  refine z_iload_n E dX2_moment_14 rfl 1 rfl ?_
  refine z_aload_n E dX2_moment_15 rfl 2 rfl ?_
  refine z_get E (3 * j) (cw_rig hj) (C := RX2) (T := TX2) (N := 10) rfl (fun _ h => List.mem_cons_of_mem _ (List.mem_append_right _ h)) 9 (by decide) (List.mem_of_getElem? (i := 2) (by decide +kernel)) rfl (v := .ref (ad (3 * j + 2))) rfl dX2_moment_16 ?_
  refine z_iload_n E dX2_moment_19 rfl 0 rfl ?_
  refine z_iald E (3 * j + 2) 0 (cw_st hj) rfl (zvin rfl) (v := mem (3 * j + 2) 1) rfl dX2_moment_20 ?_
  refine z_aload_n E dX2_moment_21 rfl 2 rfl ?_
  refine z_get E (3 * j) (cw_rig hj) (C := RX2) (T := TX2) (N := 10) rfl (fun _ h => List.mem_cons_of_mem _ (List.mem_append_right _ h)) 8 (by decide) (List.mem_of_getElem? (i := 3) (by decide +kernel)) rfl (v := .ref (ad (3 * j + 1))) rfl dX2_moment_22 ?_
  refine z_iload_n E dX2_moment_25 rfl 0 rfl ?_
  refine z_iald E (3 * j + 1) 0 (cw_wt hj) rfl (zvin rfl) (v := mem (3 * j + 1) 1) rfl dX2_moment_26 ?_
  refine z_imul E dX2_moment_27 ?_
  refine z_iadd E dX2_moment_28 ?_
  refine z_istore_n (lv' := [(1, .int (((5 * (mem (3 * j) 2)) + ((mem (3 * j + 2) 0) * (mem (3 * j + 1) 0))) + ((mem (3 * j + 2) 1) * (mem (3 * j + 1) 1)))), (2, .int 1), (0, .ref (ad (3 * j)))]) E dX2_moment_29 rfl (by decide) rfl ?_
  refine z_iinc (v := 2) (lv' := [(2, .int 2), (1, .int (((5 * (mem (3 * j) 2)) + ((mem (3 * j + 2) 0) * (mem (3 * j + 1) 0))) + ((mem (3 * j + 2) 1) * (mem (3 * j + 1) 1)))), (0, .ref (ad (3 * j)))]) E dX2_moment_30 (q := 1) rfl (by decide) (by decide) rfl ?_
  refine z_goto (tgt := 9) E dX2_moment_33 (by decide) ?_
  refine z_iload_n E dX2_moment_9 rfl 0 rfl ?_
  refine z_iconst (v := 3) E dX2_moment_10 (by decide) ?_
  refine z_icmp_ge_f (tgt := 36) E dX2_moment_11 (by decide) (by decide) ?_
  refine z_iload_n E dX2_moment_14 rfl 1 rfl ?_
  refine z_aload_n E dX2_moment_15 rfl 2 rfl ?_
  refine z_get E (3 * j) (cw_rig hj) (C := RX2) (T := TX2) (N := 10) rfl (fun _ h => List.mem_cons_of_mem _ (List.mem_append_right _ h)) 9 (by decide) (List.mem_of_getElem? (i := 2) (by decide +kernel)) rfl (v := .ref (ad (3 * j + 2))) rfl dX2_moment_16 ?_
  refine z_iload_n E dX2_moment_19 rfl 0 rfl ?_
  refine z_iald E (3 * j + 2) 0 (cw_st hj) rfl (zvin rfl) (v := mem (3 * j + 2) 2) rfl dX2_moment_20 ?_
  refine z_aload_n E dX2_moment_21 rfl 2 rfl ?_
  refine z_get E (3 * j) (cw_rig hj) (C := RX2) (T := TX2) (N := 10) rfl (fun _ h => List.mem_cons_of_mem _ (List.mem_append_right _ h)) 8 (by decide) (List.mem_of_getElem? (i := 3) (by decide +kernel)) rfl (v := .ref (ad (3 * j + 1))) rfl dX2_moment_22 ?_
  refine z_iload_n E dX2_moment_25 rfl 0 rfl ?_
  refine z_iald E (3 * j + 1) 0 (cw_wt hj) rfl (zvin rfl) (v := mem (3 * j + 1) 2) rfl dX2_moment_26 ?_
  refine z_imul E dX2_moment_27 ?_
  refine z_iadd E dX2_moment_28 ?_
  refine z_istore_n (lv' := [(1, .int ((((5 * (mem (3 * j) 2)) + ((mem (3 * j + 2) 0) * (mem (3 * j + 1) 0))) + ((mem (3 * j + 2) 1) * (mem (3 * j + 1) 1))) + ((mem (3 * j + 2) 2) * (mem (3 * j + 1) 2)))), (2, .int 2), (0, .ref (ad (3 * j)))]) E dX2_moment_29 rfl (by decide) rfl ?_
  refine z_iinc (v := 3) (lv' := [(2, .int 3), (1, .int ((((5 * (mem (3 * j) 2)) + ((mem (3 * j + 2) 0) * (mem (3 * j + 1) 0))) + ((mem (3 * j + 2) 1) * (mem (3 * j + 1) 1))) + ((mem (3 * j + 2) 2) * (mem (3 * j + 1) 2)))), (0, .ref (ad (3 * j)))]) E dX2_moment_30 (q := 1) rfl (by decide) (by decide) rfl ?_
  refine z_goto (tgt := 9) E dX2_moment_33 (by decide) ?_
  refine z_iload_n E dX2_moment_9 rfl 0 rfl ?_
  refine z_iconst (v := 3) E dX2_moment_10 (by decide) ?_
  refine z_icmp_ge_t (tgt := 36) E dX2_moment_11 (by decide) (by decide) ?_
  refine z_aload_n E dX2_moment_36 rfl 2 rfl ?_
  refine z_get E (3 * j) (cw_rig hj) (C := RX2) (T := TX2) (N := 10) rfl (fun _ h => List.mem_cons_of_mem _ (List.mem_append_right _ h)) 0 (by decide) (List.mem_of_getElem? (i := 4) (by decide +kernel)) rfl (v := .int (mem (3 * j) 0)) rfl dX2_moment_37 ?_
  refine z_iload_n E dX2_moment_40 rfl 1 rfl ?_
  refine z_imul E dX2_moment_41 ?_
  exact z_iretM E hr hlocks (mem) rfl ⟨rfl, rfl⟩ (Nat.le_of_ble_eq_true rfl) (Nat.le_of_ble_eq_true rfl) dX2_moment_42
set_option maxHeartbeats 1000000 in
set_option maxRecDepth 100000 in
theorem k_push (l : Launch) (D : va_G) (ad : Nat → Nat) (cI cR cS cL : ClassId) (mem : zM) {j : Nat} (hj : j < 29) (f : Int32) : zMi l yX2_push wsX2_push ({ frames := 1, cells := 0, slots := 0, locals := 22 }) D (cK cI cR cS cL) [.ref (ad (3 * j)), .int f] (cw ad cI cR cS mem) (fun r u => r = fPush (rv mem j) f ∧ u = mem) (cw ad cI cR cS) 0 0 := by
  refine zMiM.of (cc := cX2_push) (maxL := 2) (ret := (some .int)) (by decide +kernel) rfl (lv0 := [(0, .ref (ad (3 * j))), (1, .int f)]) (Nat.le_of_ble_eq_true rfl) rfl ?_
  intro p e s m args below meth c E hZ hr hlocks hnm
  refine z_aload_n E dX2_push_0 rfl 0 rfl ?_
  refine z_callVi E hZ (k_moment l D ad cI cR cS cL mem hj) gX2_push_X2_moment (n := 0) rfl rfl rfl (by decide +kernel) rfl ⟨Nat.le_of_ble_eq_true rfl, Nat.le_of_ble_eq_true rfl⟩  (C := RX2) rfl (3 * j) (cw_rig hj) (As := []) (rest := []) rfl (Nat.le_of_ble_eq_true rfl) ⟨Nat.le_of_ble_eq_true rfl, Nat.le_of_ble_eq_true rfl⟩ dX2_push_1 (fun r u hp => ?_)
  rw [hp.1, hp.2]
  refine z_bipush (v := 10) E dX2_push_4 (by decide) ?_
  refine z_iload_n E dX2_push_6 rfl 1 rfl ?_
  refine z_imul E dX2_push_7 ?_
  refine z_aload_n E dX2_push_8 rfl 0 rfl ?_
  refine z_get E (3 * j) (cw_rig hj) (C := RX2) (T := TX2) (N := 10) rfl (fun _ h => List.mem_cons_of_mem _ (List.mem_append_right _ h)) 0 (by decide) (List.mem_of_getElem? (i := 1) (by decide +kernel)) rfl (v := .int (mem (3 * j) 0)) rfl dX2_push_9 ?_
  refine z_imul E dX2_push_12 ?_
  refine z_isub E dX2_push_13 ?_
  exact z_iretM E hr hlocks (mem) rfl ⟨rfl, rfl⟩ (Nat.le_of_ble_eq_true rfl) (Nat.le_of_ble_eq_true rfl) dX2_push_14
set_option maxHeartbeats 1000000 in
set_option maxRecDepth 100000 in
theorem k_groundPercents (l : Launch) (D : va_G) (ad : Nat → Nat) (cI cR cS cL : ClassId) (mem : zM) {j : Nat} (hj : j < 29) : zMi l yX2_groundPercents wsX2_groundPercents ({ frames := 0, cells := 0, slots := 0, locals := 0 }) D (cK cI cR cS cL) [.ref (ad (3 * j))] (cw ad cI cR cS mem) (fun r u => r = fGP (rv mem j) ∧ u = mem) (cw ad cI cR cS) 0 0 := by
  refine zMiM.of (cc := cX2_groundPercents) (maxL := 1) (ret := (some .int)) (by decide +kernel) rfl (lv0 := [(0, .ref (ad (3 * j)))]) (Nat.le_of_ble_eq_true rfl) rfl ?_
  intro p e s m args below meth c E hZ hr hlocks hnm
  obtain ⟨⟨t1, a1, b1⟩, ⟨t2, a2, b2⟩, -, -, -, -, -, -, -, -, -, -, N1, N2, -⟩ := id hZ
  refine z_aload_n E dX2_groundPercents_0 rfl 0 rfl ?_
  refine z_get E (3 * j) (cw_rig hj) (C := RX2) (T := TX2) (N := 10) rfl (fun _ h => List.mem_cons_of_mem _ (List.mem_append_right _ h)) 3 (by decide) (List.mem_of_getElem? (i := 1) (by decide +kernel)) rfl (v := .int (mem (3 * j) 3)) rfl dX2_groundPercents_1 ?_
  refine z_if_lt (tgt := 29) E dX2_groundPercents_4 (by decide) (fun c4 => ?_) (fun c4 => ?_)
  · skip
    refine z_iconst (v := 0) E dX2_groundPercents_29 (by decide) ?_
    exact z_iretM E hr hlocks (mem) rfl ⟨(if_pos c4).symm, rfl⟩ (Nat.le_of_ble_eq_true rfl) (Nat.le_of_ble_eq_true rfl) dX2_groundPercents_30
  · skip
    refine z_aload_n E dX2_groundPercents_7 rfl 0 rfl ?_
    refine z_get E (3 * j) (cw_rig hj) (C := RX2) (T := TX2) (N := 10) rfl (fun _ h => List.mem_cons_of_mem _ (List.mem_append_right _ h)) 3 (by decide) (List.mem_of_getElem? (i := 1) (by decide +kernel)) rfl (v := .int (mem (3 * j) 3)) rfl dX2_groundPercents_8 ?_
    refine z_getsN E a1 N1 dX2_groundPercents_11 ?_
    refine z_tlen E b1 (v := 4) (by decide) dX2_groundPercents_14 ?_
    refine z_icmp_ge (tgt := 29) E dX2_groundPercents_15 (by decide) (fun c15 => ?_) (fun c15 => ?_)
    · skip
      refine z_iconst (v := 0) E dX2_groundPercents_29 (by decide) ?_
      exact z_iretM E hr hlocks (mem) rfl ⟨((if_neg c4).trans (if_pos c15)).symm, rfl⟩ (Nat.le_of_ble_eq_true rfl) (Nat.le_of_ble_eq_true rfl) dX2_groundPercents_30
    · skip
      refine z_getsN E a1 N1 dX2_groundPercents_18 ?_
      refine z_aload_n E dX2_groundPercents_21 rfl 0 rfl ?_
      refine z_get E (3 * j) (cw_rig hj) (C := RX2) (T := TX2) (N := 10) rfl (fun _ h => List.mem_cons_of_mem _ (List.mem_append_right _ h)) 3 (by decide) (List.mem_of_getElem? (i := 1) (by decide +kernel)) rfl (v := .int (mem (3 * j) 3)) rfl dX2_groundPercents_22 ?_
      refine z_ti E b1 (zvin4 c4 c15) (v := .int (([5, 25, 40, 60] : List Int32).getD (mem (3 * j) 3).toNatClampNeg 0)) rfl dX2_groundPercents_25 ?_
      refine z_goto (tgt := 30) E dX2_groundPercents_26 (by decide) ?_
      exact z_iretM E hr hlocks (mem) rfl ⟨((if_neg c4).trans (if_neg c15)).symm, rfl⟩ (Nat.le_of_ble_eq_true rfl) (Nat.le_of_ble_eq_true rfl) dX2_groundPercents_30
set_option maxHeartbeats 1000000 in
set_option maxRecDepth 100000 in
theorem k_wallPercents (l : Launch) (D : va_G) (ad : Nat → Nat) (cI cR cS cL : ClassId) (mem : zM) {j : Nat} (hj : j < 29) : zMi l yX2_wallPercents wsX2_wallPercents ({ frames := 0, cells := 0, slots := 0, locals := 0 }) D (cK cI cR cS cL) [.ref (ad (3 * j))] (cw ad cI cR cS mem) (fun r u => r = fWP (rv mem j) ∧ u = mem) (cw ad cI cR cS) 0 0 := by
  refine zMiM.of (cc := cX2_wallPercents) (maxL := 1) (ret := (some .int)) (by decide +kernel) rfl (lv0 := [(0, .ref (ad (3 * j)))]) (Nat.le_of_ble_eq_true rfl) rfl ?_
  intro p e s m args below meth c E hZ hr hlocks hnm
  obtain ⟨⟨t1, a1, b1⟩, ⟨t2, a2, b2⟩, -, -, -, -, -, -, -, -, -, -, N1, N2, -⟩ := id hZ
  refine z_aload_n E dX2_wallPercents_0 rfl 0 rfl ?_
  refine z_get E (3 * j) (cw_rig hj) (C := RX2) (T := TX2) (N := 10) rfl (fun _ h => List.mem_cons_of_mem _ (List.mem_append_right _ h)) 4 (by decide) (List.mem_of_getElem? (i := 1) (by decide +kernel)) rfl (v := .int (mem (3 * j) 4)) rfl dX2_wallPercents_1 ?_
  refine z_if_lt (tgt := 29) E dX2_wallPercents_4 (by decide) (fun c4 => ?_) (fun c4 => ?_)
  · skip
    refine z_iconst (v := 0) E dX2_wallPercents_29 (by decide) ?_
    exact z_iretM E hr hlocks (mem) rfl ⟨(if_pos c4).symm, rfl⟩ (Nat.le_of_ble_eq_true rfl) (Nat.le_of_ble_eq_true rfl) dX2_wallPercents_30
  · skip
    refine z_aload_n E dX2_wallPercents_7 rfl 0 rfl ?_
    refine z_get E (3 * j) (cw_rig hj) (C := RX2) (T := TX2) (N := 10) rfl (fun _ h => List.mem_cons_of_mem _ (List.mem_append_right _ h)) 4 (by decide) (List.mem_of_getElem? (i := 1) (by decide +kernel)) rfl (v := .int (mem (3 * j) 4)) rfl dX2_wallPercents_8 ?_
    refine z_getsN E a2 N2 dX2_wallPercents_11 ?_
    refine z_tlen E b2 (v := 4) (by decide) dX2_wallPercents_14 ?_
    refine z_icmp_ge (tgt := 29) E dX2_wallPercents_15 (by decide) (fun c15 => ?_) (fun c15 => ?_)
    · skip
      refine z_iconst (v := 0) E dX2_wallPercents_29 (by decide) ?_
      exact z_iretM E hr hlocks (mem) rfl ⟨((if_neg c4).trans (if_pos c15)).symm, rfl⟩ (Nat.le_of_ble_eq_true rfl) (Nat.le_of_ble_eq_true rfl) dX2_wallPercents_30
    · skip
      refine z_getsN E a2 N2 dX2_wallPercents_18 ?_
      refine z_aload_n E dX2_wallPercents_21 rfl 0 rfl ?_
      refine z_get E (3 * j) (cw_rig hj) (C := RX2) (T := TX2) (N := 10) rfl (fun _ h => List.mem_cons_of_mem _ (List.mem_append_right _ h)) 4 (by decide) (List.mem_of_getElem? (i := 1) (by decide +kernel)) rfl (v := .int (mem (3 * j) 4)) rfl dX2_wallPercents_22 ?_
      refine z_ti E b2 (zvin4 c4 c15) (v := .int (([0, 20, 45, 60] : List Int32).getD (mem (3 * j) 4).toNatClampNeg 0)) rfl dX2_wallPercents_25 ?_
      refine z_goto (tgt := 30) E dX2_wallPercents_26 (by decide) ?_
      exact z_iretM E hr hlocks (mem) rfl ⟨((if_neg c4).trans (if_neg c15)).symm, rfl⟩ (Nat.le_of_ble_eq_true rfl) (Nat.le_of_ble_eq_true rfl) dX2_wallPercents_30
set_option maxHeartbeats 1000000 in
set_option maxRecDepth 100000 in
theorem k_leastByWall (l : Launch) (D : va_G) (ad : Nat → Nat) (cI cR cS cL : ClassId) (mem : zM) {j : Nat} (hj : j < 29) : zMi l yX2_leastByWall wsX2_leastByWall ({ frames := 1, cells := 0, slots := 0, locals := 22 }) D (cK cI cR cS cL) [.ref (ad (3 * j))] (cw ad cI cR cS mem) (fun r u => r = fLBW (rv mem j) ∧ u = mem) (cw ad cI cR cS) 0 0 := by
  refine zMiM.of (cc := cX2_leastByWall) (maxL := 3) (ret := (some .int)) (by decide +kernel) rfl (lv0 := [(0, .ref (ad (3 * j)))]) (Nat.le_of_ble_eq_true rfl) rfl ?_
  intro p e s m args below meth c E hZ hr hlocks hnm
  refine z_aload_n E dX2_leastByWall_0 rfl 0 rfl ?_
  refine z_get E (3 * j) (cw_rig hj) (C := RX2) (T := TX2) (N := 10) rfl (fun _ h => List.mem_cons_of_mem _ (List.mem_append_right _ h)) 4 (by decide) (List.mem_of_getElem? (i := 1) (by decide +kernel)) rfl (v := .int (mem (3 * j) 4)) rfl dX2_leastByWall_1 ?_
  refine z_iconst (v := 3) E dX2_leastByWall_4 (by decide) ?_
  refine z_icmp_ne (tgt := 10) E dX2_leastByWall_5 (by decide) (fun c5 => ?_) (fun c5 => ?_)
  · skip
    refine z_aload_n E dX2_leastByWall_10 rfl 0 rfl ?_
    refine z_callVi E hZ (k_wallPercents l D ad cI cR cS cL mem hj) gX2_leastByWall_X2_wallPercents (n := 0) rfl rfl rfl (by decide +kernel) rfl ⟨Nat.le_of_ble_eq_true rfl, Nat.le_of_ble_eq_true rfl⟩  (C := RX2) rfl (3 * j) (cw_rig hj) (As := []) (rest := []) rfl (Nat.le_of_ble_eq_true rfl) ⟨Nat.le_of_ble_eq_true rfl, Nat.le_of_ble_eq_true rfl⟩ dX2_leastByWall_11 (fun r u hp => ?_)
    rw [hp.1, hp.2]
    refine z_istore_n (lv' := [(1, .int (fWP (rv mem j))), (0, .ref (ad (3 * j)))]) E dX2_leastByWall_14 rfl (by decide) rfl ?_
    refine z_sipush (v := 1000) E dX2_leastByWall_15 (by decide) ?_
    refine z_aload_n E dX2_leastByWall_18 rfl 1 rfl ?_
    refine z_get E (3 * j) (cw_rig hj) (C := RX2) (T := TX2) (N := 10) rfl (fun _ h => List.mem_cons_of_mem _ (List.mem_append_right _ h)) 1 (by decide) (List.mem_of_getElem? (i := 2) (by decide +kernel)) rfl (v := .int (mem (3 * j) 1)) rfl dX2_leastByWall_19 ?_
    refine z_imul E dX2_leastByWall_22 ?_
    refine z_bipush (v := 10) E dX2_leastByWall_23 (by decide) ?_
    refine z_aload_n E dX2_leastByWall_25 rfl 1 rfl ?_
    refine z_get E (3 * j) (cw_rig hj) (C := RX2) (T := TX2) (N := 10) rfl (fun _ h => List.mem_cons_of_mem _ (List.mem_append_right _ h)) 0 (by decide) (List.mem_of_getElem? (i := 3) (by decide +kernel)) rfl (v := .int (mem (3 * j) 0)) rfl dX2_leastByWall_26 ?_
    refine z_imul E dX2_leastByWall_29 ?_
    refine z_iload_n E dX2_leastByWall_30 rfl 0 rfl ?_
    refine z_imul E dX2_leastByWall_31 ?_
    refine z_isub E dX2_leastByWall_32 ?_
    refine z_istore_n (lv' := [(2, .int ((1000 * (mem (3 * j) 1)) - ((10 * (mem (3 * j) 0)) * (fWP (rv mem j))))), (1, .int (fWP (rv mem j))), (0, .ref (ad (3 * j)))]) E dX2_leastByWall_33 rfl (by decide) rfl ?_
    refine z_iload_n E dX2_leastByWall_34 rfl 0 rfl ?_
    refine z_if_le (tgt := 52) E dX2_leastByWall_35 (by decide) (fun c35 => ?_) (fun c35 => ?_)
    · skip
      refine z_sipush (v := -1000) E dX2_leastByWall_52 (by decide) ?_
      exact z_iretM E hr hlocks (mem) rfl ⟨((if_neg c5).trans (if_pos c35)).symm, rfl⟩ (Nat.le_of_ble_eq_true rfl) (Nat.le_of_ble_eq_true rfl) dX2_leastByWall_55
    · skip
      refine z_iload_n E dX2_leastByWall_38 rfl 1 rfl ?_
      refine z_aload_n E dX2_leastByWall_39 rfl 2 rfl ?_
      refine z_callVi E hZ (k_moment l D ad cI cR cS cL mem hj) gX2_leastByWall_X2_moment (n := 0) rfl rfl rfl (by decide +kernel) rfl ⟨Nat.le_of_ble_eq_true rfl, Nat.le_of_ble_eq_true rfl⟩  (C := RX2) rfl (3 * j) (cw_rig hj) (As := []) (rest := [.int (fWP (rv mem j))]) rfl (Nat.le_of_ble_eq_true rfl) ⟨Nat.le_of_ble_eq_true rfl, Nat.le_of_ble_eq_true rfl⟩ dX2_leastByWall_40 (fun r u hp => ?_)
      rw [hp.1, hp.2]
      refine z_imul E dX2_leastByWall_43 ?_
      refine z_iload_n E dX2_leastByWall_44 rfl 0 rfl ?_
      refine z_callSi E hZ (k_floorDiv l D (cK cI cR cS cL) (cw ad cI cR cS mem) ((fWP (rv mem j)) * (fMoment (rv mem j))) ((1000 * (mem (3 * j) 1)) - ((10 * (mem (3 * j) 0)) * (fWP (rv mem j)))) (zpos0 c35)) gX2_leastByWall_J9_floorDiv_7cf53 (n := 2) rfl rfl rfl (by decide +kernel) rfl ⟨Nat.le_of_ble_eq_true rfl, Nat.le_of_ble_eq_true rfl⟩ (As := [.int ((fWP (rv mem j)) * (fMoment (rv mem j))), .int ((1000 * (mem (3 * j) 1)) - ((10 * (mem (3 * j) 0)) * (fWP (rv mem j))))]) (rest := []) rfl (Nat.le_of_ble_eq_true rfl) ⟨Nat.le_of_ble_eq_true rfl, Nat.le_of_ble_eq_true rfl⟩ dX2_leastByWall_45 (fun r u hp => ?_)
      rw [hp]
      refine z_ineg E dX2_leastByWall_48 ?_
      refine z_goto (tgt := 55) E dX2_leastByWall_49 (by decide) ?_
      exact z_iretM E hr hlocks (mem) rfl ⟨((if_neg c5).trans (if_neg c35)).symm, rfl⟩ (Nat.le_of_ble_eq_true rfl) (Nat.le_of_ble_eq_true rfl) dX2_leastByWall_55
  · skip
    refine z_iconst (v := 0) E dX2_leastByWall_8 (by decide) ?_
    exact z_iretM E hr hlocks (mem) rfl ⟨(if_pos c5).symm, rfl⟩ (Nat.le_of_ble_eq_true rfl) (Nat.le_of_ble_eq_true rfl) dX2_leastByWall_9
set_option maxHeartbeats 1000000 in
set_option maxRecDepth 100000 in
theorem k_greatestForce (l : Launch) (D : va_G) (ad : Nat → Nat) (cI cR cS cL : ClassId) (mem : zM) {j : Nat} (hj : j < 29) : zMi l yX2_greatestForce wsX2_greatestForce ({ frames := 1, cells := 0, slots := 0, locals := 22 }) D (cK cI cR cS cL) [.ref (ad (3 * j))] (cw ad cI cR cS mem) (fun r u => r = fGreat (rv mem j) ∧ u = mem) (cw ad cI cR cS) 0 0 := by
  refine zMiM.of (cc := cX2_greatestForce) (maxL := 3) (ret := (some .int)) (by decide +kernel) rfl (lv0 := [(0, .ref (ad (3 * j)))]) (Nat.le_of_ble_eq_true rfl) rfl ?_
  intro p e s m args below meth c E hZ hr hlocks hnm
  refine z_aload_n E dX2_greatestForce_0 rfl 0 rfl ?_
  refine z_callVi E hZ (k_wallPercents l D ad cI cR cS cL mem hj) gX2_greatestForce_X2_wallPercents (n := 0) rfl rfl rfl (by decide +kernel) rfl ⟨Nat.le_of_ble_eq_true rfl, Nat.le_of_ble_eq_true rfl⟩  (C := RX2) rfl (3 * j) (cw_rig hj) (As := []) (rest := []) rfl (Nat.le_of_ble_eq_true rfl) ⟨Nat.le_of_ble_eq_true rfl, Nat.le_of_ble_eq_true rfl⟩ dX2_greatestForce_1 (fun r u hp => ?_)
  rw [hp.1, hp.2]
  refine z_istore_n (lv' := [(1, .int (fWP (rv mem j))), (0, .ref (ad (3 * j)))]) E dX2_greatestForce_4 rfl (by decide) rfl ?_
  refine z_sipush (v := 1000) E dX2_greatestForce_5 (by decide) ?_
  refine z_aload_n E dX2_greatestForce_8 rfl 1 rfl ?_
  refine z_get E (3 * j) (cw_rig hj) (C := RX2) (T := TX2) (N := 10) rfl (fun _ h => List.mem_cons_of_mem _ (List.mem_append_right _ h)) 1 (by decide) (List.mem_of_getElem? (i := 1) (by decide +kernel)) rfl (v := .int (mem (3 * j) 1)) rfl dX2_greatestForce_9 ?_
  refine z_imul E dX2_greatestForce_12 ?_
  refine z_bipush (v := 10) E dX2_greatestForce_13 (by decide) ?_
  refine z_aload_n E dX2_greatestForce_15 rfl 1 rfl ?_
  refine z_get E (3 * j) (cw_rig hj) (C := RX2) (T := TX2) (N := 10) rfl (fun _ h => List.mem_cons_of_mem _ (List.mem_append_right _ h)) 0 (by decide) (List.mem_of_getElem? (i := 2) (by decide +kernel)) rfl (v := .int (mem (3 * j) 0)) rfl dX2_greatestForce_16 ?_
  refine z_imul E dX2_greatestForce_19 ?_
  refine z_iload_n E dX2_greatestForce_20 rfl 0 rfl ?_
  refine z_imul E dX2_greatestForce_21 ?_
  refine z_iadd E dX2_greatestForce_22 ?_
  refine z_istore_n (lv' := [(2, .int ((1000 * (mem (3 * j) 1)) + ((10 * (mem (3 * j) 0)) * (fWP (rv mem j))))), (1, .int (fWP (rv mem j))), (0, .ref (ad (3 * j)))]) E dX2_greatestForce_23 rfl (by decide) rfl ?_
  refine z_iload_n E dX2_greatestForce_24 rfl 0 rfl ?_
  refine z_if_le (tgt := 41) E dX2_greatestForce_25 (by decide) (fun c25 => ?_) (fun c25 => ?_)
  · skip
    refine z_iconst (v := 0) E dX2_greatestForce_41 (by decide) ?_
    exact z_iretM E hr hlocks (mem) rfl ⟨(if_pos c25).symm, rfl⟩ (Nat.le_of_ble_eq_true rfl) (Nat.le_of_ble_eq_true rfl) dX2_greatestForce_42
  · skip
    refine z_iload_n E dX2_greatestForce_28 rfl 1 rfl ?_
    refine z_aload_n E dX2_greatestForce_29 rfl 2 rfl ?_
    refine z_callVi E hZ (k_moment l D ad cI cR cS cL mem hj) gX2_greatestForce_X2_moment (n := 0) rfl rfl rfl (by decide +kernel) rfl ⟨Nat.le_of_ble_eq_true rfl, Nat.le_of_ble_eq_true rfl⟩  (C := RX2) rfl (3 * j) (cw_rig hj) (As := []) (rest := [.int (fWP (rv mem j))]) rfl (Nat.le_of_ble_eq_true rfl) ⟨Nat.le_of_ble_eq_true rfl, Nat.le_of_ble_eq_true rfl⟩ dX2_greatestForce_30 (fun r u hp => ?_)
    rw [hp.1, hp.2]
    refine z_imul E dX2_greatestForce_33 ?_
    refine z_iload_n E dX2_greatestForce_34 rfl 0 rfl ?_
    refine z_callSi E hZ (k_floorDiv l D (cK cI cR cS cL) (cw ad cI cR cS mem) ((fWP (rv mem j)) * (fMoment (rv mem j))) ((1000 * (mem (3 * j) 1)) + ((10 * (mem (3 * j) 0)) * (fWP (rv mem j)))) (zpos0 c25)) gX2_greatestForce_J9_floorDiv_7cf53 (n := 2) rfl rfl rfl (by decide +kernel) rfl ⟨Nat.le_of_ble_eq_true rfl, Nat.le_of_ble_eq_true rfl⟩ (As := [.int ((fWP (rv mem j)) * (fMoment (rv mem j))), .int ((1000 * (mem (3 * j) 1)) + ((10 * (mem (3 * j) 0)) * (fWP (rv mem j))))]) (rest := []) rfl (Nat.le_of_ble_eq_true rfl) ⟨Nat.le_of_ble_eq_true rfl, Nat.le_of_ble_eq_true rfl⟩ dX2_greatestForce_35 (fun r u hp => ?_)
    rw [hp]
    refine z_goto (tgt := 42) E dX2_greatestForce_38 (by decide) ?_
    exact z_iretM E hr hlocks (mem) rfl ⟨(if_neg c25).symm, rfl⟩ (Nat.le_of_ble_eq_true rfl) (Nat.le_of_ble_eq_true rfl) dX2_greatestForce_42
set_option maxHeartbeats 1000000 in
set_option maxRecDepth 100000 in
theorem k_leastByGround (l : Launch) (D : va_G) (ad : Nat → Nat) (cI cR cS cL : ClassId) (mem : zM) {j : Nat} (hj : j < 29) : zMi l yX2_leastByGround wsX2_leastByGround ({ frames := 1, cells := 0, slots := 0, locals := 22 }) D (cK cI cR cS cL) [.ref (ad (3 * j))] (cw ad cI cR cS mem) (fun r u => r = fLBG (rv mem j) ∧ u = mem) (cw ad cI cR cS) 0 0 := by
  refine zMiM.of (cc := cX2_leastByGround) (maxL := 3) (ret := (some .int)) (by decide +kernel) rfl (lv0 := [(0, .ref (ad (3 * j)))]) (Nat.le_of_ble_eq_true rfl) rfl ?_
  intro p e s m args below meth c E hZ hr hlocks hnm
  refine z_bipush (v := 10) E dX2_leastByGround_0 (by decide) ?_
  refine z_aload_n E dX2_leastByGround_2 rfl 0 rfl ?_
  refine z_get E (3 * j) (cw_rig hj) (C := RX2) (T := TX2) (N := 10) rfl (fun _ h => List.mem_cons_of_mem _ (List.mem_append_right _ h)) 1 (by decide) (List.mem_of_getElem? (i := 1) (by decide +kernel)) rfl (v := .int (mem (3 * j) 1)) rfl dX2_leastByGround_3 ?_
  refine z_imul E dX2_leastByGround_6 ?_
  refine z_aload_n E dX2_leastByGround_7 rfl 0 rfl ?_
  refine z_callVi E hZ (k_groundPercents l D ad cI cR cS cL mem hj) gX2_leastByGround_X2_groundPercents (n := 0) rfl rfl rfl (by decide +kernel) rfl ⟨Nat.le_of_ble_eq_true rfl, Nat.le_of_ble_eq_true rfl⟩  (C := RX2) rfl (3 * j) (cw_rig hj) (As := []) (rest := [.int (10 * (mem (3 * j) 1))]) rfl (Nat.le_of_ble_eq_true rfl) ⟨Nat.le_of_ble_eq_true rfl, Nat.le_of_ble_eq_true rfl⟩ dX2_leastByGround_8 (fun r u hp => ?_)
  rw [hp.1, hp.2]
  refine z_imul E dX2_leastByGround_11 ?_
  refine z_sipush (v := 1000) E dX2_leastByGround_12 (by decide) ?_
  refine z_aload_n E dX2_leastByGround_15 rfl 0 rfl ?_
  refine z_get E (3 * j) (cw_rig hj) (C := RX2) (T := TX2) (N := 10) rfl (fun _ h => List.mem_cons_of_mem _ (List.mem_append_right _ h)) 0 (by decide) (List.mem_of_getElem? (i := 2) (by decide +kernel)) rfl (v := .int (mem (3 * j) 0)) rfl dX2_leastByGround_16 ?_
  refine z_imul E dX2_leastByGround_19 ?_
  refine z_isub E dX2_leastByGround_20 ?_
  refine z_istore_n (lv' := [(1, .int (((10 * (mem (3 * j) 1)) * (fGP (rv mem j))) - (1000 * (mem (3 * j) 0)))), (0, .ref (ad (3 * j)))]) E dX2_leastByGround_21 rfl (by decide) rfl ?_
  refine z_bipush (v := 10) E dX2_leastByGround_22 (by decide) ?_
  refine z_aload_n E dX2_leastByGround_24 rfl 1 rfl ?_
  refine z_get E (3 * j) (cw_rig hj) (C := RX2) (T := TX2) (N := 10) rfl (fun _ h => List.mem_cons_of_mem _ (List.mem_append_right _ h)) 1 (by decide) (List.mem_of_getElem? (i := 1) (by decide +kernel)) rfl (v := .int (mem (3 * j) 1)) rfl dX2_leastByGround_25 ?_
  refine z_imul E dX2_leastByGround_28 ?_
  refine z_aload_n E dX2_leastByGround_29 rfl 1 rfl ?_
  refine z_callVi E hZ (k_groundPercents l D ad cI cR cS cL mem hj) gX2_leastByGround_X2_groundPercents (n := 0) rfl rfl rfl (by decide +kernel) rfl ⟨Nat.le_of_ble_eq_true rfl, Nat.le_of_ble_eq_true rfl⟩  (C := RX2) rfl (3 * j) (cw_rig hj) (As := []) (rest := [.int (10 * (mem (3 * j) 1))]) rfl (Nat.le_of_ble_eq_true rfl) ⟨Nat.le_of_ble_eq_true rfl, Nat.le_of_ble_eq_true rfl⟩ dX2_leastByGround_30 (fun r u hp => ?_)
  rw [hp.1, hp.2]
  refine z_aload_n E dX2_leastByGround_33 rfl 1 rfl ?_
  refine z_callVi E hZ (k_load l D ad cI cR cS cL mem hj) gX2_leastByGround_X2_load (n := 0) rfl rfl rfl (by decide +kernel) rfl ⟨Nat.le_of_ble_eq_true rfl, Nat.le_of_ble_eq_true rfl⟩  (C := RX2) rfl (3 * j) (cw_rig hj) (As := []) (rest := [.int (fGP (rv mem j)), .int (10 * (mem (3 * j) 1))]) rfl (Nat.le_of_ble_eq_true rfl) ⟨Nat.le_of_ble_eq_true rfl, Nat.le_of_ble_eq_true rfl⟩ dX2_leastByGround_34 (fun r u hp => ?_)
  rw [hp.1, hp.2]
  refine z_imul E dX2_leastByGround_37 ?_
  refine z_bipush (v := 100) E dX2_leastByGround_38 (by decide) ?_
  refine z_aload_n E dX2_leastByGround_40 rfl 1 rfl ?_
  refine z_get E (3 * j) (cw_rig hj) (C := RX2) (T := TX2) (N := 10) rfl (fun _ h => List.mem_cons_of_mem _ (List.mem_append_right _ h)) 5 (by decide) (List.mem_of_getElem? (i := 3) (by decide +kernel)) rfl (v := .int (mem (3 * j) 5)) rfl dX2_leastByGround_41 ?_
  refine z_imul E dX2_leastByGround_44 ?_
  refine z_iadd E dX2_leastByGround_45 ?_
  refine z_imul E dX2_leastByGround_46 ?_
  refine z_bipush (v := 100) E dX2_leastByGround_47 (by decide) ?_
  refine z_aload_n E dX2_leastByGround_49 rfl 1 rfl ?_
  refine z_callVi E hZ (k_moment l D ad cI cR cS cL mem hj) gX2_leastByGround_X2_moment (n := 0) rfl rfl rfl (by decide +kernel) rfl ⟨Nat.le_of_ble_eq_true rfl, Nat.le_of_ble_eq_true rfl⟩  (C := RX2) rfl (3 * j) (cw_rig hj) (As := []) (rest := [.int 100, .int ((10 * (mem (3 * j) 1)) * (((fGP (rv mem j)) * (fLoad (rv mem j))) + (100 * (mem (3 * j) 5))))]) rfl (Nat.le_of_ble_eq_true rfl) ⟨Nat.le_of_ble_eq_true rfl, Nat.le_of_ble_eq_true rfl⟩ dX2_leastByGround_50 (fun r u hp => ?_)
  rw [hp.1, hp.2]
  refine z_imul E dX2_leastByGround_53 ?_
  refine z_isub E dX2_leastByGround_54 ?_
  refine z_istore_n (lv' := [(2, .int (((10 * (mem (3 * j) 1)) * (((fGP (rv mem j)) * (fLoad (rv mem j))) + (100 * (mem (3 * j) 5)))) - (100 * (fMoment (rv mem j))))), (1, .int (((10 * (mem (3 * j) 1)) * (fGP (rv mem j))) - (1000 * (mem (3 * j) 0)))), (0, .ref (ad (3 * j)))]) E dX2_leastByGround_55 rfl (by decide) rfl ?_
  refine z_iload_n E dX2_leastByGround_56 rfl 1 rfl ?_
  refine z_if_ge (tgt := 70) E dX2_leastByGround_57 (by decide) (fun c57 => ?_) (fun c57 => ?_)
  · skip
    refine z_sipush (v := -1000) E dX2_leastByGround_70 (by decide) ?_
    exact z_iretM E hr hlocks (mem) rfl ⟨(if_pos c57).symm, rfl⟩ (Nat.le_of_ble_eq_true rfl) (Nat.le_of_ble_eq_true rfl) dX2_leastByGround_73
  · skip
    refine z_iload_n E dX2_leastByGround_60 rfl 0 rfl ?_
    refine z_iload_n E dX2_leastByGround_61 rfl 1 rfl ?_
    refine z_ineg E dX2_leastByGround_62 ?_
    refine z_callSi E hZ (k_floorDiv l D (cK cI cR cS cL) (cw ad cI cR cS mem) (((10 * (mem (3 * j) 1)) * (((fGP (rv mem j)) * (fLoad (rv mem j))) + (100 * (mem (3 * j) 5)))) - (100 * (fMoment (rv mem j)))) (-(((10 * (mem (3 * j) 1)) * (fGP (rv mem j))) - (1000 * (mem (3 * j) 0)))) (zneg0 c57)) gX2_leastByGround_J9_floorDiv_7cf53 (n := 2) rfl rfl rfl (by decide +kernel) rfl ⟨Nat.le_of_ble_eq_true rfl, Nat.le_of_ble_eq_true rfl⟩ (As := [.int (((10 * (mem (3 * j) 1)) * (((fGP (rv mem j)) * (fLoad (rv mem j))) + (100 * (mem (3 * j) 5)))) - (100 * (fMoment (rv mem j)))), .int (-(((10 * (mem (3 * j) 1)) * (fGP (rv mem j))) - (1000 * (mem (3 * j) 0))))]) (rest := []) rfl (Nat.le_of_ble_eq_true rfl) ⟨Nat.le_of_ble_eq_true rfl, Nat.le_of_ble_eq_true rfl⟩ dX2_leastByGround_63 (fun r u hp => ?_)
    rw [hp]
    refine z_ineg E dX2_leastByGround_66 ?_
    refine z_goto (tgt := 73) E dX2_leastByGround_67 (by decide) ?_
    exact z_iretM E hr hlocks (mem) rfl ⟨(if_neg c57).symm, rfl⟩ (Nat.le_of_ble_eq_true rfl) (Nat.le_of_ble_eq_true rfl) dX2_leastByGround_73
set_option maxHeartbeats 1000000 in
set_option maxRecDepth 100000 in
theorem k_leastForce (l : Launch) (D : va_G) (ad : Nat → Nat) (cI cR cS cL : ClassId) (mem : zM) {j : Nat} (hj : j < 29) : zMi l yX2_leastForce wsX2_leastForce ({ frames := 2, cells := 0, slots := 0, locals := 44 }) D (cK cI cR cS cL) [.ref (ad (3 * j))] (cw ad cI cR cS mem) (fun r u => r = fLeast (rv mem j) ∧ u = mem) (cw ad cI cR cS) 0 0 := by
  refine zMiM.of (cc := cX2_leastForce) (maxL := 1) (ret := (some .int)) (by decide +kernel) rfl (lv0 := [(0, .ref (ad (3 * j)))]) (Nat.le_of_ble_eq_true rfl) rfl ?_
  intro p e s m args below meth c E hZ hr hlocks hnm
  refine z_sipush (v := -1000) E dX2_leastForce_0 (by decide) ?_
  refine z_aload_n E dX2_leastForce_3 rfl 0 rfl ?_
  refine z_callVi E hZ (k_leastByWall l D ad cI cR cS cL mem hj) gX2_leastForce_X2_leastByWall (n := 0) rfl rfl rfl (by decide +kernel) rfl ⟨Nat.le_of_ble_eq_true rfl, Nat.le_of_ble_eq_true rfl⟩  (C := RX2) rfl (3 * j) (cw_rig hj) (As := []) (rest := [.int (-1000)]) rfl (Nat.le_of_ble_eq_true rfl) ⟨Nat.le_of_ble_eq_true rfl, Nat.le_of_ble_eq_true rfl⟩ dX2_leastForce_4 (fun r u hp => ?_)
  rw [hp.1, hp.2]
  refine z_aload_n E dX2_leastForce_7 rfl 0 rfl ?_
  refine z_callVi E hZ (k_leastByGround l D ad cI cR cS cL mem hj) gX2_leastForce_X2_leastByGround (n := 0) rfl rfl rfl (by decide +kernel) rfl ⟨Nat.le_of_ble_eq_true rfl, Nat.le_of_ble_eq_true rfl⟩  (C := RX2) rfl (3 * j) (cw_rig hj) (As := []) (rest := [.int (fLBW (rv mem j)), .int (-1000)]) rfl (Nat.le_of_ble_eq_true rfl) ⟨Nat.le_of_ble_eq_true rfl, Nat.le_of_ble_eq_true rfl⟩ dX2_leastForce_8 (fun r u hp => ?_)
  rw [hp.1, hp.2]
  refine z_mmax E (List.mem_of_getElem? (i := 1) (by decide +kernel)) (List.mem_of_getElem? (i := 2) (by decide +kernel)) (List.mem_of_getElem? (i := 3) (by decide +kernel)) (List.mem_of_getElem? (i := 4) (by decide +kernel)) (Nat.le_of_ble_eq_true rfl) (Nat.le_of_ble_eq_true rfl) (Nat.le_of_ble_eq_true rfl) (Nat.le_of_ble_eq_true rfl) dX2_leastForce_11 ?_
  refine z_mmax E (List.mem_of_getElem? (i := 1) (by decide +kernel)) (List.mem_of_getElem? (i := 2) (by decide +kernel)) (List.mem_of_getElem? (i := 3) (by decide +kernel)) (List.mem_of_getElem? (i := 4) (by decide +kernel)) (Nat.le_of_ble_eq_true rfl) (Nat.le_of_ble_eq_true rfl) (Nat.le_of_ble_eq_true rfl) (Nat.le_of_ble_eq_true rfl) dX2_leastForce_14 ?_
  exact z_iretM E hr hlocks (mem) rfl ⟨rfl, rfl⟩ (Nat.le_of_ble_eq_true rfl) (Nat.le_of_ble_eq_true rfl) dX2_leastForce_17
set_option maxHeartbeats 1000000 in
set_option maxRecDepth 100000 in
theorem k_stands (l : Launch) (D : va_G) (ad : Nat → Nat) (cI cR cS cL : ClassId) (mem : zM) {j : Nat} (hj : j < 29) : zMi l yX2_stands wsX2_stands ({ frames := 3, cells := 0, slots := 0, locals := 64 }) D (cK cI cR cS cL) [.ref (ad (3 * j))] (cw ad cI cR cS mem) (fun r u => r = fStands (rv mem j) ∧ u = mem) (cw ad cI cR cS) 0 0 := by
  refine zMiM.of (cc := cX2_stands) (maxL := 1) (ret := (some .boolean)) (by decide +kernel) rfl (lv0 := [(0, .ref (ad (3 * j)))]) (Nat.le_of_ble_eq_true rfl) rfl ?_
  intro p e s m args below meth c E hZ hr hlocks hnm
  refine z_aload_n E dX2_stands_0 rfl 0 rfl ?_
  refine z_callVi E hZ (k_leastForce l D ad cI cR cS cL mem hj) gX2_stands_X2_leastForce (n := 0) rfl rfl rfl (by decide +kernel) rfl ⟨Nat.le_of_ble_eq_true rfl, Nat.le_of_ble_eq_true rfl⟩  (C := RX2) rfl (3 * j) (cw_rig hj) (As := []) (rest := []) rfl (Nat.le_of_ble_eq_true rfl) ⟨Nat.le_of_ble_eq_true rfl, Nat.le_of_ble_eq_true rfl⟩ dX2_stands_1 (fun r u hp => ?_)
  rw [hp.1, hp.2]
  refine z_aload_n E dX2_stands_4 rfl 0 rfl ?_
  refine z_callVi E hZ (k_greatestForce l D ad cI cR cS cL mem hj) gX2_stands_X2_greatestForce (n := 0) rfl rfl rfl (by decide +kernel) rfl ⟨Nat.le_of_ble_eq_true rfl, Nat.le_of_ble_eq_true rfl⟩  (C := RX2) rfl (3 * j) (cw_rig hj) (As := []) (rest := [.int (fLeast (rv mem j))]) rfl (Nat.le_of_ble_eq_true rfl) ⟨Nat.le_of_ble_eq_true rfl, Nat.le_of_ble_eq_true rfl⟩ dX2_stands_5 (fun r u hp => ?_)
  rw [hp.1, hp.2]
  refine z_icmp_gt (tgt := 15) E dX2_stands_8 (by decide) (fun c8 => ?_) (fun c8 => ?_)
  · skip
    refine z_iconst (v := 0) E dX2_stands_15 (by decide) ?_
    exact z_izretM E hr hlocks (mem) rfl rfl ⟨(if_pos c8).symm, rfl⟩ (Nat.le_of_ble_eq_true rfl) (Nat.le_of_ble_eq_true rfl) dX2_stands_16
  · skip
    refine z_iconst (v := 1) E dX2_stands_11 (by decide) ?_
    refine z_goto (tgt := 16) E dX2_stands_12 (by decide) ?_
    exact z_izretM E hr hlocks (mem) rfl rfl ⟨(if_neg c8).symm, rfl⟩ (Nat.le_of_ble_eq_true rfl) (Nat.le_of_ble_eq_true rfl) dX2_stands_16
set_option maxHeartbeats 1000000 in
set_option maxRecDepth 100000 in
theorem k_forces (l : Launch) (D : va_G) (ad : Nat → Nat) (cI cR cS cL : ClassId) (mem : zM) {j : Nat} (hj : j < 29) : zMi l yX2_forces wsX2_forces ({ frames := 3, cells := 0, slots := 0, locals := 64 }) D (cK cI cR cS cL) [.ref (ad (3 * j))] (cw ad cI cR cS mem) (fun r u => r = fForces (rv mem j) ∧ u = mem) (cw ad cI cR cS) 0 0 := by
  refine zMiM.of (cc := cX2_forces) (maxL := 1) (ret := (some .int)) (by decide +kernel) rfl (lv0 := [(0, .ref (ad (3 * j)))]) (Nat.le_of_ble_eq_true rfl) rfl ?_
  intro p e s m args below meth c E hZ hr hlocks hnm
  refine z_iconst (v := 0) E dX2_forces_0 (by decide) ?_
  refine z_aload_n E dX2_forces_1 rfl 0 rfl ?_
  refine z_callVi E hZ (k_greatestForce l D ad cI cR cS cL mem hj) gX2_forces_X2_greatestForce (n := 0) rfl rfl rfl (by decide +kernel) rfl ⟨Nat.le_of_ble_eq_true rfl, Nat.le_of_ble_eq_true rfl⟩  (C := RX2) rfl (3 * j) (cw_rig hj) (As := []) (rest := [.int 0]) rfl (Nat.le_of_ble_eq_true rfl) ⟨Nat.le_of_ble_eq_true rfl, Nat.le_of_ble_eq_true rfl⟩ dX2_forces_2 (fun r u hp => ?_)
  rw [hp.1, hp.2]
  refine z_aload_n E dX2_forces_5 rfl 0 rfl ?_
  refine z_callVi E hZ (k_leastForce l D ad cI cR cS cL mem hj) gX2_forces_X2_leastForce (n := 0) rfl rfl rfl (by decide +kernel) rfl ⟨Nat.le_of_ble_eq_true rfl, Nat.le_of_ble_eq_true rfl⟩  (C := RX2) rfl (3 * j) (cw_rig hj) (As := []) (rest := [.int (fGreat (rv mem j)), .int 0]) rfl (Nat.le_of_ble_eq_true rfl) ⟨Nat.le_of_ble_eq_true rfl, Nat.le_of_ble_eq_true rfl⟩ dX2_forces_6 (fun r u hp => ?_)
  rw [hp.1, hp.2]
  refine z_isub E dX2_forces_9 ?_
  refine z_iconst (v := 1) E dX2_forces_10 (by decide) ?_
  refine z_iadd E dX2_forces_11 ?_
  refine z_mmax E (List.mem_of_getElem? (i := 1) (by decide +kernel)) (List.mem_of_getElem? (i := 2) (by decide +kernel)) (List.mem_of_getElem? (i := 3) (by decide +kernel)) (List.mem_of_getElem? (i := 4) (by decide +kernel)) (Nat.le_of_ble_eq_true rfl) (Nat.le_of_ble_eq_true rfl) (Nat.le_of_ble_eq_true rfl) (Nat.le_of_ble_eq_true rfl) dX2_forces_12 ?_
  exact z_iretM E hr hlocks (mem) rfl ⟨rfl, rfl⟩ (Nat.le_of_ble_eq_true rfl) (Nat.le_of_ble_eq_true rfl) dX2_forces_15
set_option maxHeartbeats 1000000 in
set_option maxRecDepth 100000 in
theorem k_nearestForce (l : Launch) (D : va_G) (ad : Nat → Nat) (cI cR cS cL : ClassId) (mem : zM) {j : Nat} (hj : j < 29) : zMi l yX2_nearestForce wsX2_nearestForce ({ frames := 3, cells := 0, slots := 0, locals := 64 }) D (cK cI cR cS cL) [.ref (ad (3 * j))] (cw ad cI cR cS mem) (fun r u => r = fNearest (rv mem j) ∧ u = mem) (cw ad cI cR cS) 0 0 := by
  refine zMiM.of (cc := cX2_nearestForce) (maxL := 1) (ret := (some .int)) (by decide +kernel) rfl (lv0 := [(0, .ref (ad (3 * j)))]) (Nat.le_of_ble_eq_true rfl) rfl ?_
  intro p e s m args below meth c E hZ hr hlocks hnm
  refine z_aload_n E dX2_nearestForce_0 rfl 0 rfl ?_
  refine z_callVi E hZ (k_leastForce l D ad cI cR cS cL mem hj) gX2_nearestForce_X2_leastForce (n := 0) rfl rfl rfl (by decide +kernel) rfl ⟨Nat.le_of_ble_eq_true rfl, Nat.le_of_ble_eq_true rfl⟩  (C := RX2) rfl (3 * j) (cw_rig hj) (As := []) (rest := []) rfl (Nat.le_of_ble_eq_true rfl) ⟨Nat.le_of_ble_eq_true rfl, Nat.le_of_ble_eq_true rfl⟩ dX2_nearestForce_1 (fun r u hp => ?_)
  rw [hp.1, hp.2]
  refine z_iconst (v := 0) E dX2_nearestForce_4 (by decide) ?_
  refine z_aload_n E dX2_nearestForce_5 rfl 0 rfl ?_
  refine z_callVi E hZ (k_greatestForce l D ad cI cR cS cL mem hj) gX2_nearestForce_X2_greatestForce (n := 0) rfl rfl rfl (by decide +kernel) rfl ⟨Nat.le_of_ble_eq_true rfl, Nat.le_of_ble_eq_true rfl⟩  (C := RX2) rfl (3 * j) (cw_rig hj) (As := []) (rest := [.int 0, .int (fLeast (rv mem j))]) rfl (Nat.le_of_ble_eq_true rfl) ⟨Nat.le_of_ble_eq_true rfl, Nat.le_of_ble_eq_true rfl⟩ dX2_nearestForce_6 (fun r u hp => ?_)
  rw [hp.1, hp.2]
  refine z_mmin E (List.mem_of_getElem? (i := 1) (by decide +kernel)) (List.mem_of_getElem? (i := 2) (by decide +kernel)) (List.mem_of_getElem? (i := 3) (by decide +kernel)) (List.mem_of_getElem? (i := 4) (by decide +kernel)) (Nat.le_of_ble_eq_true rfl) (Nat.le_of_ble_eq_true rfl) (Nat.le_of_ble_eq_true rfl) (Nat.le_of_ble_eq_true rfl) dX2_nearestForce_9 ?_
  refine z_mmax E (List.mem_of_getElem? (i := 5) (by decide +kernel)) (List.mem_of_getElem? (i := 6) (by decide +kernel)) (List.mem_of_getElem? (i := 3) (by decide +kernel)) (List.mem_of_getElem? (i := 7) (by decide +kernel)) (Nat.le_of_ble_eq_true rfl) (Nat.le_of_ble_eq_true rfl) (Nat.le_of_ble_eq_true rfl) (Nat.le_of_ble_eq_true rfl) dX2_nearestForce_12 ?_
  exact z_iretM E hr hlocks (mem) rfl ⟨rfl, rfl⟩ (Nat.le_of_ble_eq_true rfl) (Nat.le_of_ble_eq_true rfl) dX2_nearestForce_15
set_option maxHeartbeats 1000000 in
set_option maxRecDepth 100000 in
theorem k_whatGivesWay (l : Launch) (D : va_G) (ad : Nat → Nat) (cI cR cS cL : ClassId) (mem : zM) {j : Nat} (hj : j < 29) (f : Int32) : zMi l yX2_whatGivesWay wsX2_whatGivesWay ({ frames := 2, cells := 0, slots := 0, locals := 43 }) D (cK cI cR cS cL) [.ref (ad (3 * j)), .int f] (cw ad cI cR cS mem) (fun r u => r = fWGW (rv mem j) f ∧ u = mem) (cw ad cI cR cS) 0 0 := by
  refine zMiM.of (cc := cX2_whatGivesWay) (maxL := 5) (ret := (some .int)) (by decide +kernel) rfl (lv0 := [(0, .ref (ad (3 * j))), (1, .int f)]) (Nat.le_of_ble_eq_true rfl) rfl ?_
  intro p e s m args below meth c E hZ hr hlocks hnm
  refine z_aload_n E dX2_whatGivesWay_0 rfl 0 rfl ?_
  refine z_iload_n E dX2_whatGivesWay_1 rfl 1 rfl ?_
  refine z_callVi E hZ (k_push l D ad cI cR cS cL mem hj f) gX2_whatGivesWay_X2_push (n := 1) rfl rfl rfl (by decide +kernel) rfl ⟨Nat.le_of_ble_eq_true rfl, Nat.le_of_ble_eq_true rfl⟩  (C := RX2) rfl (3 * j) (cw_rig hj) (As := [.int f]) (rest := []) rfl (Nat.le_of_ble_eq_true rfl) ⟨Nat.le_of_ble_eq_true rfl, Nat.le_of_ble_eq_true rfl⟩ dX2_whatGivesWay_2 (fun r u hp => ?_)
  rw [hp.1, hp.2]
  refine z_istore_n (lv' := [(2, .int (fPush (rv mem j) f)), (0, .ref (ad (3 * j))), (1, .int f)]) E dX2_whatGivesWay_5 rfl (by decide) rfl ?_
  refine z_aload_n E dX2_whatGivesWay_6 rfl 1 rfl ?_
  refine z_callVi E hZ (k_load l D ad cI cR cS cL mem hj) gX2_whatGivesWay_X2_load (n := 0) rfl rfl rfl (by decide +kernel) rfl ⟨Nat.le_of_ble_eq_true rfl, Nat.le_of_ble_eq_true rfl⟩  (C := RX2) rfl (3 * j) (cw_rig hj) (As := []) (rest := []) rfl (Nat.le_of_ble_eq_true rfl) ⟨Nat.le_of_ble_eq_true rfl, Nat.le_of_ble_eq_true rfl⟩ dX2_whatGivesWay_7 (fun r u hp => ?_)
  rw [hp.1, hp.2]
  refine z_istore_n (lv' := [(3, .int (fLoad (rv mem j))), (2, .int (fPush (rv mem j) f)), (0, .ref (ad (3 * j))), (1, .int f)]) E dX2_whatGivesWay_10 rfl (by decide) rfl ?_
  refine z_iload_n E dX2_whatGivesWay_11 rfl 1 rfl ?_
  refine z_join (fun v20 => v20 = fWGW1 (rv mem j) f) (pc2 := 20) (c2 := 0) (s2 := 0) (lv2 := (fun _ => [(3, .int (fLoad (rv mem j))), (2, .int (fPush (rv mem j) f)), (0, .ref (ad (3 * j))), (1, .int f)])) (st2 := (fun v20 => [.int v20])) (fun v20 hv20 => ?_) (fun J20 => ?_)
  · skip
    refine z_istore (lv' := [(4, .int v20), (3, .int (fLoad (rv mem j))), (2, .int (fPush (rv mem j) f)), (0, .ref (ad (3 * j))), (1, .int f)]) E dX2_whatGivesWay_20 (by decide) rfl ?_
    refine z_join (fun v62 => v62 = fWGW2 (rv mem j) f) (pc2 := 62) (c2 := 0) (s2 := 0) (lv2 := (fun v62 => [(4, .int v62), (3, .int (fLoad (rv mem j))), (2, .int (fPush (rv mem j) f)), (0, .ref (ad (3 * j))), (1, .int f)])) (st2 := (fun _ => [])) (fun v62 hv62 => ?_) (fun J62 => ?_)
    · skip
      refine z_join (fun v73 => v73 = fWGW3 (rv mem j) f) (pc2 := 73) (c2 := 0) (s2 := 0) (lv2 := (fun v73 => [(4, .int v73), (3, .int (fLoad (rv mem j))), (2, .int (fPush (rv mem j) f)), (0, .ref (ad (3 * j))), (1, .int f)])) (st2 := (fun _ => [])) (fun v73 hv73 => ?_) (fun J73 => ?_)
      · skip
        refine z_join (fun v111 => v111 = fWGW (rv mem j) f) (pc2 := 111) (c2 := 0) (s2 := 0) (lv2 := (fun v111 => [(4, .int v111), (3, .int (fLoad (rv mem j))), (2, .int (fPush (rv mem j) f)), (0, .ref (ad (3 * j))), (1, .int f)])) (st2 := (fun _ => [])) (fun v111 hv111 => ?_) (fun J111 => ?_)
        · skip
          refine z_iload E dX2_whatGivesWay_111 0 rfl ?_
          exact z_iretM E hr hlocks (mem) rfl ⟨hv111, rfl⟩ (Nat.le_of_ble_eq_true rfl) (Nat.le_of_ble_eq_true rfl) dX2_whatGivesWay_113
        · skip
          refine z_bipush (v := 100) E dX2_whatGivesWay_73 (by decide) ?_
          refine z_iload_n E dX2_whatGivesWay_75 rfl 2 rfl ?_
          refine z_imul E dX2_whatGivesWay_76 ?_
          refine z_bipush (v := 10) E dX2_whatGivesWay_77 (by decide) ?_
          refine z_aload_n E dX2_whatGivesWay_79 rfl 3 rfl ?_
          refine z_get E (3 * j) (cw_rig hj) (C := RX2) (T := TX2) (N := 10) rfl (fun _ h => List.mem_cons_of_mem _ (List.mem_append_right _ h)) 1 (by decide) (List.mem_of_getElem? (i := 1) (by decide +kernel)) rfl (v := .int (mem (3 * j) 1)) rfl dX2_whatGivesWay_80 ?_
          refine z_imul E dX2_whatGivesWay_83 ?_
          refine z_aload_n E dX2_whatGivesWay_84 rfl 3 rfl ?_
          refine z_callVi E hZ (k_groundPercents l D ad cI cR cS cL mem hj) gX2_whatGivesWay_X2_groundPercents (n := 0) rfl rfl rfl (by decide +kernel) rfl ⟨Nat.le_of_ble_eq_true rfl, Nat.le_of_ble_eq_true rfl⟩  (C := RX2) rfl (3 * j) (cw_rig hj) (As := []) (rest := [.int (10 * (mem (3 * j) 1)), .int (100 * (fPush (rv mem j) f))]) rfl (Nat.le_of_ble_eq_true rfl) ⟨Nat.le_of_ble_eq_true rfl, Nat.le_of_ble_eq_true rfl⟩ dX2_whatGivesWay_85 (fun r u hp => ?_)
          rw [hp.1, hp.2]
          refine z_iload_n E dX2_whatGivesWay_88 rfl 1 rfl ?_
          refine z_iload_n E dX2_whatGivesWay_89 rfl 4 rfl ?_
          refine z_isub E dX2_whatGivesWay_90 ?_
          refine z_imul E dX2_whatGivesWay_91 ?_
          refine z_bipush (v := 100) E dX2_whatGivesWay_92 (by decide) ?_
          refine z_aload_n E dX2_whatGivesWay_94 rfl 3 rfl ?_
          refine z_get E (3 * j) (cw_rig hj) (C := RX2) (T := TX2) (N := 10) rfl (fun _ h => List.mem_cons_of_mem _ (List.mem_append_right _ h)) 5 (by decide) (List.mem_of_getElem? (i := 7) (by decide +kernel)) rfl (v := .int (mem (3 * j) 5)) rfl dX2_whatGivesWay_95 ?_
          refine z_imul E dX2_whatGivesWay_98 ?_
          refine z_iadd E dX2_whatGivesWay_99 ?_
          refine z_imul E dX2_whatGivesWay_100 ?_
          refine z_icmp_le (tgt := 111) E dX2_whatGivesWay_101 (by decide) (fun c101 => ?_) (fun c101 => ?_)
          · skip
            exact J111 _ (by rw [hv73]; exact (if_pos c101).symm)
          · skip
            refine z_iload E dX2_whatGivesWay_104 0 rfl ?_
            refine z_bipush (v := 8) E dX2_whatGivesWay_106 (by decide) ?_
            refine z_ior E dX2_whatGivesWay_108 ?_
            refine z_istore (lv' := [(4, .int (v73 ||| 8)), (3, .int (fLoad (rv mem j))), (2, .int (fPush (rv mem j) f)), (0, .ref (ad (3 * j))), (1, .int f)]) E dX2_whatGivesWay_109 (by decide) rfl ?_
            exact J111 _ (by rw [hv73]; exact (if_neg c101).symm)
      · skip
        refine z_iload_n E dX2_whatGivesWay_62 rfl 4 rfl ?_
        refine z_iload_n E dX2_whatGivesWay_63 rfl 1 rfl ?_
        refine z_icmp_le (tgt := 73) E dX2_whatGivesWay_64 (by decide) (fun c64 => ?_) (fun c64 => ?_)
        · skip
          exact J73 _ (by rw [hv62]; exact (if_pos c64).symm)
        · skip
          refine z_iload E dX2_whatGivesWay_67 0 rfl ?_
          refine z_iconst (v := 4) E dX2_whatGivesWay_69 (by decide) ?_
          refine z_ior E dX2_whatGivesWay_70 ?_
          refine z_istore (lv' := [(4, .int (v62 ||| 4)), (3, .int (fLoad (rv mem j))), (2, .int (fPush (rv mem j) f)), (0, .ref (ad (3 * j))), (1, .int f)]) E dX2_whatGivesWay_71 (by decide) rfl ?_
          exact J73 _ (by rw [hv62]; exact (if_neg c64).symm)
    · skip
      refine z_sipush (v := 1000) E dX2_whatGivesWay_22 (by decide) ?_
      refine z_aload_n E dX2_whatGivesWay_25 rfl 3 rfl ?_
      refine z_get E (3 * j) (cw_rig hj) (C := RX2) (T := TX2) (N := 10) rfl (fun _ h => List.mem_cons_of_mem _ (List.mem_append_right _ h)) 1 (by decide) (List.mem_of_getElem? (i := 1) (by decide +kernel)) rfl (v := .int (mem (3 * j) 1)) rfl dX2_whatGivesWay_26 ?_
      refine z_imul E dX2_whatGivesWay_29 ?_
      refine z_iload_n E dX2_whatGivesWay_30 rfl 4 rfl ?_
      refine z_mabs E (List.mem_of_getElem? (i := 2) (by decide +kernel)) (List.mem_of_getElem? (i := 3) (by decide +kernel)) (List.mem_of_getElem? (i := 4) (by decide +kernel)) (List.mem_of_getElem? (i := 5) (by decide +kernel)) (Nat.le_of_ble_eq_true rfl) (Nat.le_of_ble_eq_true rfl) (Nat.le_of_ble_eq_true rfl) (Nat.le_of_ble_eq_true rfl) dX2_whatGivesWay_31 ?_
      refine z_imul E dX2_whatGivesWay_34 ?_
      refine z_aload_n E dX2_whatGivesWay_35 rfl 3 rfl ?_
      refine z_callVi E hZ (k_wallPercents l D ad cI cR cS cL mem hj) gX2_whatGivesWay_X2_wallPercents (n := 0) rfl rfl rfl (by decide +kernel) rfl ⟨Nat.le_of_ble_eq_true rfl, Nat.le_of_ble_eq_true rfl⟩  (C := RX2) rfl (3 * j) (cw_rig hj) (As := []) (rest := [.int ((1000 * (mem (3 * j) 1)) * (if 0 ≤ f then f else 0 - f))]) rfl (Nat.le_of_ble_eq_true rfl) ⟨Nat.le_of_ble_eq_true rfl, Nat.le_of_ble_eq_true rfl⟩ dX2_whatGivesWay_36 (fun r u hp => ?_)
      rw [hp.1, hp.2]
      refine z_iload_n E dX2_whatGivesWay_39 rfl 2 rfl ?_
      refine z_imul E dX2_whatGivesWay_40 ?_
      refine z_icmp_gt (tgt := 56) E dX2_whatGivesWay_41 (by decide) (fun c41 => ?_) (fun c41 => ?_)
      · skip
        refine z_iload E dX2_whatGivesWay_56 0 rfl ?_
        refine z_iconst (v := 2) E dX2_whatGivesWay_58 (by decide) ?_
        refine z_ior E dX2_whatGivesWay_59 ?_
        refine z_istore (lv' := [(4, .int (v20 ||| 2)), (3, .int (fLoad (rv mem j))), (2, .int (fPush (rv mem j) f)), (0, .ref (ad (3 * j))), (1, .int f)]) E dX2_whatGivesWay_60 (by decide) rfl ?_
        exact J62 _ (by rw [hv20]; exact (if_pos (fWallBad_1 (R := rv mem j) c41)).symm)
      · skip
        refine z_aload_n E dX2_whatGivesWay_44 rfl 3 rfl ?_
        refine z_get E (3 * j) (cw_rig hj) (C := RX2) (T := TX2) (N := 10) rfl (fun _ h => List.mem_cons_of_mem _ (List.mem_append_right _ h)) 4 (by decide) (List.mem_of_getElem? (i := 6) (by decide +kernel)) rfl (v := .int (mem (3 * j) 4)) rfl dX2_whatGivesWay_45 ?_
        refine z_iconst (v := 3) E dX2_whatGivesWay_48 (by decide) ?_
        refine z_icmp_ne (tgt := 62) E dX2_whatGivesWay_49 (by decide) (fun c49 => ?_) (fun c49 => ?_)
        · skip
          exact J62 _ (by rw [hv20]; exact (if_neg (fWallBad_3 (R := rv mem j) c41 c49)).symm)
        · skip
          refine z_iload_n E dX2_whatGivesWay_52 rfl 4 rfl ?_
          refine z_if_ge (tgt := 62) E dX2_whatGivesWay_53 (by decide) (fun c53 => ?_) (fun c53 => ?_)
          · skip
            exact J62 _ (by rw [hv20]; exact (if_neg (fWallBad_4 (R := rv mem j) c41 c53)).symm)
          · skip
            refine z_iload E dX2_whatGivesWay_56 0 rfl ?_
            refine z_iconst (v := 2) E dX2_whatGivesWay_58 (by decide) ?_
            refine z_ior E dX2_whatGivesWay_59 ?_
            refine z_istore (lv' := [(4, .int (v20 ||| 2)), (3, .int (fLoad (rv mem j))), (2, .int (fPush (rv mem j) f)), (0, .ref (ad (3 * j))), (1, .int f)]) E dX2_whatGivesWay_60 (by decide) rfl ?_
            exact J62 _ (by rw [hv20]; exact (if_pos (fWallBad_2 (R := rv mem j) c49 c53)).symm)
  · skip
    refine z_if_ge (tgt := 19) E dX2_whatGivesWay_12 (by decide) (fun c12 => ?_) (fun c12 => ?_)
    · skip
      refine z_iconst (v := 0) E dX2_whatGivesWay_19 (by decide) ?_
      exact J20 _ ((if_pos c12).symm)
    · skip
      refine z_iconst (v := 1) E dX2_whatGivesWay_15 (by decide) ?_
      refine z_goto (tgt := 20) E dX2_whatGivesWay_16 (by decide) ?_
      exact J20 _ ((if_neg c12).symm)
set_option maxHeartbeats 1000000 in
set_option maxRecDepth 100000 in
theorem k_add (l : Launch) (D : va_G) (ad : Nat → Nat) (cI cR cS cL : ClassId) (mem : zM) {j : Nat} (hj : j < 29) (w : Int32) : zMv l yX2_add wsX2_add ({ frames := 0, cells := 0, slots := 0, locals := 0 }) D (cK cI cR cS cL) [.ref (ad (3 * j)), .int w] (cw ad cI cR cS mem) (fun u => u = sAdd mem j w) (cw ad cI cR cS) 0 0 := by
  refine zMvM.of (cc := cX2_add) (maxL := 2) (ret := none) (by decide +kernel) rfl (lv0 := [(0, .ref (ad (3 * j))), (1, .int w)]) (Nat.le_of_ble_eq_true rfl) rfl ?_
  intro p e s m args below meth c E hZ hr hlocks hnm
  refine z_aload_n E dX2_add_0 rfl 0 rfl ?_
  refine z_get E (3 * j) (cw_rig hj) (C := RX2) (T := TX2) (N := 10) rfl (fun _ h => List.mem_cons_of_mem _ (List.mem_append_right _ h)) 7 (by decide) (List.mem_of_getElem? (i := 1) (by decide +kernel)) rfl (v := .int (mem (3 * j) 7)) rfl dX2_add_1 ?_
  refine z_if_lt (tgt := 45) E dX2_add_4 (by decide) (fun c4 => ?_) (fun c4 => ?_)
  · skip
    exact z_vretM E hr hlocks (mem) rfl ((if_pos c4).symm) (Nat.le_of_ble_eq_true rfl) (Nat.le_of_ble_eq_true rfl) dX2_add_45
  · skip
    refine z_aload_n E dX2_add_7 rfl 0 rfl ?_
    refine z_get E (3 * j) (cw_rig hj) (C := RX2) (T := TX2) (N := 10) rfl (fun _ h => List.mem_cons_of_mem _ (List.mem_append_right _ h)) 7 (by decide) (List.mem_of_getElem? (i := 1) (by decide +kernel)) rfl (v := .int (mem (3 * j) 7)) rfl dX2_add_8 ?_
    refine z_iconst (v := 3) E dX2_add_11 (by decide) ?_
    refine z_icmp_ge (tgt := 45) E dX2_add_12 (by decide) (fun c12 => ?_) (fun c12 => ?_)
    · skip
      exact z_vretM E hr hlocks (mem) rfl (((if_neg c4).trans (if_pos c12)).symm) (Nat.le_of_ble_eq_true rfl) (Nat.le_of_ble_eq_true rfl) dX2_add_45
    · skip
      refine z_aload_n E dX2_add_15 rfl 0 rfl ?_
      refine z_get E (3 * j) (cw_rig hj) (C := RX2) (T := TX2) (N := 10) rfl (fun _ h => List.mem_cons_of_mem _ (List.mem_append_right _ h)) 8 (by decide) (List.mem_of_getElem? (i := 2) (by decide +kernel)) rfl (v := .ref (ad (3 * j + 1))) rfl dX2_add_16 ?_
      refine z_aload_n E dX2_add_19 rfl 0 rfl ?_
      refine z_get E (3 * j) (cw_rig hj) (C := RX2) (T := TX2) (N := 10) rfl (fun _ h => List.mem_cons_of_mem _ (List.mem_append_right _ h)) 7 (by decide) (List.mem_of_getElem? (i := 1) (by decide +kernel)) rfl (v := .int (mem (3 * j) 7)) rfl dX2_add_20 ?_
      refine z_iload_n E dX2_add_23 rfl 1 rfl ?_
      refine z_iast E (3 * j + 1) 0 (cw_wt hj) rfl (zvin3 c4 c12) (ws' := cw ad cI cR cS (mset mem (3 * j + 1) ((mem (3 * j) 7).toNatClampNeg) w)) (cs_wt hj ((mem (3 * j) 7).toNatClampNeg) w) dX2_add_24 ?_
      refine z_gm (fun m2 hm2 => ?_)
      have Fm2_0 : m2 (3 * j) = mem (3 * j) := by rw [hm2, mset_ne _ _ _ (by omega)]
      refine z_aload_n E dX2_add_25 rfl 0 rfl ?_
      refine z_get E (3 * j) (cw_rig hj) (C := RX2) (T := TX2) (N := 10) rfl (fun _ h => List.mem_cons_of_mem _ (List.mem_append_right _ h)) 9 (by decide) (List.mem_of_getElem? (i := 3) (by decide +kernel)) rfl (v := .ref (ad (3 * j + 2))) rfl dX2_add_26 ?_
      refine z_aload_n E dX2_add_29 rfl 0 rfl ?_
      refine z_get E (3 * j) (cw_rig hj) (C := RX2) (T := TX2) (N := 10) rfl (fun _ h => List.mem_cons_of_mem _ (List.mem_append_right _ h)) 7 (by decide) (List.mem_of_getElem? (i := 1) (by decide +kernel)) rfl (v := .int (mem (3 * j) 7)) (congrArg (fun z : Nat → Int32 => some (Value.int (z 7))) Fm2_0) dX2_add_30 ?_
      refine z_iconst (v := 0) E dX2_add_33 (by decide) ?_
      refine z_iast E (3 * j + 2) 0 (cw_st hj) rfl (zvin3 c4 c12) (ws' := cw ad cI cR cS (mset m2 (3 * j + 2) ((mem (3 * j) 7).toNatClampNeg) 0)) (cs_st hj ((mem (3 * j) 7).toNatClampNeg) 0) dX2_add_34 ?_
      refine z_gm (fun m3 hm3 => ?_)
      have Fm3_0 : m3 (3 * j) = mem (3 * j) := by rw [hm3, mset_ne _ _ _ (by omega)]; exact Fm2_0
      refine z_aload_n E dX2_add_35 rfl 0 rfl ?_
      refine z_dup E dX2_add_36 rfl ?_
      refine z_get E (3 * j) (cw_rig hj) (C := RX2) (T := TX2) (N := 10) rfl (fun _ h => List.mem_cons_of_mem _ (List.mem_append_right _ h)) 7 (by decide) (List.mem_of_getElem? (i := 1) (by decide +kernel)) rfl (v := .int (mem (3 * j) 7)) (congrArg (fun z : Nat → Int32 => some (Value.int (z 7))) Fm3_0) dX2_add_37 ?_
      refine z_iconst (v := 1) E dX2_add_40 (by decide) ?_
      refine z_iadd E dX2_add_41 ?_
      refine z_put E (3 * j) (cw_rig hj) (C := RX2) (T := TX2) (N := 10) rfl (fun _ h => List.mem_cons_of_mem _ (List.mem_append_right _ h)) tyX2 tyX2_ok nmX2 7 (by decide) (List.mem_of_getElem? (i := 1) (by decide +kernel)) rfl rfl rfl rfl (Nat.le_of_ble_eq_true rfl) (ws' := cw ad cI cR cS (mset m3 (3 * j) 7 ((mem (3 * j) 7) + 1))) (cs_rig hj 7 (by decide) rfl) dX2_add_42 ?_
      refine z_gm (fun m4 hm4 => ?_)
      exact z_vretM E hr hlocks (m4) rfl (by rw [hm4, hm3, hm2]; exact ((if_neg c4).trans (if_neg c12)).symm) (Nat.le_of_ble_eq_true rfl) (Nat.le_of_ble_eq_true rfl) dX2_add_45
/-- a person gone: those behind move up -/
def shiftR (f : Nat → Int32) (t : Nat) : Nat → Int32 := fun k => if k = 2 then 0 else if t ≤ k ∧ k < 2 then f (k + 1) else f k
def sRemove (mem : zM) (j : Nat) (q : Int32) : zM := if fBears (rv mem j) q = 0 then mem else fun i k => if i = 3 * j + 1 then shiftR (mem (3 * j + 1)) q.toNatClampNeg k else if i = 3 * j + 2 then shiftR (mem (3 * j + 2)) q.toNatClampNeg k else if i = 3 * j ∧ k = 7 then mem (3 * j) 7 - 1 else mem i k
def sRemoveAll (mem : zM) (j : Nat) : zM := fun i k => if (i = 3 * j + 1 ∨ i = 3 * j + 2) ∧ k < 3 then 0 else if i = 3 * j ∧ k = 7 then 0 else mem i k
def sCopy (mem : zM) (a b : Nat) : zM := fun i k => if i = 3 * a ∧ k < 8 then mem (3 * b) k else if i = 3 * a + 1 ∧ k < 3 then mem (3 * b + 1) k else if i = 3 * a + 2 ∧ k < 3 then mem (3 * b + 2) k else mem i k
theorem fBears_3 {R : Nat → Int32} {q : Int32} (h : ¬ fBears R q = 0) : q = 0 ∨ q = 1 ∨ q = 2 := by
  obtain ⟨k, hk, rfl⟩ := vp_in_of (fBears_in h) (by decide)
  rcases (show k = 0 ∨ k = 1 ∨ k = 2 by omega) with rfl | rfl | rfl
  · exact Or.inl rfl
  · exact Or.inr (Or.inl rfl)
  · exact Or.inr (Or.inr rfl)
theorem sRemove_0 {mem : zM} {j : Nat} (h : ¬ fBears (rv mem j) 0 = 0) : mset (mset (mset (mset (mset (mset (mset mem (3 * j + 1) 0 (mem (3 * j + 1) 1)) (3 * j + 2) 0 (mem (3 * j + 2) 1)) (3 * j + 1) 1 (mem (3 * j + 1) 2)) (3 * j + 2) 1 (mem (3 * j + 2) 2)) (3 * j + 1) 2 0) (3 * j + 2) 2 0) (3 * j) 7 (mem (3 * j) 7 - 1) = sRemove mem j 0 := by
  rw [sRemove, if_neg h]
  funext i k
  by_cases h1 : i = 3 * j + 1
  · subst h1
    rcases (show k = 0 ∨ k = 1 ∨ k = 2 ∨ 3 ≤ k by omega) with rfl | rfl | rfl | hk
    · simp [mset, shiftR]
    · simp [mset, shiftR]
    · simp [mset, shiftR]
    · simp [mset, shiftR, show k ≠ 0 by omega, show k ≠ 1 by omega, show k ≠ 2 by omega, show ¬ k < 2 by omega]
  · by_cases h2 : i = 3 * j + 2
    · subst h2
      rcases (show k = 0 ∨ k = 1 ∨ k = 2 ∨ 3 ≤ k by omega) with rfl | rfl | rfl | hk
      · simp [mset, shiftR]
      · simp [mset, shiftR]
      · simp [mset, shiftR]
      · simp [mset, shiftR, show k ≠ 0 by omega, show k ≠ 1 by omega, show k ≠ 2 by omega, show ¬ k < 2 by omega]
    · simp [mset, h1, h2]
theorem sRemove_1 {mem : zM} {j : Nat} (h : ¬ fBears (rv mem j) 1 = 0) : mset (mset (mset (mset (mset mem (3 * j + 1) 1 (mem (3 * j + 1) 2)) (3 * j + 2) 1 (mem (3 * j + 2) 2)) (3 * j + 1) 2 0) (3 * j + 2) 2 0) (3 * j) 7 (mem (3 * j) 7 - 1) = sRemove mem j 1 := by
  rw [sRemove, if_neg h]
  funext i k
  have e1 : (1 : Int32).toNatClampNeg = 1 := rfl
  by_cases h1 : i = 3 * j + 1
  · subst h1
    rcases (show k = 0 ∨ k = 1 ∨ k = 2 ∨ 3 ≤ k by omega) with rfl | rfl | rfl | hk
    · simp [mset, shiftR, e1]
    · simp [mset, shiftR, e1]
    · simp [mset, shiftR, e1]
    · simp [mset, shiftR, e1, show k ≠ 0 by omega, show k ≠ 1 by omega, show k ≠ 2 by omega, show ¬ k < 2 by omega]
  · by_cases h2 : i = 3 * j + 2
    · subst h2
      rcases (show k = 0 ∨ k = 1 ∨ k = 2 ∨ 3 ≤ k by omega) with rfl | rfl | rfl | hk
      · simp [mset, shiftR, e1]
      · simp [mset, shiftR, e1]
      · simp [mset, shiftR, e1]
      · simp [mset, shiftR, e1, show k ≠ 0 by omega, show k ≠ 1 by omega, show k ≠ 2 by omega, show ¬ k < 2 by omega]
    · simp [mset, h1, h2]
theorem sRemove_2 {mem : zM} {j : Nat} (h : ¬ fBears (rv mem j) 2 = 0) : mset (mset (mset mem (3 * j + 1) 2 0) (3 * j + 2) 2 0) (3 * j) 7 (mem (3 * j) 7 - 1) = sRemove mem j 2 := by
  rw [sRemove, if_neg h]
  funext i k
  have e1 : (2 : Int32).toNatClampNeg = 2 := rfl
  by_cases h1 : i = 3 * j + 1
  · subst h1
    by_cases hk : k = 2
    · simp [mset, shiftR, hk]
    · simp [mset, shiftR, e1, hk, show ¬ (2 ≤ k ∧ k < 2) by omega]
  · by_cases h2 : i = 3 * j + 2
    · subst h2
      by_cases hk : k = 2
      · simp [mset, shiftR, hk]
      · simp [mset, shiftR, e1, hk, show ¬ (2 ≤ k ∧ k < 2) by omega]
    · simp [mset, h1, h2]
theorem sRemoveAll_of {mem : zM} {j : Nat} : mset (mset (mset (mset (mset (mset (mset mem (3 * j + 1) 0 0) (3 * j + 2) 0 0) (3 * j + 1) 1 0) (3 * j + 2) 1 0) (3 * j + 1) 2 0) (3 * j + 2) 2 0) (3 * j) 7 0 = sRemoveAll mem j := by
  funext i k
  by_cases h1 : i = 3 * j + 1
  · subst h1
    rcases (show k = 0 ∨ k = 1 ∨ k = 2 ∨ 3 ≤ k by omega) with rfl | rfl | rfl | hk
    · simp [mset, sRemoveAll]
    · simp [mset, sRemoveAll]
    · simp [mset, sRemoveAll]
    · simp [mset, sRemoveAll, show k ≠ 0 by omega, show k ≠ 1 by omega, show k ≠ 2 by omega, show ¬ k < 3 by omega]
  · by_cases h2 : i = 3 * j + 2
    · subst h2
      rcases (show k = 0 ∨ k = 1 ∨ k = 2 ∨ 3 ≤ k by omega) with rfl | rfl | rfl | hk
      · simp [mset, sRemoveAll]
      · simp [mset, sRemoveAll]
      · simp [mset, sRemoveAll]
      · simp [mset, sRemoveAll, show k ≠ 0 by omega, show k ≠ 1 by omega, show k ≠ 2 by omega, show ¬ k < 3 by omega]
    · simp [mset, sRemoveAll, h1, h2]
theorem sCopy_of {mem : zM} {a b : Nat} (hne : a ≠ b) : mset (mset (mset (mset (mset (mset (mset (mset (mset (mset (mset (mset (mset (mset mem (3 * a) 0 (mem (3 * b) 0)) (3 * a) 1 (mem (3 * b) 1)) (3 * a) 2 (mem (3 * b) 2)) (3 * a) 3 (mem (3 * b) 3)) (3 * a) 4 (mem (3 * b) 4)) (3 * a) 5 (mem (3 * b) 5)) (3 * a) 6 (mem (3 * b) 6)) (3 * a) 7 (mem (3 * b) 7)) (3 * a + 1) 0 (mem (3 * b + 1) 0)) (3 * a + 2) 0 (mem (3 * b + 2) 0)) (3 * a + 1) 1 (mem (3 * b + 1) 1)) (3 * a + 2) 1 (mem (3 * b + 2) 1)) (3 * a + 1) 2 (mem (3 * b + 1) 2)) (3 * a + 2) 2 (mem (3 * b + 2) 2) = sCopy mem a b := by
  funext i k
  by_cases h0 : i = 3 * a
  · subst h0
    rcases (show k = 0 ∨ k = 1 ∨ k = 2 ∨ k = 3 ∨ k = 4 ∨ k = 5 ∨ k = 6 ∨ k = 7 ∨ 8 ≤ k by omega) with rfl | rfl | rfl | rfl | rfl | rfl | rfl | rfl | hk
    · simp [mset, sCopy]
    · simp [mset, sCopy]
    · simp [mset, sCopy]
    · simp [mset, sCopy]
    · simp [mset, sCopy]
    · simp [mset, sCopy]
    · simp [mset, sCopy]
    · simp [mset, sCopy]
    · simp [mset, sCopy, show k ≠ 0 by omega, show k ≠ 1 by omega, show k ≠ 2 by omega, show k ≠ 3 by omega, show k ≠ 4 by omega, show k ≠ 5 by omega, show k ≠ 6 by omega, show k ≠ 7 by omega, show ¬ k < 8 by omega]
  · by_cases h1 : i = 3 * a + 1
    · subst h1
      rcases (show k = 0 ∨ k = 1 ∨ k = 2 ∨ 3 ≤ k by omega) with rfl | rfl | rfl | hk
      · simp [mset, sCopy]
      · simp [mset, sCopy]
      · simp [mset, sCopy]
      · simp [mset, sCopy, show k ≠ 0 by omega, show k ≠ 1 by omega, show k ≠ 2 by omega, show ¬ k < 3 by omega]
    · by_cases h2 : i = 3 * a + 2
      · subst h2
        rcases (show k = 0 ∨ k = 1 ∨ k = 2 ∨ 3 ≤ k by omega) with rfl | rfl | rfl | hk
        · simp [mset, sCopy]
        · simp [mset, sCopy]
        · simp [mset, sCopy]
        · simp [mset, sCopy, show k ≠ 0 by omega, show k ≠ 1 by omega, show k ≠ 2 by omega, show ¬ k < 3 by omega]
      · simp [mset, sCopy, h0, h1, h2]
set_option maxHeartbeats 1000000 in
set_option maxRecDepth 100000 in
theorem k_remove (l : Launch) (D : va_G) (ad : Nat → Nat) (cI cR cS cL : ClassId) (mem : zM) {j : Nat} (hj : j < 29) (q : Int32) : zMv l yX2_remove wsX2_remove ({ frames := 1, cells := 0, slots := 0, locals := 21 }) D (cK cI cR cS cL) [.ref (ad (3 * j)), .int q] (cw ad cI cR cS mem) (fun u => u = sRemove mem j q) (cw ad cI cR cS) 0 0 := by
  refine zMvM.of (cc := cX2_remove) (maxL := 3) (ret := none) (by decide +kernel) rfl (lv0 := [(0, .ref (ad (3 * j))), (1, .int q)]) (Nat.le_of_ble_eq_true rfl) rfl ?_
  intro p e s m args below meth c E hZ hr hlocks hnm
  refine z_aload_n E dX2_remove_0 rfl 0 rfl ?_
  refine z_iload_n E dX2_remove_1 rfl 1 rfl ?_
  refine z_callVi E hZ (k_bears l D ad cI cR cS cL mem hj q) gX2_remove_X2_bears (n := 1) rfl rfl rfl (by decide +kernel) rfl ⟨Nat.le_of_ble_eq_true rfl, Nat.le_of_ble_eq_true rfl⟩  (C := RX2) rfl (3 * j) (cw_rig hj) (As := [.int q]) (rest := []) rfl (Nat.le_of_ble_eq_true rfl) ⟨Nat.le_of_ble_eq_true rfl, Nat.le_of_ble_eq_true rfl⟩ dX2_remove_2 (fun r u hp => ?_)
  rw [hp.1, hp.2]
  refine z_if_ne (tgt := 9) E dX2_remove_5 (by decide) (fun c5 => ?_) (fun c5 => ?_)
  · skip
    rcases fBears_3 c5 with hq | hq | hq
    · subst hq
      refine z_iload_n E dX2_remove_9 rfl 1 rfl ?_
      refine z_istore_n (lv' := [(2, .int 0), (0, .ref (ad (3 * j))), (1, .int 0)]) E dX2_remove_10 rfl (by decide) rfl ?_
      refine z_iload_n E dX2_remove_11 rfl 0 rfl ?_
      refine z_iconst (v := 2) E dX2_remove_12 (by decide) ?_
      refine z_icmp_ge_f (tgt := 50) E dX2_remove_13 (by decide) (by decide) ?_
      refine z_aload_n E dX2_remove_16 rfl 1 rfl ?_
      refine z_get E (3 * j) (cw_rig hj) (C := RX2) (T := TX2) (N := 10) rfl (fun _ h => List.mem_cons_of_mem _ (List.mem_append_right _ h)) 8 (by decide) (List.mem_of_getElem? (i := 1) (by decide +kernel)) rfl (v := .ref (ad (3 * j + 1))) rfl dX2_remove_17 ?_
      refine z_iload_n E dX2_remove_20 rfl 0 rfl ?_
      refine z_aload_n E dX2_remove_21 rfl 1 rfl ?_
      refine z_get E (3 * j) (cw_rig hj) (C := RX2) (T := TX2) (N := 10) rfl (fun _ h => List.mem_cons_of_mem _ (List.mem_append_right _ h)) 8 (by decide) (List.mem_of_getElem? (i := 1) (by decide +kernel)) rfl (v := .ref (ad (3 * j + 1))) rfl dX2_remove_22 ?_
      refine z_iload_n E dX2_remove_25 rfl 0 rfl ?_
      refine z_iconst (v := 1) E dX2_remove_26 (by decide) ?_
      refine z_iaddV (v := 1) E dX2_remove_27 (by decide) ?_
      refine z_iald E (3 * j + 1) 0 (cw_wt hj) rfl (zvin rfl) (v := mem (3 * j + 1) 1) rfl dX2_remove_28 ?_
      refine z_iast E (3 * j + 1) 0 (cw_wt hj) rfl (zvin rfl) (ws' := cw ad cI cR cS (mset mem (3 * j + 1) 0 (mem (3 * j + 1) 1))) (cs_wt hj 0 (mem (3 * j + 1) 1)) dX2_remove_29 ?_
      refine z_gm (fun m5 hm5 => ?_)
      refine z_aload_n E dX2_remove_30 rfl 1 rfl ?_
      refine z_get E (3 * j) (cw_rig hj) (C := RX2) (T := TX2) (N := 10) rfl (fun _ h => List.mem_cons_of_mem _ (List.mem_append_right _ h)) 9 (by decide) (List.mem_of_getElem? (i := 2) (by decide +kernel)) rfl (v := .ref (ad (3 * j + 2))) rfl dX2_remove_31 ?_
      refine z_iload_n E dX2_remove_34 rfl 0 rfl ?_
      refine z_aload_n E dX2_remove_35 rfl 1 rfl ?_
      refine z_get E (3 * j) (cw_rig hj) (C := RX2) (T := TX2) (N := 10) rfl (fun _ h => List.mem_cons_of_mem _ (List.mem_append_right _ h)) 9 (by decide) (List.mem_of_getElem? (i := 2) (by decide +kernel)) rfl (v := .ref (ad (3 * j + 2))) rfl dX2_remove_36 ?_
      refine z_iload_n E dX2_remove_39 rfl 0 rfl ?_
      refine z_iconst (v := 1) E dX2_remove_40 (by decide) ?_
      refine z_iaddV (v := 1) E dX2_remove_41 (by decide) ?_
      refine z_iald E (3 * j + 2) 0 (cw_st hj) rfl (zvin rfl) (v := mem (3 * j + 2) 1) (show m5 (3 * j + 2) 1 = mem (3 * j + 2) 1 from (by simp [hm5, mset])) dX2_remove_42 ?_
      refine z_iast E (3 * j + 2) 0 (cw_st hj) rfl (zvin rfl) (ws' := cw ad cI cR cS (mset m5 (3 * j + 2) 0 (mem (3 * j + 2) 1))) (cs_st hj 0 (mem (3 * j + 2) 1)) dX2_remove_43 ?_
      refine z_gm (fun m6 hm6 => ?_)
      refine z_iinc (v := 1) (lv' := [(2, .int 1), (0, .ref (ad (3 * j))), (1, .int 0)]) E dX2_remove_44 (q := 0) rfl (by decide) (by decide) rfl ?_
      refine z_goto (tgt := 11) E dX2_remove_47 (by decide) ?_
      refine z_iload_n E dX2_remove_11 rfl 0 rfl ?_
      refine z_iconst (v := 2) E dX2_remove_12 (by decide) ?_
      refine z_icmp_ge_f (tgt := 50) E dX2_remove_13 (by decide) (by decide) ?_
      refine z_aload_n E dX2_remove_16 rfl 1 rfl ?_
      refine z_get E (3 * j) (cw_rig hj) (C := RX2) (T := TX2) (N := 10) rfl (fun _ h => List.mem_cons_of_mem _ (List.mem_append_right _ h)) 8 (by decide) (List.mem_of_getElem? (i := 1) (by decide +kernel)) rfl (v := .ref (ad (3 * j + 1))) rfl dX2_remove_17 ?_
      refine z_iload_n E dX2_remove_20 rfl 0 rfl ?_
      refine z_aload_n E dX2_remove_21 rfl 1 rfl ?_
      refine z_get E (3 * j) (cw_rig hj) (C := RX2) (T := TX2) (N := 10) rfl (fun _ h => List.mem_cons_of_mem _ (List.mem_append_right _ h)) 8 (by decide) (List.mem_of_getElem? (i := 1) (by decide +kernel)) rfl (v := .ref (ad (3 * j + 1))) rfl dX2_remove_22 ?_
      refine z_iload_n E dX2_remove_25 rfl 0 rfl ?_
      refine z_iconst (v := 1) E dX2_remove_26 (by decide) ?_
      refine z_iaddV (v := 2) E dX2_remove_27 (by decide) ?_
      refine z_iald E (3 * j + 1) 0 (cw_wt hj) rfl (zvin rfl) (v := mem (3 * j + 1) 2) (show m6 (3 * j + 1) 2 = mem (3 * j + 1) 2 from (by simp [hm6, hm5, mset])) dX2_remove_28 ?_
      refine z_iast E (3 * j + 1) 0 (cw_wt hj) rfl (zvin rfl) (ws' := cw ad cI cR cS (mset m6 (3 * j + 1) 1 (mem (3 * j + 1) 2))) (cs_wt hj 1 (mem (3 * j + 1) 2)) dX2_remove_29 ?_
      refine z_gm (fun m7 hm7 => ?_)
      refine z_aload_n E dX2_remove_30 rfl 1 rfl ?_
      refine z_get E (3 * j) (cw_rig hj) (C := RX2) (T := TX2) (N := 10) rfl (fun _ h => List.mem_cons_of_mem _ (List.mem_append_right _ h)) 9 (by decide) (List.mem_of_getElem? (i := 2) (by decide +kernel)) rfl (v := .ref (ad (3 * j + 2))) rfl dX2_remove_31 ?_
      refine z_iload_n E dX2_remove_34 rfl 0 rfl ?_
      refine z_aload_n E dX2_remove_35 rfl 1 rfl ?_
      refine z_get E (3 * j) (cw_rig hj) (C := RX2) (T := TX2) (N := 10) rfl (fun _ h => List.mem_cons_of_mem _ (List.mem_append_right _ h)) 9 (by decide) (List.mem_of_getElem? (i := 2) (by decide +kernel)) rfl (v := .ref (ad (3 * j + 2))) rfl dX2_remove_36 ?_
      refine z_iload_n E dX2_remove_39 rfl 0 rfl ?_
      refine z_iconst (v := 1) E dX2_remove_40 (by decide) ?_
      refine z_iaddV (v := 2) E dX2_remove_41 (by decide) ?_
      refine z_iald E (3 * j + 2) 0 (cw_st hj) rfl (zvin rfl) (v := mem (3 * j + 2) 2) (show m7 (3 * j + 2) 2 = mem (3 * j + 2) 2 from (by simp [hm7, hm6, hm5, mset])) dX2_remove_42 ?_
      refine z_iast E (3 * j + 2) 0 (cw_st hj) rfl (zvin rfl) (ws' := cw ad cI cR cS (mset m7 (3 * j + 2) 1 (mem (3 * j + 2) 2))) (cs_st hj 1 (mem (3 * j + 2) 2)) dX2_remove_43 ?_
      refine z_gm (fun m8 hm8 => ?_)
      refine z_iinc (v := 2) (lv' := [(2, .int 2), (0, .ref (ad (3 * j))), (1, .int 0)]) E dX2_remove_44 (q := 0) rfl (by decide) (by decide) rfl ?_
      refine z_goto (tgt := 11) E dX2_remove_47 (by decide) ?_
      refine z_iload_n E dX2_remove_11 rfl 0 rfl ?_
      refine z_iconst (v := 2) E dX2_remove_12 (by decide) ?_
      refine z_icmp_ge_t (tgt := 50) E dX2_remove_13 (by decide) (by decide) ?_
      refine z_aload_n E dX2_remove_50 rfl 1 rfl ?_
      refine z_get E (3 * j) (cw_rig hj) (C := RX2) (T := TX2) (N := 10) rfl (fun _ h => List.mem_cons_of_mem _ (List.mem_append_right _ h)) 8 (by decide) (List.mem_of_getElem? (i := 1) (by decide +kernel)) rfl (v := .ref (ad (3 * j + 1))) rfl dX2_remove_51 ?_
      refine z_iconst (v := 2) E dX2_remove_54 (by decide) ?_
      refine z_iconst (v := 0) E dX2_remove_55 (by decide) ?_
      refine z_iast E (3 * j + 1) 0 (cw_wt hj) rfl (zvin rfl) (ws' := cw ad cI cR cS (mset m8 (3 * j + 1) 2 0)) (cs_wt hj 2 0) dX2_remove_56 ?_
      refine z_gm (fun m9 hm9 => ?_)
      refine z_aload_n E dX2_remove_57 rfl 1 rfl ?_
      refine z_get E (3 * j) (cw_rig hj) (C := RX2) (T := TX2) (N := 10) rfl (fun _ h => List.mem_cons_of_mem _ (List.mem_append_right _ h)) 9 (by decide) (List.mem_of_getElem? (i := 2) (by decide +kernel)) rfl (v := .ref (ad (3 * j + 2))) rfl dX2_remove_58 ?_
      refine z_iconst (v := 2) E dX2_remove_61 (by decide) ?_
      refine z_iconst (v := 0) E dX2_remove_62 (by decide) ?_
      refine z_iast E (3 * j + 2) 0 (cw_st hj) rfl (zvin rfl) (ws' := cw ad cI cR cS (mset m9 (3 * j + 2) 2 0)) (cs_st hj 2 0) dX2_remove_63 ?_
      refine z_gm (fun m10 hm10 => ?_)
      refine z_aload_n E dX2_remove_64 rfl 1 rfl ?_
      refine z_dup E dX2_remove_65 rfl ?_
      refine z_get E (3 * j) (cw_rig hj) (C := RX2) (T := TX2) (N := 10) rfl (fun _ h => List.mem_cons_of_mem _ (List.mem_append_right _ h)) 7 (by decide) (List.mem_of_getElem? (i := 3) (by decide +kernel)) rfl (v := .int (mem (3 * j) 7)) (congrArg (fun z : Int32 => some (Value.int z)) (show m10 (3 * j) 7 = mem (3 * j) 7 from (by simp [hm10, hm9, hm8, hm7, hm6, hm5, mset]))) dX2_remove_66 ?_
      refine z_iconst (v := 1) E dX2_remove_69 (by decide) ?_
      refine z_isub E dX2_remove_70 ?_
      refine z_put E (3 * j) (cw_rig hj) (C := RX2) (T := TX2) (N := 10) rfl (fun _ h => List.mem_cons_of_mem _ (List.mem_append_right _ h)) tyX2 tyX2_ok nmX2 7 (by decide) (List.mem_of_getElem? (i := 3) (by decide +kernel)) rfl rfl rfl rfl (Nat.le_of_ble_eq_true rfl) (ws' := cw ad cI cR cS (mset m10 (3 * j) 7 ((mem (3 * j) 7) - 1))) (cs_rig hj 7 (by decide) rfl) dX2_remove_71 ?_
      refine z_gm (fun m11 hm11 => ?_)
      exact z_vretM E hr hlocks (m11) rfl (by rw [hm11, hm10, hm9, hm8, hm7, hm6, hm5]; exact sRemove_0 c5) (Nat.le_of_ble_eq_true rfl) (Nat.le_of_ble_eq_true rfl) dX2_remove_74
    · subst hq
      refine z_iload_n E dX2_remove_9 rfl 1 rfl ?_
      refine z_istore_n (lv' := [(2, .int 1), (0, .ref (ad (3 * j))), (1, .int 1)]) E dX2_remove_10 rfl (by decide) rfl ?_
      refine z_iload_n E dX2_remove_11 rfl 0 rfl ?_
      refine z_iconst (v := 2) E dX2_remove_12 (by decide) ?_
      refine z_icmp_ge_f (tgt := 50) E dX2_remove_13 (by decide) (by decide) ?_
      refine z_aload_n E dX2_remove_16 rfl 1 rfl ?_
      refine z_get E (3 * j) (cw_rig hj) (C := RX2) (T := TX2) (N := 10) rfl (fun _ h => List.mem_cons_of_mem _ (List.mem_append_right _ h)) 8 (by decide) (List.mem_of_getElem? (i := 1) (by decide +kernel)) rfl (v := .ref (ad (3 * j + 1))) rfl dX2_remove_17 ?_
      refine z_iload_n E dX2_remove_20 rfl 0 rfl ?_
      refine z_aload_n E dX2_remove_21 rfl 1 rfl ?_
      refine z_get E (3 * j) (cw_rig hj) (C := RX2) (T := TX2) (N := 10) rfl (fun _ h => List.mem_cons_of_mem _ (List.mem_append_right _ h)) 8 (by decide) (List.mem_of_getElem? (i := 1) (by decide +kernel)) rfl (v := .ref (ad (3 * j + 1))) rfl dX2_remove_22 ?_
      refine z_iload_n E dX2_remove_25 rfl 0 rfl ?_
      refine z_iconst (v := 1) E dX2_remove_26 (by decide) ?_
      refine z_iaddV (v := 2) E dX2_remove_27 (by decide) ?_
      refine z_iald E (3 * j + 1) 0 (cw_wt hj) rfl (zvin rfl) (v := mem (3 * j + 1) 2) rfl dX2_remove_28 ?_
      refine z_iast E (3 * j + 1) 0 (cw_wt hj) rfl (zvin rfl) (ws' := cw ad cI cR cS (mset mem (3 * j + 1) 1 (mem (3 * j + 1) 2))) (cs_wt hj 1 (mem (3 * j + 1) 2)) dX2_remove_29 ?_
      refine z_gm (fun m12 hm12 => ?_)
      refine z_aload_n E dX2_remove_30 rfl 1 rfl ?_
      refine z_get E (3 * j) (cw_rig hj) (C := RX2) (T := TX2) (N := 10) rfl (fun _ h => List.mem_cons_of_mem _ (List.mem_append_right _ h)) 9 (by decide) (List.mem_of_getElem? (i := 2) (by decide +kernel)) rfl (v := .ref (ad (3 * j + 2))) rfl dX2_remove_31 ?_
      refine z_iload_n E dX2_remove_34 rfl 0 rfl ?_
      refine z_aload_n E dX2_remove_35 rfl 1 rfl ?_
      refine z_get E (3 * j) (cw_rig hj) (C := RX2) (T := TX2) (N := 10) rfl (fun _ h => List.mem_cons_of_mem _ (List.mem_append_right _ h)) 9 (by decide) (List.mem_of_getElem? (i := 2) (by decide +kernel)) rfl (v := .ref (ad (3 * j + 2))) rfl dX2_remove_36 ?_
      refine z_iload_n E dX2_remove_39 rfl 0 rfl ?_
      refine z_iconst (v := 1) E dX2_remove_40 (by decide) ?_
      refine z_iaddV (v := 2) E dX2_remove_41 (by decide) ?_
      refine z_iald E (3 * j + 2) 0 (cw_st hj) rfl (zvin rfl) (v := mem (3 * j + 2) 2) (show m12 (3 * j + 2) 2 = mem (3 * j + 2) 2 from (by simp [hm12, mset])) dX2_remove_42 ?_
      refine z_iast E (3 * j + 2) 0 (cw_st hj) rfl (zvin rfl) (ws' := cw ad cI cR cS (mset m12 (3 * j + 2) 1 (mem (3 * j + 2) 2))) (cs_st hj 1 (mem (3 * j + 2) 2)) dX2_remove_43 ?_
      refine z_gm (fun m13 hm13 => ?_)
      refine z_iinc (v := 2) (lv' := [(2, .int 2), (0, .ref (ad (3 * j))), (1, .int 1)]) E dX2_remove_44 (q := 0) rfl (by decide) (by decide) rfl ?_
      refine z_goto (tgt := 11) E dX2_remove_47 (by decide) ?_
      refine z_iload_n E dX2_remove_11 rfl 0 rfl ?_
      refine z_iconst (v := 2) E dX2_remove_12 (by decide) ?_
      refine z_icmp_ge_t (tgt := 50) E dX2_remove_13 (by decide) (by decide) ?_
      refine z_aload_n E dX2_remove_50 rfl 1 rfl ?_
      refine z_get E (3 * j) (cw_rig hj) (C := RX2) (T := TX2) (N := 10) rfl (fun _ h => List.mem_cons_of_mem _ (List.mem_append_right _ h)) 8 (by decide) (List.mem_of_getElem? (i := 1) (by decide +kernel)) rfl (v := .ref (ad (3 * j + 1))) rfl dX2_remove_51 ?_
      refine z_iconst (v := 2) E dX2_remove_54 (by decide) ?_
      refine z_iconst (v := 0) E dX2_remove_55 (by decide) ?_
      refine z_iast E (3 * j + 1) 0 (cw_wt hj) rfl (zvin rfl) (ws' := cw ad cI cR cS (mset m13 (3 * j + 1) 2 0)) (cs_wt hj 2 0) dX2_remove_56 ?_
      refine z_gm (fun m14 hm14 => ?_)
      refine z_aload_n E dX2_remove_57 rfl 1 rfl ?_
      refine z_get E (3 * j) (cw_rig hj) (C := RX2) (T := TX2) (N := 10) rfl (fun _ h => List.mem_cons_of_mem _ (List.mem_append_right _ h)) 9 (by decide) (List.mem_of_getElem? (i := 2) (by decide +kernel)) rfl (v := .ref (ad (3 * j + 2))) rfl dX2_remove_58 ?_
      refine z_iconst (v := 2) E dX2_remove_61 (by decide) ?_
      refine z_iconst (v := 0) E dX2_remove_62 (by decide) ?_
      refine z_iast E (3 * j + 2) 0 (cw_st hj) rfl (zvin rfl) (ws' := cw ad cI cR cS (mset m14 (3 * j + 2) 2 0)) (cs_st hj 2 0) dX2_remove_63 ?_
      refine z_gm (fun m15 hm15 => ?_)
      refine z_aload_n E dX2_remove_64 rfl 1 rfl ?_
      refine z_dup E dX2_remove_65 rfl ?_
      refine z_get E (3 * j) (cw_rig hj) (C := RX2) (T := TX2) (N := 10) rfl (fun _ h => List.mem_cons_of_mem _ (List.mem_append_right _ h)) 7 (by decide) (List.mem_of_getElem? (i := 3) (by decide +kernel)) rfl (v := .int (mem (3 * j) 7)) (congrArg (fun z : Int32 => some (Value.int z)) (show m15 (3 * j) 7 = mem (3 * j) 7 from (by simp [hm15, hm14, hm13, hm12, mset]))) dX2_remove_66 ?_
      refine z_iconst (v := 1) E dX2_remove_69 (by decide) ?_
      refine z_isub E dX2_remove_70 ?_
      refine z_put E (3 * j) (cw_rig hj) (C := RX2) (T := TX2) (N := 10) rfl (fun _ h => List.mem_cons_of_mem _ (List.mem_append_right _ h)) tyX2 tyX2_ok nmX2 7 (by decide) (List.mem_of_getElem? (i := 3) (by decide +kernel)) rfl rfl rfl rfl (Nat.le_of_ble_eq_true rfl) (ws' := cw ad cI cR cS (mset m15 (3 * j) 7 ((mem (3 * j) 7) - 1))) (cs_rig hj 7 (by decide) rfl) dX2_remove_71 ?_
      refine z_gm (fun m16 hm16 => ?_)
      exact z_vretM E hr hlocks (m16) rfl (by rw [hm16, hm15, hm14, hm13, hm12]; exact sRemove_1 c5) (Nat.le_of_ble_eq_true rfl) (Nat.le_of_ble_eq_true rfl) dX2_remove_74
    · subst hq
      refine z_iload_n E dX2_remove_9 rfl 1 rfl ?_
      refine z_istore_n (lv' := [(2, .int 2), (0, .ref (ad (3 * j))), (1, .int 2)]) E dX2_remove_10 rfl (by decide) rfl ?_
      refine z_iload_n E dX2_remove_11 rfl 0 rfl ?_
      refine z_iconst (v := 2) E dX2_remove_12 (by decide) ?_
      refine z_icmp_ge_t (tgt := 50) E dX2_remove_13 (by decide) (by decide) ?_
      refine z_aload_n E dX2_remove_50 rfl 1 rfl ?_
      refine z_get E (3 * j) (cw_rig hj) (C := RX2) (T := TX2) (N := 10) rfl (fun _ h => List.mem_cons_of_mem _ (List.mem_append_right _ h)) 8 (by decide) (List.mem_of_getElem? (i := 1) (by decide +kernel)) rfl (v := .ref (ad (3 * j + 1))) rfl dX2_remove_51 ?_
      refine z_iconst (v := 2) E dX2_remove_54 (by decide) ?_
      refine z_iconst (v := 0) E dX2_remove_55 (by decide) ?_
      refine z_iast E (3 * j + 1) 0 (cw_wt hj) rfl (zvin rfl) (ws' := cw ad cI cR cS (mset mem (3 * j + 1) 2 0)) (cs_wt hj 2 0) dX2_remove_56 ?_
      refine z_gm (fun m17 hm17 => ?_)
      refine z_aload_n E dX2_remove_57 rfl 1 rfl ?_
      refine z_get E (3 * j) (cw_rig hj) (C := RX2) (T := TX2) (N := 10) rfl (fun _ h => List.mem_cons_of_mem _ (List.mem_append_right _ h)) 9 (by decide) (List.mem_of_getElem? (i := 2) (by decide +kernel)) rfl (v := .ref (ad (3 * j + 2))) rfl dX2_remove_58 ?_
      refine z_iconst (v := 2) E dX2_remove_61 (by decide) ?_
      refine z_iconst (v := 0) E dX2_remove_62 (by decide) ?_
      refine z_iast E (3 * j + 2) 0 (cw_st hj) rfl (zvin rfl) (ws' := cw ad cI cR cS (mset m17 (3 * j + 2) 2 0)) (cs_st hj 2 0) dX2_remove_63 ?_
      refine z_gm (fun m18 hm18 => ?_)
      refine z_aload_n E dX2_remove_64 rfl 1 rfl ?_
      refine z_dup E dX2_remove_65 rfl ?_
      refine z_get E (3 * j) (cw_rig hj) (C := RX2) (T := TX2) (N := 10) rfl (fun _ h => List.mem_cons_of_mem _ (List.mem_append_right _ h)) 7 (by decide) (List.mem_of_getElem? (i := 3) (by decide +kernel)) rfl (v := .int (mem (3 * j) 7)) (congrArg (fun z : Int32 => some (Value.int z)) (show m18 (3 * j) 7 = mem (3 * j) 7 from (by simp [hm18, hm17, mset]))) dX2_remove_66 ?_
      refine z_iconst (v := 1) E dX2_remove_69 (by decide) ?_
      refine z_isub E dX2_remove_70 ?_
      refine z_put E (3 * j) (cw_rig hj) (C := RX2) (T := TX2) (N := 10) rfl (fun _ h => List.mem_cons_of_mem _ (List.mem_append_right _ h)) tyX2 tyX2_ok nmX2 7 (by decide) (List.mem_of_getElem? (i := 3) (by decide +kernel)) rfl rfl rfl rfl (Nat.le_of_ble_eq_true rfl) (ws' := cw ad cI cR cS (mset m18 (3 * j) 7 ((mem (3 * j) 7) - 1))) (cs_rig hj 7 (by decide) rfl) dX2_remove_71 ?_
      refine z_gm (fun m19 hm19 => ?_)
      exact z_vretM E hr hlocks (m19) rfl (by rw [hm19, hm18, hm17]; exact sRemove_2 c5) (Nat.le_of_ble_eq_true rfl) (Nat.le_of_ble_eq_true rfl) dX2_remove_74
  · skip
    exact z_vretM E hr hlocks (mem) rfl (if_pos c5).symm (Nat.le_of_ble_eq_true rfl) (Nat.le_of_ble_eq_true rfl) dX2_remove_8
set_option maxHeartbeats 1000000 in
set_option maxRecDepth 100000 in
theorem k_removeAll (l : Launch) (D : va_G) (ad : Nat → Nat) (cI cR cS cL : ClassId) (mem : zM) {j : Nat} (hj : j < 29) : zMv l yX2_removeAll wsX2_removeAll ({ frames := 0, cells := 0, slots := 0, locals := 0 }) D (cK cI cR cS cL) [.ref (ad (3 * j))] (cw ad cI cR cS mem) (fun u => u = sRemoveAll mem j) (cw ad cI cR cS) 0 0 := by
  refine zMvM.of (cc := cX2_removeAll) (maxL := 2) (ret := none) (by decide +kernel) rfl (lv0 := [(0, .ref (ad (3 * j)))]) (Nat.le_of_ble_eq_true rfl) rfl ?_
  intro p e s m args below meth c E hZ hr hlocks hnm
  refine z_iconst (v := 0) E dX2_removeAll_0 (by decide) ?_
  refine z_istore_n (lv' := [(1, .int 0), (0, .ref (ad (3 * j)))]) E dX2_removeAll_1 rfl (by decide) rfl ?_
  refine z_iload_n E dX2_removeAll_2 rfl 0 rfl ?_
  refine z_iconst (v := 3) E dX2_removeAll_3 (by decide) ?_
  refine z_icmp_ge_f (tgt := 27) E dX2_removeAll_4 (by decide) (by decide) ?_
  refine z_aload_n E dX2_removeAll_7 rfl 1 rfl ?_
  refine z_get E (3 * j) (cw_rig hj) (C := RX2) (T := TX2) (N := 10) rfl (fun _ h => List.mem_cons_of_mem _ (List.mem_append_right _ h)) 8 (by decide) (List.mem_of_getElem? (i := 1) (by decide +kernel)) rfl (v := .ref (ad (3 * j + 1))) rfl dX2_removeAll_8 ?_
  refine z_iload_n E dX2_removeAll_11 rfl 0 rfl ?_
  refine z_iconst (v := 0) E dX2_removeAll_12 (by decide) ?_
  refine z_iast E (3 * j + 1) 0 (cw_wt hj) rfl (zvin rfl) (ws' := cw ad cI cR cS (mset mem (3 * j + 1) 0 0)) (cs_wt hj 0 0) dX2_removeAll_13 ?_
  refine z_gm (fun m20 hm20 => ?_)
  refine z_aload_n E dX2_removeAll_14 rfl 1 rfl ?_
  refine z_get E (3 * j) (cw_rig hj) (C := RX2) (T := TX2) (N := 10) rfl (fun _ h => List.mem_cons_of_mem _ (List.mem_append_right _ h)) 9 (by decide) (List.mem_of_getElem? (i := 2) (by decide +kernel)) rfl (v := .ref (ad (3 * j + 2))) rfl dX2_removeAll_15 ?_
  refine z_iload_n E dX2_removeAll_18 rfl 0 rfl ?_
  refine z_iconst (v := 0) E dX2_removeAll_19 (by decide) ?_
  refine z_iast E (3 * j + 2) 0 (cw_st hj) rfl (zvin rfl) (ws' := cw ad cI cR cS (mset m20 (3 * j + 2) 0 0)) (cs_st hj 0 0) dX2_removeAll_20 ?_
  refine z_gm (fun m21 hm21 => ?_)
  refine z_iinc (v := 1) (lv' := [(1, .int 1), (0, .ref (ad (3 * j)))]) E dX2_removeAll_21 (q := 0) rfl (by decide) (by decide) rfl ?_
  refine z_goto (tgt := 2) E dX2_removeAll_24 (by decide) ?_
  refine z_iload_n E dX2_removeAll_2 rfl 0 rfl ?_
  refine z_iconst (v := 3) E dX2_removeAll_3 (by decide) ?_
  refine z_icmp_ge_f (tgt := 27) E dX2_removeAll_4 (by decide) (by decide) ?_
  refine z_aload_n E dX2_removeAll_7 rfl 1 rfl ?_
  refine z_get E (3 * j) (cw_rig hj) (C := RX2) (T := TX2) (N := 10) rfl (fun _ h => List.mem_cons_of_mem _ (List.mem_append_right _ h)) 8 (by decide) (List.mem_of_getElem? (i := 1) (by decide +kernel)) rfl (v := .ref (ad (3 * j + 1))) rfl dX2_removeAll_8 ?_
  refine z_iload_n E dX2_removeAll_11 rfl 0 rfl ?_
  refine z_iconst (v := 0) E dX2_removeAll_12 (by decide) ?_
  refine z_iast E (3 * j + 1) 0 (cw_wt hj) rfl (zvin rfl) (ws' := cw ad cI cR cS (mset m21 (3 * j + 1) 1 0)) (cs_wt hj 1 0) dX2_removeAll_13 ?_
  refine z_gm (fun m22 hm22 => ?_)
  refine z_aload_n E dX2_removeAll_14 rfl 1 rfl ?_
  refine z_get E (3 * j) (cw_rig hj) (C := RX2) (T := TX2) (N := 10) rfl (fun _ h => List.mem_cons_of_mem _ (List.mem_append_right _ h)) 9 (by decide) (List.mem_of_getElem? (i := 2) (by decide +kernel)) rfl (v := .ref (ad (3 * j + 2))) rfl dX2_removeAll_15 ?_
  refine z_iload_n E dX2_removeAll_18 rfl 0 rfl ?_
  refine z_iconst (v := 0) E dX2_removeAll_19 (by decide) ?_
  refine z_iast E (3 * j + 2) 0 (cw_st hj) rfl (zvin rfl) (ws' := cw ad cI cR cS (mset m22 (3 * j + 2) 1 0)) (cs_st hj 1 0) dX2_removeAll_20 ?_
  refine z_gm (fun m23 hm23 => ?_)
  refine z_iinc (v := 2) (lv' := [(1, .int 2), (0, .ref (ad (3 * j)))]) E dX2_removeAll_21 (q := 0) rfl (by decide) (by decide) rfl ?_
  refine z_goto (tgt := 2) E dX2_removeAll_24 (by decide) ?_
  refine z_iload_n E dX2_removeAll_2 rfl 0 rfl ?_
  refine z_iconst (v := 3) E dX2_removeAll_3 (by decide) ?_
  refine z_icmp_ge_f (tgt := 27) E dX2_removeAll_4 (by decide) (by decide) ?_
  refine z_aload_n E dX2_removeAll_7 rfl 1 rfl ?_
  refine z_get E (3 * j) (cw_rig hj) (C := RX2) (T := TX2) (N := 10) rfl (fun _ h => List.mem_cons_of_mem _ (List.mem_append_right _ h)) 8 (by decide) (List.mem_of_getElem? (i := 1) (by decide +kernel)) rfl (v := .ref (ad (3 * j + 1))) rfl dX2_removeAll_8 ?_
  refine z_iload_n E dX2_removeAll_11 rfl 0 rfl ?_
  refine z_iconst (v := 0) E dX2_removeAll_12 (by decide) ?_
  refine z_iast E (3 * j + 1) 0 (cw_wt hj) rfl (zvin rfl) (ws' := cw ad cI cR cS (mset m23 (3 * j + 1) 2 0)) (cs_wt hj 2 0) dX2_removeAll_13 ?_
  refine z_gm (fun m24 hm24 => ?_)
  refine z_aload_n E dX2_removeAll_14 rfl 1 rfl ?_
  refine z_get E (3 * j) (cw_rig hj) (C := RX2) (T := TX2) (N := 10) rfl (fun _ h => List.mem_cons_of_mem _ (List.mem_append_right _ h)) 9 (by decide) (List.mem_of_getElem? (i := 2) (by decide +kernel)) rfl (v := .ref (ad (3 * j + 2))) rfl dX2_removeAll_15 ?_
  refine z_iload_n E dX2_removeAll_18 rfl 0 rfl ?_
  refine z_iconst (v := 0) E dX2_removeAll_19 (by decide) ?_
  refine z_iast E (3 * j + 2) 0 (cw_st hj) rfl (zvin rfl) (ws' := cw ad cI cR cS (mset m24 (3 * j + 2) 2 0)) (cs_st hj 2 0) dX2_removeAll_20 ?_
  refine z_gm (fun m25 hm25 => ?_)
  refine z_iinc (v := 3) (lv' := [(1, .int 3), (0, .ref (ad (3 * j)))]) E dX2_removeAll_21 (q := 0) rfl (by decide) (by decide) rfl ?_
  refine z_goto (tgt := 2) E dX2_removeAll_24 (by decide) ?_
  refine z_iload_n E dX2_removeAll_2 rfl 0 rfl ?_
  refine z_iconst (v := 3) E dX2_removeAll_3 (by decide) ?_
  refine z_icmp_ge_t (tgt := 27) E dX2_removeAll_4 (by decide) (by decide) ?_
  refine z_aload_n E dX2_removeAll_27 rfl 1 rfl ?_
  refine z_iconst (v := 0) E dX2_removeAll_28 (by decide) ?_
  refine z_put E (3 * j) (cw_rig hj) (C := RX2) (T := TX2) (N := 10) rfl (fun _ h => List.mem_cons_of_mem _ (List.mem_append_right _ h)) tyX2 tyX2_ok nmX2 7 (by decide) (List.mem_of_getElem? (i := 3) (by decide +kernel)) rfl rfl rfl rfl (Nat.le_of_ble_eq_true rfl) (ws' := cw ad cI cR cS (mset m25 (3 * j) 7 0)) (cs_rig hj 7 (by decide) rfl) dX2_removeAll_29 ?_
  refine z_gm (fun m26 hm26 => ?_)
  exact z_vretM E hr hlocks (m26) rfl (by rw [hm26, hm25, hm24, hm23, hm22, hm21, hm20]; exact sRemoveAll_of) (Nat.le_of_ble_eq_true rfl) (Nat.le_of_ble_eq_true rfl) dX2_removeAll_32
set_option maxHeartbeats 1000000 in
set_option maxRecDepth 100000 in
theorem k_rigCopy (l : Launch) (D : va_G) (ad : Nat → Nat) (cI cR cS cL : ClassId) (mem : zM) {a b : Nat} (ha : a < 29) (hb : b < 29) (hne : a ≠ b) : zMv l yX2_copyFrom wsX2_copyFrom ({ frames := 0, cells := 0, slots := 0, locals := 0 }) D (cK cI cR cS cL) [.ref (ad (3 * a)), .ref (ad (3 * b))] (cw ad cI cR cS mem) (fun u => u = sCopy mem a b) (cw ad cI cR cS) 0 0 := by
  refine zMvM.of (cc := cX2_copyFrom) (maxL := 3) (ret := none) (by decide +kernel) rfl (lv0 := [(0, .ref (ad (3 * a))), (1, .ref (ad (3 * b)))]) (Nat.le_of_ble_eq_true rfl) rfl ?_
  intro p e s m args below meth c E hZ hr hlocks hnm
  refine z_aload_n E dX2_copyFrom_0 rfl 0 rfl ?_
  refine z_aload_n E dX2_copyFrom_1 rfl 1 rfl ?_
  refine z_get E (3 * b) (cw_rig hb) (C := RX2) (T := TX2) (N := 10) rfl (fun _ h => List.mem_cons_of_mem _ (List.mem_append_right _ h)) 0 (by decide) (List.mem_of_getElem? (i := 1) (by decide +kernel)) rfl (v := .int (mem (3 * b) 0)) rfl dX2_copyFrom_2 ?_
  refine z_put E (3 * a) (cw_rig ha) (C := RX2) (T := TX2) (N := 10) rfl (fun _ h => List.mem_cons_of_mem _ (List.mem_append_right _ h)) tyX2 tyX2_ok nmX2 0 (by decide) (List.mem_of_getElem? (i := 1) (by decide +kernel)) rfl rfl rfl rfl (Nat.le_of_ble_eq_true rfl) (ws' := cw ad cI cR cS (mset mem (3 * a) 0 (mem (3 * b) 0))) (cs_rig ha 0 (by decide) rfl) dX2_copyFrom_5 ?_
  refine z_gm (fun m27 hm27 => ?_)
  have Fm27_0 : m27 (3 * b) = mem (3 * b) := by rw [hm27, mset_ne _ _ _ (by omega)]
  have Fm27_1 : m27 (3 * b + 1) = mem (3 * b + 1) := by rw [hm27, mset_ne _ _ _ (by omega)]
  have Fm27_2 : m27 (3 * b + 2) = mem (3 * b + 2) := by rw [hm27, mset_ne _ _ _ (by omega)]
  refine z_aload_n E dX2_copyFrom_8 rfl 0 rfl ?_
  refine z_aload_n E dX2_copyFrom_9 rfl 1 rfl ?_
  refine z_get E (3 * b) (cw_rig hb) (C := RX2) (T := TX2) (N := 10) rfl (fun _ h => List.mem_cons_of_mem _ (List.mem_append_right _ h)) 1 (by decide) (List.mem_of_getElem? (i := 2) (by decide +kernel)) rfl (v := .int (mem (3 * b) 1)) (congrArg (fun z : Nat → Int32 => some (Value.int (z 1))) Fm27_0) dX2_copyFrom_10 ?_
  refine z_put E (3 * a) (cw_rig ha) (C := RX2) (T := TX2) (N := 10) rfl (fun _ h => List.mem_cons_of_mem _ (List.mem_append_right _ h)) tyX2 tyX2_ok nmX2 1 (by decide) (List.mem_of_getElem? (i := 2) (by decide +kernel)) rfl rfl rfl rfl (Nat.le_of_ble_eq_true rfl) (ws' := cw ad cI cR cS (mset m27 (3 * a) 1 (mem (3 * b) 1))) (cs_rig ha 1 (by decide) rfl) dX2_copyFrom_13 ?_
  refine z_gm (fun m28 hm28 => ?_)
  have Fm28_0 : m28 (3 * b) = mem (3 * b) := by rw [hm28, mset_ne _ _ _ (by omega)]; exact Fm27_0
  have Fm28_1 : m28 (3 * b + 1) = mem (3 * b + 1) := by rw [hm28, mset_ne _ _ _ (by omega)]; exact Fm27_1
  have Fm28_2 : m28 (3 * b + 2) = mem (3 * b + 2) := by rw [hm28, mset_ne _ _ _ (by omega)]; exact Fm27_2
  refine z_aload_n E dX2_copyFrom_16 rfl 0 rfl ?_
  refine z_aload_n E dX2_copyFrom_17 rfl 1 rfl ?_
  refine z_get E (3 * b) (cw_rig hb) (C := RX2) (T := TX2) (N := 10) rfl (fun _ h => List.mem_cons_of_mem _ (List.mem_append_right _ h)) 2 (by decide) (List.mem_of_getElem? (i := 3) (by decide +kernel)) rfl (v := .int (mem (3 * b) 2)) (congrArg (fun z : Nat → Int32 => some (Value.int (z 2))) Fm28_0) dX2_copyFrom_18 ?_
  refine z_put E (3 * a) (cw_rig ha) (C := RX2) (T := TX2) (N := 10) rfl (fun _ h => List.mem_cons_of_mem _ (List.mem_append_right _ h)) tyX2 tyX2_ok nmX2 2 (by decide) (List.mem_of_getElem? (i := 3) (by decide +kernel)) rfl rfl rfl rfl (Nat.le_of_ble_eq_true rfl) (ws' := cw ad cI cR cS (mset m28 (3 * a) 2 (mem (3 * b) 2))) (cs_rig ha 2 (by decide) rfl) dX2_copyFrom_21 ?_
  refine z_gm (fun m29 hm29 => ?_)
  have Fm29_0 : m29 (3 * b) = mem (3 * b) := by rw [hm29, mset_ne _ _ _ (by omega)]; exact Fm28_0
  have Fm29_1 : m29 (3 * b + 1) = mem (3 * b + 1) := by rw [hm29, mset_ne _ _ _ (by omega)]; exact Fm28_1
  have Fm29_2 : m29 (3 * b + 2) = mem (3 * b + 2) := by rw [hm29, mset_ne _ _ _ (by omega)]; exact Fm28_2
  refine z_aload_n E dX2_copyFrom_24 rfl 0 rfl ?_
  refine z_aload_n E dX2_copyFrom_25 rfl 1 rfl ?_
  refine z_get E (3 * b) (cw_rig hb) (C := RX2) (T := TX2) (N := 10) rfl (fun _ h => List.mem_cons_of_mem _ (List.mem_append_right _ h)) 3 (by decide) (List.mem_of_getElem? (i := 4) (by decide +kernel)) rfl (v := .int (mem (3 * b) 3)) (congrArg (fun z : Nat → Int32 => some (Value.int (z 3))) Fm29_0) dX2_copyFrom_26 ?_
  refine z_put E (3 * a) (cw_rig ha) (C := RX2) (T := TX2) (N := 10) rfl (fun _ h => List.mem_cons_of_mem _ (List.mem_append_right _ h)) tyX2 tyX2_ok nmX2 3 (by decide) (List.mem_of_getElem? (i := 4) (by decide +kernel)) rfl rfl rfl rfl (Nat.le_of_ble_eq_true rfl) (ws' := cw ad cI cR cS (mset m29 (3 * a) 3 (mem (3 * b) 3))) (cs_rig ha 3 (by decide) rfl) dX2_copyFrom_29 ?_
  refine z_gm (fun m30 hm30 => ?_)
  have Fm30_0 : m30 (3 * b) = mem (3 * b) := by rw [hm30, mset_ne _ _ _ (by omega)]; exact Fm29_0
  have Fm30_1 : m30 (3 * b + 1) = mem (3 * b + 1) := by rw [hm30, mset_ne _ _ _ (by omega)]; exact Fm29_1
  have Fm30_2 : m30 (3 * b + 2) = mem (3 * b + 2) := by rw [hm30, mset_ne _ _ _ (by omega)]; exact Fm29_2
  refine z_aload_n E dX2_copyFrom_32 rfl 0 rfl ?_
  refine z_aload_n E dX2_copyFrom_33 rfl 1 rfl ?_
  refine z_get E (3 * b) (cw_rig hb) (C := RX2) (T := TX2) (N := 10) rfl (fun _ h => List.mem_cons_of_mem _ (List.mem_append_right _ h)) 4 (by decide) (List.mem_of_getElem? (i := 5) (by decide +kernel)) rfl (v := .int (mem (3 * b) 4)) (congrArg (fun z : Nat → Int32 => some (Value.int (z 4))) Fm30_0) dX2_copyFrom_34 ?_
  refine z_put E (3 * a) (cw_rig ha) (C := RX2) (T := TX2) (N := 10) rfl (fun _ h => List.mem_cons_of_mem _ (List.mem_append_right _ h)) tyX2 tyX2_ok nmX2 4 (by decide) (List.mem_of_getElem? (i := 5) (by decide +kernel)) rfl rfl rfl rfl (Nat.le_of_ble_eq_true rfl) (ws' := cw ad cI cR cS (mset m30 (3 * a) 4 (mem (3 * b) 4))) (cs_rig ha 4 (by decide) rfl) dX2_copyFrom_37 ?_
  refine z_gm (fun m31 hm31 => ?_)
  have Fm31_0 : m31 (3 * b) = mem (3 * b) := by rw [hm31, mset_ne _ _ _ (by omega)]; exact Fm30_0
  have Fm31_1 : m31 (3 * b + 1) = mem (3 * b + 1) := by rw [hm31, mset_ne _ _ _ (by omega)]; exact Fm30_1
  have Fm31_2 : m31 (3 * b + 2) = mem (3 * b + 2) := by rw [hm31, mset_ne _ _ _ (by omega)]; exact Fm30_2
  refine z_aload_n E dX2_copyFrom_40 rfl 0 rfl ?_
  refine z_aload_n E dX2_copyFrom_41 rfl 1 rfl ?_
  refine z_get E (3 * b) (cw_rig hb) (C := RX2) (T := TX2) (N := 10) rfl (fun _ h => List.mem_cons_of_mem _ (List.mem_append_right _ h)) 5 (by decide) (List.mem_of_getElem? (i := 6) (by decide +kernel)) rfl (v := .int (mem (3 * b) 5)) (congrArg (fun z : Nat → Int32 => some (Value.int (z 5))) Fm31_0) dX2_copyFrom_42 ?_
  refine z_put E (3 * a) (cw_rig ha) (C := RX2) (T := TX2) (N := 10) rfl (fun _ h => List.mem_cons_of_mem _ (List.mem_append_right _ h)) tyX2 tyX2_ok nmX2 5 (by decide) (List.mem_of_getElem? (i := 6) (by decide +kernel)) rfl rfl rfl rfl (Nat.le_of_ble_eq_true rfl) (ws' := cw ad cI cR cS (mset m31 (3 * a) 5 (mem (3 * b) 5))) (cs_rig ha 5 (by decide) rfl) dX2_copyFrom_45 ?_
  refine z_gm (fun m32 hm32 => ?_)
  have Fm32_0 : m32 (3 * b) = mem (3 * b) := by rw [hm32, mset_ne _ _ _ (by omega)]; exact Fm31_0
  have Fm32_1 : m32 (3 * b + 1) = mem (3 * b + 1) := by rw [hm32, mset_ne _ _ _ (by omega)]; exact Fm31_1
  have Fm32_2 : m32 (3 * b + 2) = mem (3 * b + 2) := by rw [hm32, mset_ne _ _ _ (by omega)]; exact Fm31_2
  refine z_aload_n E dX2_copyFrom_48 rfl 0 rfl ?_
  refine z_aload_n E dX2_copyFrom_49 rfl 1 rfl ?_
  refine z_get E (3 * b) (cw_rig hb) (C := RX2) (T := TX2) (N := 10) rfl (fun _ h => List.mem_cons_of_mem _ (List.mem_append_right _ h)) 6 (by decide) (List.mem_of_getElem? (i := 7) (by decide +kernel)) rfl (v := .int (mem (3 * b) 6)) (congrArg (fun z : Nat → Int32 => some (Value.int (z 6))) Fm32_0) dX2_copyFrom_50 ?_
  refine z_put E (3 * a) (cw_rig ha) (C := RX2) (T := TX2) (N := 10) rfl (fun _ h => List.mem_cons_of_mem _ (List.mem_append_right _ h)) tyX2 tyX2_ok nmX2 6 (by decide) (List.mem_of_getElem? (i := 7) (by decide +kernel)) rfl rfl rfl rfl (Nat.le_of_ble_eq_true rfl) (ws' := cw ad cI cR cS (mset m32 (3 * a) 6 (mem (3 * b) 6))) (cs_rig ha 6 (by decide) rfl) dX2_copyFrom_53 ?_
  refine z_gm (fun m33 hm33 => ?_)
  have Fm33_0 : m33 (3 * b) = mem (3 * b) := by rw [hm33, mset_ne _ _ _ (by omega)]; exact Fm32_0
  have Fm33_1 : m33 (3 * b + 1) = mem (3 * b + 1) := by rw [hm33, mset_ne _ _ _ (by omega)]; exact Fm32_1
  have Fm33_2 : m33 (3 * b + 2) = mem (3 * b + 2) := by rw [hm33, mset_ne _ _ _ (by omega)]; exact Fm32_2
  refine z_aload_n E dX2_copyFrom_56 rfl 0 rfl ?_
  refine z_aload_n E dX2_copyFrom_57 rfl 1 rfl ?_
  refine z_get E (3 * b) (cw_rig hb) (C := RX2) (T := TX2) (N := 10) rfl (fun _ h => List.mem_cons_of_mem _ (List.mem_append_right _ h)) 7 (by decide) (List.mem_of_getElem? (i := 8) (by decide +kernel)) rfl (v := .int (mem (3 * b) 7)) (congrArg (fun z : Nat → Int32 => some (Value.int (z 7))) Fm33_0) dX2_copyFrom_58 ?_
  refine z_put E (3 * a) (cw_rig ha) (C := RX2) (T := TX2) (N := 10) rfl (fun _ h => List.mem_cons_of_mem _ (List.mem_append_right _ h)) tyX2 tyX2_ok nmX2 7 (by decide) (List.mem_of_getElem? (i := 8) (by decide +kernel)) rfl rfl rfl rfl (Nat.le_of_ble_eq_true rfl) (ws' := cw ad cI cR cS (mset m33 (3 * a) 7 (mem (3 * b) 7))) (cs_rig ha 7 (by decide) rfl) dX2_copyFrom_61 ?_
  refine z_gm (fun m34 hm34 => ?_)
  have Fm34_0 : m34 (3 * b) = mem (3 * b) := by rw [hm34, mset_ne _ _ _ (by omega)]; exact Fm33_0
  have Fm34_1 : m34 (3 * b + 1) = mem (3 * b + 1) := by rw [hm34, mset_ne _ _ _ (by omega)]; exact Fm33_1
  have Fm34_2 : m34 (3 * b + 2) = mem (3 * b + 2) := by rw [hm34, mset_ne _ _ _ (by omega)]; exact Fm33_2
  refine z_iconst (v := 0) E dX2_copyFrom_64 (by decide) ?_
  refine z_istore_n (lv' := [(2, .int 0), (0, .ref (ad (3 * a))), (1, .ref (ad (3 * b)))]) E dX2_copyFrom_65 rfl (by decide) rfl ?_
  refine z_iload_n E dX2_copyFrom_66 rfl 0 rfl ?_
  refine z_iconst (v := 3) E dX2_copyFrom_67 (by decide) ?_
  refine z_icmp_ge_f (tgt := 101) E dX2_copyFrom_68 (by decide) (by decide) ?_
  refine z_aload_n E dX2_copyFrom_71 rfl 1 rfl ?_
  refine z_get E (3 * a) (cw_rig ha) (C := RX2) (T := TX2) (N := 10) rfl (fun _ h => List.mem_cons_of_mem _ (List.mem_append_right _ h)) 8 (by decide) (List.mem_of_getElem? (i := 9) (by decide +kernel)) rfl (v := .ref (ad (3 * a + 1))) rfl dX2_copyFrom_72 ?_
  refine z_iload_n E dX2_copyFrom_75 rfl 0 rfl ?_
  refine z_aload_n E dX2_copyFrom_76 rfl 2 rfl ?_
  refine z_get E (3 * b) (cw_rig hb) (C := RX2) (T := TX2) (N := 10) rfl (fun _ h => List.mem_cons_of_mem _ (List.mem_append_right _ h)) 8 (by decide) (List.mem_of_getElem? (i := 9) (by decide +kernel)) rfl (v := .ref (ad (3 * b + 1))) rfl dX2_copyFrom_77 ?_
  refine z_iload_n E dX2_copyFrom_80 rfl 0 rfl ?_
  refine z_iald E (3 * b + 1) 0 (cw_wt hb) rfl (zvin rfl) (v := mem (3 * b + 1) 0) (congrFun Fm34_1 _) dX2_copyFrom_81 ?_
  refine z_iast E (3 * a + 1) 0 (cw_wt ha) rfl (zvin rfl) (ws' := cw ad cI cR cS (mset m34 (3 * a + 1) 0 (mem (3 * b + 1) 0))) (cs_wt ha 0 (mem (3 * b + 1) 0)) dX2_copyFrom_82 ?_
  refine z_gm (fun m35 hm35 => ?_)
  have Fm35_0 : m35 (3 * b) = mem (3 * b) := by rw [hm35, mset_ne _ _ _ (by omega)]; exact Fm34_0
  have Fm35_1 : m35 (3 * b + 1) = mem (3 * b + 1) := by rw [hm35, mset_ne _ _ _ (by omega)]; exact Fm34_1
  have Fm35_2 : m35 (3 * b + 2) = mem (3 * b + 2) := by rw [hm35, mset_ne _ _ _ (by omega)]; exact Fm34_2
  refine z_aload_n E dX2_copyFrom_83 rfl 1 rfl ?_
  refine z_get E (3 * a) (cw_rig ha) (C := RX2) (T := TX2) (N := 10) rfl (fun _ h => List.mem_cons_of_mem _ (List.mem_append_right _ h)) 9 (by decide) (List.mem_of_getElem? (i := 10) (by decide +kernel)) rfl (v := .ref (ad (3 * a + 2))) rfl dX2_copyFrom_84 ?_
  refine z_iload_n E dX2_copyFrom_87 rfl 0 rfl ?_
  refine z_aload_n E dX2_copyFrom_88 rfl 2 rfl ?_
  refine z_get E (3 * b) (cw_rig hb) (C := RX2) (T := TX2) (N := 10) rfl (fun _ h => List.mem_cons_of_mem _ (List.mem_append_right _ h)) 9 (by decide) (List.mem_of_getElem? (i := 10) (by decide +kernel)) rfl (v := .ref (ad (3 * b + 2))) rfl dX2_copyFrom_89 ?_
  refine z_iload_n E dX2_copyFrom_92 rfl 0 rfl ?_
  refine z_iald E (3 * b + 2) 0 (cw_st hb) rfl (zvin rfl) (v := mem (3 * b + 2) 0) (congrFun Fm35_2 _) dX2_copyFrom_93 ?_
  refine z_iast E (3 * a + 2) 0 (cw_st ha) rfl (zvin rfl) (ws' := cw ad cI cR cS (mset m35 (3 * a + 2) 0 (mem (3 * b + 2) 0))) (cs_st ha 0 (mem (3 * b + 2) 0)) dX2_copyFrom_94 ?_
  refine z_gm (fun m36 hm36 => ?_)
  have Fm36_0 : m36 (3 * b) = mem (3 * b) := by rw [hm36, mset_ne _ _ _ (by omega)]; exact Fm35_0
  have Fm36_1 : m36 (3 * b + 1) = mem (3 * b + 1) := by rw [hm36, mset_ne _ _ _ (by omega)]; exact Fm35_1
  have Fm36_2 : m36 (3 * b + 2) = mem (3 * b + 2) := by rw [hm36, mset_ne _ _ _ (by omega)]; exact Fm35_2
  refine z_iinc (v := 1) (lv' := [(2, .int 1), (0, .ref (ad (3 * a))), (1, .ref (ad (3 * b)))]) E dX2_copyFrom_95 (q := 0) rfl (by decide) (by decide) rfl ?_
  refine z_goto (tgt := 66) E dX2_copyFrom_98 (by decide) ?_
  refine z_iload_n E dX2_copyFrom_66 rfl 0 rfl ?_
  refine z_iconst (v := 3) E dX2_copyFrom_67 (by decide) ?_
  refine z_icmp_ge_f (tgt := 101) E dX2_copyFrom_68 (by decide) (by decide) ?_
  refine z_aload_n E dX2_copyFrom_71 rfl 1 rfl ?_
  refine z_get E (3 * a) (cw_rig ha) (C := RX2) (T := TX2) (N := 10) rfl (fun _ h => List.mem_cons_of_mem _ (List.mem_append_right _ h)) 8 (by decide) (List.mem_of_getElem? (i := 9) (by decide +kernel)) rfl (v := .ref (ad (3 * a + 1))) rfl dX2_copyFrom_72 ?_
  refine z_iload_n E dX2_copyFrom_75 rfl 0 rfl ?_
  refine z_aload_n E dX2_copyFrom_76 rfl 2 rfl ?_
  refine z_get E (3 * b) (cw_rig hb) (C := RX2) (T := TX2) (N := 10) rfl (fun _ h => List.mem_cons_of_mem _ (List.mem_append_right _ h)) 8 (by decide) (List.mem_of_getElem? (i := 9) (by decide +kernel)) rfl (v := .ref (ad (3 * b + 1))) rfl dX2_copyFrom_77 ?_
  refine z_iload_n E dX2_copyFrom_80 rfl 0 rfl ?_
  refine z_iald E (3 * b + 1) 0 (cw_wt hb) rfl (zvin rfl) (v := mem (3 * b + 1) 1) (congrFun Fm36_1 _) dX2_copyFrom_81 ?_
  refine z_iast E (3 * a + 1) 0 (cw_wt ha) rfl (zvin rfl) (ws' := cw ad cI cR cS (mset m36 (3 * a + 1) 1 (mem (3 * b + 1) 1))) (cs_wt ha 1 (mem (3 * b + 1) 1)) dX2_copyFrom_82 ?_
  refine z_gm (fun m37 hm37 => ?_)
  have Fm37_0 : m37 (3 * b) = mem (3 * b) := by rw [hm37, mset_ne _ _ _ (by omega)]; exact Fm36_0
  have Fm37_1 : m37 (3 * b + 1) = mem (3 * b + 1) := by rw [hm37, mset_ne _ _ _ (by omega)]; exact Fm36_1
  have Fm37_2 : m37 (3 * b + 2) = mem (3 * b + 2) := by rw [hm37, mset_ne _ _ _ (by omega)]; exact Fm36_2
  refine z_aload_n E dX2_copyFrom_83 rfl 1 rfl ?_
  refine z_get E (3 * a) (cw_rig ha) (C := RX2) (T := TX2) (N := 10) rfl (fun _ h => List.mem_cons_of_mem _ (List.mem_append_right _ h)) 9 (by decide) (List.mem_of_getElem? (i := 10) (by decide +kernel)) rfl (v := .ref (ad (3 * a + 2))) rfl dX2_copyFrom_84 ?_
  refine z_iload_n E dX2_copyFrom_87 rfl 0 rfl ?_
  refine z_aload_n E dX2_copyFrom_88 rfl 2 rfl ?_
  refine z_get E (3 * b) (cw_rig hb) (C := RX2) (T := TX2) (N := 10) rfl (fun _ h => List.mem_cons_of_mem _ (List.mem_append_right _ h)) 9 (by decide) (List.mem_of_getElem? (i := 10) (by decide +kernel)) rfl (v := .ref (ad (3 * b + 2))) rfl dX2_copyFrom_89 ?_
  refine z_iload_n E dX2_copyFrom_92 rfl 0 rfl ?_
  refine z_iald E (3 * b + 2) 0 (cw_st hb) rfl (zvin rfl) (v := mem (3 * b + 2) 1) (congrFun Fm37_2 _) dX2_copyFrom_93 ?_
  refine z_iast E (3 * a + 2) 0 (cw_st ha) rfl (zvin rfl) (ws' := cw ad cI cR cS (mset m37 (3 * a + 2) 1 (mem (3 * b + 2) 1))) (cs_st ha 1 (mem (3 * b + 2) 1)) dX2_copyFrom_94 ?_
  refine z_gm (fun m38 hm38 => ?_)
  have Fm38_0 : m38 (3 * b) = mem (3 * b) := by rw [hm38, mset_ne _ _ _ (by omega)]; exact Fm37_0
  have Fm38_1 : m38 (3 * b + 1) = mem (3 * b + 1) := by rw [hm38, mset_ne _ _ _ (by omega)]; exact Fm37_1
  have Fm38_2 : m38 (3 * b + 2) = mem (3 * b + 2) := by rw [hm38, mset_ne _ _ _ (by omega)]; exact Fm37_2
  refine z_iinc (v := 2) (lv' := [(2, .int 2), (0, .ref (ad (3 * a))), (1, .ref (ad (3 * b)))]) E dX2_copyFrom_95 (q := 0) rfl (by decide) (by decide) rfl ?_
  refine z_goto (tgt := 66) E dX2_copyFrom_98 (by decide) ?_
  refine z_iload_n E dX2_copyFrom_66 rfl 0 rfl ?_
  refine z_iconst (v := 3) E dX2_copyFrom_67 (by decide) ?_
  refine z_icmp_ge_f (tgt := 101) E dX2_copyFrom_68 (by decide) (by decide) ?_
  refine z_aload_n E dX2_copyFrom_71 rfl 1 rfl ?_
  refine z_get E (3 * a) (cw_rig ha) (C := RX2) (T := TX2) (N := 10) rfl (fun _ h => List.mem_cons_of_mem _ (List.mem_append_right _ h)) 8 (by decide) (List.mem_of_getElem? (i := 9) (by decide +kernel)) rfl (v := .ref (ad (3 * a + 1))) rfl dX2_copyFrom_72 ?_
  refine z_iload_n E dX2_copyFrom_75 rfl 0 rfl ?_
  refine z_aload_n E dX2_copyFrom_76 rfl 2 rfl ?_
  refine z_get E (3 * b) (cw_rig hb) (C := RX2) (T := TX2) (N := 10) rfl (fun _ h => List.mem_cons_of_mem _ (List.mem_append_right _ h)) 8 (by decide) (List.mem_of_getElem? (i := 9) (by decide +kernel)) rfl (v := .ref (ad (3 * b + 1))) rfl dX2_copyFrom_77 ?_
  refine z_iload_n E dX2_copyFrom_80 rfl 0 rfl ?_
  refine z_iald E (3 * b + 1) 0 (cw_wt hb) rfl (zvin rfl) (v := mem (3 * b + 1) 2) (congrFun Fm38_1 _) dX2_copyFrom_81 ?_
  refine z_iast E (3 * a + 1) 0 (cw_wt ha) rfl (zvin rfl) (ws' := cw ad cI cR cS (mset m38 (3 * a + 1) 2 (mem (3 * b + 1) 2))) (cs_wt ha 2 (mem (3 * b + 1) 2)) dX2_copyFrom_82 ?_
  refine z_gm (fun m39 hm39 => ?_)
  have Fm39_0 : m39 (3 * b) = mem (3 * b) := by rw [hm39, mset_ne _ _ _ (by omega)]; exact Fm38_0
  have Fm39_1 : m39 (3 * b + 1) = mem (3 * b + 1) := by rw [hm39, mset_ne _ _ _ (by omega)]; exact Fm38_1
  have Fm39_2 : m39 (3 * b + 2) = mem (3 * b + 2) := by rw [hm39, mset_ne _ _ _ (by omega)]; exact Fm38_2
  refine z_aload_n E dX2_copyFrom_83 rfl 1 rfl ?_
  refine z_get E (3 * a) (cw_rig ha) (C := RX2) (T := TX2) (N := 10) rfl (fun _ h => List.mem_cons_of_mem _ (List.mem_append_right _ h)) 9 (by decide) (List.mem_of_getElem? (i := 10) (by decide +kernel)) rfl (v := .ref (ad (3 * a + 2))) rfl dX2_copyFrom_84 ?_
  refine z_iload_n E dX2_copyFrom_87 rfl 0 rfl ?_
  refine z_aload_n E dX2_copyFrom_88 rfl 2 rfl ?_
  refine z_get E (3 * b) (cw_rig hb) (C := RX2) (T := TX2) (N := 10) rfl (fun _ h => List.mem_cons_of_mem _ (List.mem_append_right _ h)) 9 (by decide) (List.mem_of_getElem? (i := 10) (by decide +kernel)) rfl (v := .ref (ad (3 * b + 2))) rfl dX2_copyFrom_89 ?_
  refine z_iload_n E dX2_copyFrom_92 rfl 0 rfl ?_
  refine z_iald E (3 * b + 2) 0 (cw_st hb) rfl (zvin rfl) (v := mem (3 * b + 2) 2) (congrFun Fm39_2 _) dX2_copyFrom_93 ?_
  refine z_iast E (3 * a + 2) 0 (cw_st ha) rfl (zvin rfl) (ws' := cw ad cI cR cS (mset m39 (3 * a + 2) 2 (mem (3 * b + 2) 2))) (cs_st ha 2 (mem (3 * b + 2) 2)) dX2_copyFrom_94 ?_
  refine z_gm (fun m40 hm40 => ?_)
  have Fm40_0 : m40 (3 * b) = mem (3 * b) := by rw [hm40, mset_ne _ _ _ (by omega)]; exact Fm39_0
  have Fm40_1 : m40 (3 * b + 1) = mem (3 * b + 1) := by rw [hm40, mset_ne _ _ _ (by omega)]; exact Fm39_1
  have Fm40_2 : m40 (3 * b + 2) = mem (3 * b + 2) := by rw [hm40, mset_ne _ _ _ (by omega)]; exact Fm39_2
  refine z_iinc (v := 3) (lv' := [(2, .int 3), (0, .ref (ad (3 * a))), (1, .ref (ad (3 * b)))]) E dX2_copyFrom_95 (q := 0) rfl (by decide) (by decide) rfl ?_
  refine z_goto (tgt := 66) E dX2_copyFrom_98 (by decide) ?_
  refine z_iload_n E dX2_copyFrom_66 rfl 0 rfl ?_
  refine z_iconst (v := 3) E dX2_copyFrom_67 (by decide) ?_
  refine z_icmp_ge_t (tgt := 101) E dX2_copyFrom_68 (by decide) (by decide) ?_
  exact z_vretM E hr hlocks (m40) rfl (by rw [hm40, hm39, hm38, hm37, hm36, hm35, hm34, hm33, hm32, hm31, hm30, hm29, hm28, hm27]; exact sCopy_of hne) (Nat.le_of_ble_eq_true rfl) (Nat.le_of_ble_eq_true rfl) dX2_copyFrom_101
