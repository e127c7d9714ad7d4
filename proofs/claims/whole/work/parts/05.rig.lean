/-! LadderClimb$Rig: what its methods answer, over the numbers R of a rig (0 to 7 its fields, 8 to 10 weights, 11 to 13 steps) -/
theorem zvin {i : Int32} {n : Nat} (h : decide (¬ (i < 0 ∨ n ≤ i.toNatClampNeg)) = true) : vp_in i n := by
  unfold vp_in
  exact of_decide_eq_true h
def fMax (x y : Int32) : Int32 := if x < y then y else x
def fMin (x y : Int32) : Int32 := if y < x then y else x
def fAbs (x : Int32) : Int32 := if 0 ≤ x then x else 0 - x
def fFD (x y : Int32) : Int32 := if 0 ≤ x ^^^ y then x / y else if (x / y) * y = x then x / y else x / y - 1
def fFull (R : Nat → Int32) : Int32 := if R 7 < 3 then 0 else 1
def fBears (R : Nat → Int32) (q : Int32) : Int32 := if q < 0 then 0 else if R 7 ≤ q then 0 else if 3 ≤ q then 0 else 1
def fLoad (R : Nat → Int32) : Int32 := R 2 + R 8 + R 9 + R 10
def fMoment (R : Nat → Int32) : Int32 := R 0 * (5 * R 2 + R 11 * R 8 + R 12 * R 9 + R 13 * R 10)
def fPush (R : Nat → Int32) (f : Int32) : Int32 := fMoment R - 10 * f * R 0
def fGP (R : Nat → Int32) : Int32 := if R 3 < 0 then 0 else if 4 ≤ R 3 then 0 else ([5, 25, 40, 60] : List Int32).getD (R 3).toNatClampNeg 0
def fWP (R : Nat → Int32) : Int32 := if R 4 < 0 then 0 else if 4 ≤ R 4 then 0 else ([0, 20, 45, 60] : List Int32).getD (R 4).toNatClampNeg 0
def fLBW (R : Nat → Int32) : Int32 := if R 4 = 3 then 0 else if 1000 * R 1 - 10 * R 0 * fWP R ≤ 0 then -1000 else -fFD (fWP R * fMoment R) (1000 * R 1 - 10 * R 0 * fWP R)
def fSlope (R : Nat → Int32) : Int32 := 10 * R 1 * fGP R - 1000 * R 0
def fRoom (R : Nat → Int32) : Int32 := 10 * R 1 * (fGP R * fLoad R + 100 * R 5) - 100 * fMoment R
def fLBG (R : Nat → Int32) : Int32 := if 0 ≤ fSlope R then -1000 else -fFD (fRoom R) (-fSlope R)
def fLeast (R : Nat → Int32) : Int32 := fMax (-1000) (fMax (fLBW R) (fLBG R))
def fGreat (R : Nat → Int32) : Int32 := if 1000 * R 1 + 10 * R 0 * fWP R ≤ 0 then 0 else fFD (fWP R * fMoment R) (1000 * R 1 + 10 * R 0 * fWP R)
def fStands (R : Nat → Int32) : Int32 := if fGreat R < fLeast R then 0 else 1
def fForces (R : Nat → Int32) : Int32 := fMax 0 (fGreat R - fLeast R + 1)
def fNearest (R : Nat → Int32) : Int32 := fMax (fLeast R) (fMin 0 (fGreat R))
def fWallBad (R : Nat → Int32) (f : Int32) : Bool := decide (fWP R * fPush R f < 1000 * R 1 * fAbs f) || (decide (R 4 = 3) && decide (f < 0))
def fWGW1 (R : Nat → Int32) (f : Int32) : Int32 := if 0 ≤ fPush R f then 0 else 1
def fWGW2 (R : Nat → Int32) (f : Int32) : Int32 := if fWallBad R f = true then fWGW1 R f ||| 2 else fWGW1 R f
def fWGW3 (R : Nat → Int32) (f : Int32) : Int32 := if f ≤ fLoad R then fWGW2 R f else fWGW2 R f ||| 4
def fWGW (R : Nat → Int32) (f : Int32) : Int32 := if 100 * fPush R f ≤ 10 * R 1 * (fGP R * (fLoad R - f) + 100 * R 5) then fWGW3 R f else fWGW3 R f ||| 8
theorem fBears_in {R : Nat → Int32} {q : Int32} (h : ¬ fBears R q = 0) : vp_in q 3 := by
  unfold fBears at h
  by_cases h0 : q < 0
  · simp [h0] at h
  · by_cases h1 : R 7 ≤ q
    · simp [h0, h1] at h
    · by_cases h2 : 3 ≤ q
      · simp [h0, h1, h2] at h
      · have e0 : ¬ q.toInt < (0 : Int32).toInt := fun z => h0 (Int32.lt_iff_toInt_lt.mpr z)
        have e2 : ¬ (3 : Int32).toInt ≤ q.toInt := fun z => h2 (Int32.le_iff_toInt_le.mpr z)
        refine vp_in_iff.mpr ⟨?_, ?_⟩
        · have : (0 : Int32).toInt = 0 := by decide
          omega
        · have : (3 : Int32).toInt = 3 := by decide
          omega
def sWeightOf (mem : zM) (j : Nat) (q : Int32) : Int32 := if fBears (rv mem j) q = 0 then 0 else mem (3 * j + 1) q.toNatClampNeg
def sStepOf (mem : zM) (j : Nat) (q : Int32) : Int32 := if fBears (rv mem j) q = 0 then 0 else mem (3 * j + 2) q.toNatClampNeg
def sSetStep (mem : zM) (j : Nat) (q v : Int32) : zM := if fBears (rv mem j) q = 0 then mem else mset mem (3 * j + 2) q.toNatClampNeg v
def sAdd (mem : zM) (j : Nat) (w : Int32) : zM := if mem (3 * j) 7 < 0 then mem else if 3 ≤ mem (3 * j) 7 then mem else mset (mset (mset mem (3 * j + 1) (mem (3 * j) 7).toNatClampNeg w) (3 * j + 2) (mem (3 * j) 7).toNatClampNeg 0) (3 * j) 7 (mem (3 * j) 7 + 1)
set_option maxHeartbeats 4000000 in
set_option maxRecDepth 100000 in
theorem k_floorDiv (l : Launch) (D : va_G) (tys : List (ClassId × FieldType)) (ws : va_W) (x y : Int32) (hne : ¬ y = 0) : zMi l yJ9_floorDiv_7cf53 wsJ9_floorDiv_7cf53 ({ frames := 0, cells := 0, slots := 0, locals := 0 }) D tys [.int x, .int y] ws (fun r (_ : Unit) => r = fFD x y) (fun _ => ws) 0 0 := by
  refine zMiF.of (cc := cJ9_floorDiv_7cf53) (maxL := 3) (ret := (some .int)) (by decide +kernel) rfl (lv0 := [(0, .int x), (1, .int y)]) (Nat.le_of_ble_eq_true rfl) rfl ?_
  intro p e s m args below meth c E hZ hr hlocks hnm
  refine z_iload_n E dJ9_floorDiv_7cf53_0 rfl 0 rfl ?_
  refine z_iload_n E dJ9_floorDiv_7cf53_1 rfl 1 rfl ?_
  refine z_idiv E dJ9_floorDiv_7cf53_2 hne ?_
  refine z_istore_n (lv' := [(2, .int (x / y)), (0, .int x), (1, .int y)]) E dJ9_floorDiv_7cf53_3 rfl (by decide) rfl ?_
  refine z_iload_n E dJ9_floorDiv_7cf53_4 rfl 1 rfl ?_
  refine z_iload_n E dJ9_floorDiv_7cf53_5 rfl 2 rfl ?_
  refine z_ixor E dJ9_floorDiv_7cf53_6 ?_
  refine z_if_ge (tgt := 21) E dJ9_floorDiv_7cf53_7 (by decide) (fun c7 => ?_) (fun c7 => ?_)
  · skip
    refine z_iload_n E dJ9_floorDiv_7cf53_21 rfl 0 rfl ?_
    exact z_iretM E hr hlocks (()) rfl (by simp [fFD, c7]) (Nat.le_of_ble_eq_true rfl) (Nat.le_of_ble_eq_true rfl) dJ9_floorDiv_7cf53_22
  · skip
    refine z_iload_n E dJ9_floorDiv_7cf53_10 rfl 0 rfl ?_
    refine z_iload_n E dJ9_floorDiv_7cf53_11 rfl 2 rfl ?_
    refine z_imul E dJ9_floorDiv_7cf53_12 ?_
    refine z_iload_n E dJ9_floorDiv_7cf53_13 rfl 1 rfl ?_
    refine z_icmp_eq (tgt := 21) E dJ9_floorDiv_7cf53_14 (by decide) (fun c14 => ?_) (fun c14 => ?_)
    · skip
      refine z_iload_n E dJ9_floorDiv_7cf53_21 rfl 0 rfl ?_
      exact z_iretM E hr hlocks (()) rfl (by simp [fFD, c7, c14]) (Nat.le_of_ble_eq_true rfl) (Nat.le_of_ble_eq_true rfl) dJ9_floorDiv_7cf53_22
    · skip
      refine z_iload_n E dJ9_floorDiv_7cf53_17 rfl 0 rfl ?_
      refine z_iconst (v := 1) E dJ9_floorDiv_7cf53_18 (by decide) ?_
      refine z_isub E dJ9_floorDiv_7cf53_19 ?_
      exact z_iretM E hr hlocks (()) rfl (by simp [fFD, c7, c14]) (Nat.le_of_ble_eq_true rfl) (Nat.le_of_ble_eq_true rfl) dJ9_floorDiv_7cf53_20
set_option maxHeartbeats 4000000 in
set_option maxRecDepth 100000 in
theorem k_isFull (l : Launch) (D : va_G) (ad : Nat → Nat) (cI cR cS cL : ClassId) (mem : zM) {j : Nat} (hj : j < 29) : zMi l yX2_isFull wsX2_isFull ({ frames := 0, cells := 0, slots := 0, locals := 0 }) D (cK cI cR cS cL) [.ref (ad (3 * j))] (cw ad cI cR cS mem) (fun r u => r = fFull (rv mem j) ∧ u = mem) (cw ad cI cR cS) 0 0 := by
  refine zMiM.of (cc := cX2_isFull) (maxL := 1) (ret := (some .boolean)) (by decide +kernel) rfl (lv0 := [(0, .ref (ad (3 * j)))]) (Nat.le_of_ble_eq_true rfl) rfl ?_
  intro p e s m args below meth c E hZ hr hlocks hnm
  refine z_aload_n E dX2_isFull_0 rfl 0 rfl ?_
  refine z_get E (3 * j) (cw_rig hj) (C := RX2) (T := TX2) (N := 10) rfl (fun _ h => List.mem_cons_of_mem _ (List.mem_append_right _ h)) 7 (by decide) (List.mem_of_getElem? (i := 1) (by decide +kernel)) rfl (v := .int (mem (3 * j) 7)) rfl dX2_isFull_1 ?_
  refine z_iconst (v := 3) E dX2_isFull_4 (by decide) ?_
  refine z_icmp_lt (tgt := 12) E dX2_isFull_5 (by decide) (fun c5 => ?_) (fun c5 => ?_)
  · skip
    refine z_iconst (v := 0) E dX2_isFull_12 (by decide) ?_
    exact z_izretM E hr hlocks (mem) rfl rfl ⟨by simp [fFull, rv, c5], rfl⟩ (Nat.le_of_ble_eq_true rfl) (Nat.le_of_ble_eq_true rfl) dX2_isFull_13
  · skip
    refine z_iconst (v := 1) E dX2_isFull_8 (by decide) ?_
    refine z_goto (tgt := 13) E dX2_isFull_9 (by decide) ?_
    exact z_izretM E hr hlocks (mem) rfl rfl ⟨by simp [fFull, rv, c5], rfl⟩ (Nat.le_of_ble_eq_true rfl) (Nat.le_of_ble_eq_true rfl) dX2_isFull_13
set_option maxHeartbeats 4000000 in
set_option maxRecDepth 100000 in
theorem k_bears (l : Launch) (D : va_G) (ad : Nat → Nat) (cI cR cS cL : ClassId) (mem : zM) {j : Nat} (hj : j < 29) (q : Int32) : zMi l yX2_bears wsX2_bears ({ frames := 0, cells := 0, slots := 0, locals := 0 }) D (cK cI cR cS cL) [.ref (ad (3 * j)), .int q] (cw ad cI cR cS mem) (fun r u => r = fBears (rv mem j) q ∧ u = mem) (cw ad cI cR cS) 0 0 := by
  refine zMiM.of (cc := cX2_bears) (maxL := 2) (ret := (some .boolean)) (by decide +kernel) rfl (lv0 := [(0, .ref (ad (3 * j))), (1, .int q)]) (Nat.le_of_ble_eq_true rfl) rfl ?_
  intro p e s m args below meth c E hZ hr hlocks hnm
  refine z_iload_n E dX2_bears_0 rfl 1 rfl ?_
  refine z_if_lt (tgt := 21) E dX2_bears_1 (by decide) (fun c1 => ?_) (fun c1 => ?_)
  · skip
    refine z_iconst (v := 0) E dX2_bears_21 (by decide) ?_
    exact z_izretM E hr hlocks (mem) rfl rfl ⟨by simp [fBears, rv, c1], rfl⟩ (Nat.le_of_ble_eq_true rfl) (Nat.le_of_ble_eq_true rfl) dX2_bears_22
  · skip
    refine z_iload_n E dX2_bears_4 rfl 1 rfl ?_
    refine z_aload_n E dX2_bears_5 rfl 0 rfl ?_
    refine z_get E (3 * j) (cw_rig hj) (C := RX2) (T := TX2) (N := 10) rfl (fun _ h => List.mem_cons_of_mem _ (List.mem_append_right _ h)) 7 (by decide) (List.mem_of_getElem? (i := 1) (by decide +kernel)) rfl (v := .int (mem (3 * j) 7)) rfl dX2_bears_6 ?_
    refine z_icmp_ge (tgt := 21) E dX2_bears_9 (by decide) (fun c9 => ?_) (fun c9 => ?_)
    · skip
      refine z_iconst (v := 0) E dX2_bears_21 (by decide) ?_
      exact z_izretM E hr hlocks (mem) rfl rfl ⟨by simp [fBears, rv, c1, c9], rfl⟩ (Nat.le_of_ble_eq_true rfl) (Nat.le_of_ble_eq_true rfl) dX2_bears_22
    · skip
      refine z_iload_n E dX2_bears_12 rfl 1 rfl ?_
      refine z_iconst (v := 3) E dX2_bears_13 (by decide) ?_
      refine z_icmp_ge (tgt := 21) E dX2_bears_14 (by decide) (fun c14 => ?_) (fun c14 => ?_)
      · skip
        refine z_iconst (v := 0) E dX2_bears_21 (by decide) ?_
        exact z_izretM E hr hlocks (mem) rfl rfl ⟨by simp [fBears, rv, c1, c9, c14], rfl⟩ (Nat.le_of_ble_eq_true rfl) (Nat.le_of_ble_eq_true rfl) dX2_bears_22
      · skip
        refine z_iconst (v := 1) E dX2_bears_17 (by decide) ?_
        refine z_goto (tgt := 22) E dX2_bears_18 (by decide) ?_
        exact z_izretM E hr hlocks (mem) rfl rfl ⟨by simp [fBears, rv, c1, c9, c14], rfl⟩ (Nat.le_of_ble_eq_true rfl) (Nat.le_of_ble_eq_true rfl) dX2_bears_22
set_option maxHeartbeats 4000000 in
set_option maxRecDepth 100000 in
theorem k_weightOf (l : Launch) (D : va_G) (ad : Nat → Nat) (cI cR cS cL : ClassId) (mem : zM) {j : Nat} (hj : j < 29) (q : Int32) : zMi l yX2_weightOf wsX2_weightOf ({ frames := 1, cells := 0, slots := 0, locals := 21 }) D (cK cI cR cS cL) [.ref (ad (3 * j)), .int q] (cw ad cI cR cS mem) (fun r u => r = sWeightOf mem j q ∧ u = mem) (cw ad cI cR cS) 0 0 := by
  refine zMiM.of (cc := cX2_weightOf) (maxL := 2) (ret := (some .int)) (by decide +kernel) rfl (lv0 := [(0, .ref (ad (3 * j))), (1, .int q)]) (Nat.le_of_ble_eq_true rfl) rfl ?_
  intro p e s m args below meth c E hZ hr hlocks hnm
  refine z_aload_n E dX2_weightOf_0 rfl 0 rfl ?_
  refine z_iload_n E dX2_weightOf_1 rfl 1 rfl ?_
  refine z_callVi E hZ (k_bears l D ad cI cR cS cL mem hj q) gX2_weightOf_X2_bears (n := 1) rfl rfl rfl (by decide +kernel) rfl ⟨Nat.le_of_ble_eq_true rfl, Nat.le_of_ble_eq_true rfl⟩  (C := RX2) rfl (3 * j) (cw_rig hj) (As := [.int q]) (rest := []) rfl (Nat.le_of_ble_eq_true rfl) ⟨Nat.le_of_ble_eq_true rfl, Nat.le_of_ble_eq_true rfl⟩ dX2_weightOf_2 (fun r u hp => ?_)
  rw [hp.1, hp.2]
  refine z_if_eq (tgt := 17) E dX2_weightOf_5 (by decide) (fun c5 => ?_) (fun c5 => ?_)
  · skip
    refine z_iconst (v := 0) E dX2_weightOf_17 (by decide) ?_
    exact z_iretM E hr hlocks (mem) rfl ⟨by simp [sWeightOf, c5], rfl⟩ (Nat.le_of_ble_eq_true rfl) (Nat.le_of_ble_eq_true rfl) dX2_weightOf_18
  · skip
    refine z_aload_n E dX2_weightOf_8 rfl 0 rfl ?_
    refine z_get E (3 * j) (cw_rig hj) (C := RX2) (T := TX2) (N := 10) rfl (fun _ h => List.mem_cons_of_mem _ (List.mem_append_right _ h)) 8 (by decide) (List.mem_of_getElem? (i := 1) (by decide +kernel)) rfl (v := .ref (ad (3 * j + 1))) rfl dX2_weightOf_9 ?_
    refine z_iload_n E dX2_weightOf_12 rfl 1 rfl ?_
    refine z_iald E (3 * j + 1) 0 (cw_wt hj) rfl (fBears_in c5) (v := mem (3 * j + 1) q.toNatClampNeg) rfl dX2_weightOf_13 ?_
    refine z_goto (tgt := 18) E dX2_weightOf_14 (by decide) ?_
    exact z_iretM E hr hlocks (mem) rfl ⟨by simp [sWeightOf, c5], rfl⟩ (Nat.le_of_ble_eq_true rfl) (Nat.le_of_ble_eq_true rfl) dX2_weightOf_18
set_option maxHeartbeats 4000000 in
set_option maxRecDepth 100000 in
theorem k_stepOf (l : Launch) (D : va_G) (ad : Nat → Nat) (cI cR cS cL : ClassId) (mem : zM) {j : Nat} (hj : j < 29) (q : Int32) : zMi l yX2_stepOf wsX2_stepOf ({ frames := 1, cells := 0, slots := 0, locals := 21 }) D (cK cI cR cS cL) [.ref (ad (3 * j)), .int q] (cw ad cI cR cS mem) (fun r u => r = sStepOf mem j q ∧ u = mem) (cw ad cI cR cS) 0 0 := by
  refine zMiM.of (cc := cX2_stepOf) (maxL := 2) (ret := (some .int)) (by decide +kernel) rfl (lv0 := [(0, .ref (ad (3 * j))), (1, .int q)]) (Nat.le_of_ble_eq_true rfl) rfl ?_
  intro p e s m args below meth c E hZ hr hlocks hnm
  refine z_aload_n E dX2_stepOf_0 rfl 0 rfl ?_
  refine z_iload_n E dX2_stepOf_1 rfl 1 rfl ?_
  refine z_callVi E hZ (k_bears l D ad cI cR cS cL mem hj q) gX2_stepOf_X2_bears (n := 1) rfl rfl rfl (by decide +kernel) rfl ⟨Nat.le_of_ble_eq_true rfl, Nat.le_of_ble_eq_true rfl⟩  (C := RX2) rfl (3 * j) (cw_rig hj) (As := [.int q]) (rest := []) rfl (Nat.le_of_ble_eq_true rfl) ⟨Nat.le_of_ble_eq_true rfl, Nat.le_of_ble_eq_true rfl⟩ dX2_stepOf_2 (fun r u hp => ?_)
  rw [hp.1, hp.2]
  refine z_if_eq (tgt := 17) E dX2_stepOf_5 (by decide) (fun c5 => ?_) (fun c5 => ?_)
  · skip
    refine z_iconst (v := 0) E dX2_stepOf_17 (by decide) ?_
    exact z_iretM E hr hlocks (mem) rfl ⟨by simp [sStepOf, c5], rfl⟩ (Nat.le_of_ble_eq_true rfl) (Nat.le_of_ble_eq_true rfl) dX2_stepOf_18
  · skip
    refine z_aload_n E dX2_stepOf_8 rfl 0 rfl ?_
    refine z_get E (3 * j) (cw_rig hj) (C := RX2) (T := TX2) (N := 10) rfl (fun _ h => List.mem_cons_of_mem _ (List.mem_append_right _ h)) 9 (by decide) (List.mem_of_getElem? (i := 1) (by decide +kernel)) rfl (v := .ref (ad (3 * j + 2))) rfl dX2_stepOf_9 ?_
    refine z_iload_n E dX2_stepOf_12 rfl 1 rfl ?_
    refine z_iald E (3 * j + 2) 0 (cw_st hj) rfl (fBears_in c5) (v := mem (3 * j + 2) q.toNatClampNeg) rfl dX2_stepOf_13 ?_
    refine z_goto (tgt := 18) E dX2_stepOf_14 (by decide) ?_
    exact z_iretM E hr hlocks (mem) rfl ⟨by simp [sStepOf, c5], rfl⟩ (Nat.le_of_ble_eq_true rfl) (Nat.le_of_ble_eq_true rfl) dX2_stepOf_18
set_option maxHeartbeats 4000000 in
set_option maxRecDepth 100000 in
theorem k_setStep (l : Launch) (D : va_G) (ad : Nat → Nat) (cI cR cS cL : ClassId) (mem : zM) {j : Nat} (hj : j < 29) (q v : Int32) : zMv l yX2_setStep wsX2_setStep ({ frames := 1, cells := 0, slots := 0, locals := 21 }) D (cK cI cR cS cL) [.ref (ad (3 * j)), .int q, .int v] (cw ad cI cR cS mem) (fun u => u = sSetStep mem j q v) (cw ad cI cR cS) 0 0 := by
  refine zMvM.of (cc := cX2_setStep) (maxL := 3) (ret := none) (by decide +kernel) rfl (lv0 := [(0, .ref (ad (3 * j))), (1, .int q), (2, .int v)]) (Nat.le_of_ble_eq_true rfl) rfl ?_
  intro p e s m args below meth c E hZ hr hlocks hnm
  refine z_aload_n E dX2_setStep_0 rfl 0 rfl ?_
  refine z_iload_n E dX2_setStep_1 rfl 1 rfl ?_
  refine z_callVi E hZ (k_bears l D ad cI cR cS cL mem hj q) gX2_setStep_X2_bears (n := 1) rfl rfl rfl (by decide +kernel) rfl ⟨Nat.le_of_ble_eq_true rfl, Nat.le_of_ble_eq_true rfl⟩  (C := RX2) rfl (3 * j) (cw_rig hj) (As := [.int q]) (rest := []) rfl (Nat.le_of_ble_eq_true rfl) ⟨Nat.le_of_ble_eq_true rfl, Nat.le_of_ble_eq_true rfl⟩ dX2_setStep_2 (fun r u hp => ?_)
  rw [hp.1, hp.2]
  refine z_if_eq (tgt := 15) E dX2_setStep_5 (by decide) (fun c5 => ?_) (fun c5 => ?_)
  · skip
    exact z_vretM E hr hlocks (mem) rfl (by simp [sSetStep, c5]) (Nat.le_of_ble_eq_true rfl) (Nat.le_of_ble_eq_true rfl) dX2_setStep_15
  · skip
    refine z_aload_n E dX2_setStep_8 rfl 0 rfl ?_
    refine z_get E (3 * j) (cw_rig hj) (C := RX2) (T := TX2) (N := 10) rfl (fun _ h => List.mem_cons_of_mem _ (List.mem_append_right _ h)) 9 (by decide) (List.mem_of_getElem? (i := 1) (by decide +kernel)) rfl (v := .ref (ad (3 * j + 2))) rfl dX2_setStep_9 ?_
    refine z_iload_n E dX2_setStep_12 rfl 1 rfl ?_
    refine z_iload_n E dX2_setStep_13 rfl 2 rfl ?_
    refine z_iast E (3 * j + 2) 0 (cw_st hj) rfl (fBears_in c5) (ws' := cw ad cI cR cS (mset mem (3 * j + 2) q.toNatClampNeg v)) (cs_st hj q.toNatClampNeg v) dX2_setStep_14 ?_
    refine z_gm (fun m1 hm1 => ?_)
    exact z_vretM E hr hlocks (m1) rfl (by simp [sSetStep, c5, hm1]) (Nat.le_of_ble_eq_true rfl) (Nat.le_of_ble_eq_true rfl) dX2_setStep_15
set_option maxHeartbeats 4000000 in
set_option maxRecDepth 100000 in
theorem k_load (l : Launch) (D : va_G) (ad : Nat → Nat) (cI cR cS cL : ClassId) (mem : zM) {j : Nat} (hj : j < 29) : zMi l yX2_load wsX2_load ({ frames := 0, cells := 0, slots := 0, locals := 0 }) D (cK cI cR cS cL) [.ref (ad (3 * j))] (cw ad cI cR cS mem) (fun r u => r = fLoad (rv mem j) ∧ u = mem) (cw ad cI cR cS) 0 0 := by
  refine zMiM.of (cc := cX2_load) (maxL := 3) (ret := (some .int)) (by decide +kernel) rfl (lv0 := [(0, .ref (ad (3 * j)))]) (Nat.le_of_ble_eq_true rfl) rfl ?_
  intro p e s m args below meth c E hZ hr hlocks hnm
  refine z_aload_n E dX2_load_0 rfl 0 rfl ?_
  refine z_get E (3 * j) (cw_rig hj) (C := RX2) (T := TX2) (N := 10) rfl (fun _ h => List.mem_cons_of_mem _ (List.mem_append_right _ h)) 2 (by decide) (List.mem_of_getElem? (i := 1) (by decide +kernel)) rfl (v := .int (mem (3 * j) 2)) rfl dX2_load_1 ?_
  refine z_istore_n (lv' := [(1, .int (mem (3 * j) 2)), (0, .ref (ad (3 * j)))]) E dX2_load_4 rfl (by decide) rfl ?_
  refine z_iconst (v := 0) E dX2_load_5 (by decide) ?_
  refine z_istore_n (lv' := [(2, .int 0), (1, .int (mem (3 * j) 2)), (0, .ref (ad (3 * j)))]) E dX2_load_6 rfl (by decide) rfl ?_
  refine z_iload_n E dX2_load_7 rfl 0 rfl ?_
  refine z_iconst (v := 3) E dX2_load_8 (by decide) ?_
  refine z_icmp_ge_f (tgt := 27) E dX2_load_9 (by decide) (by decide) ?_
  refine z_iload_n E dX2_load_12 rfl 1 rfl ?_
  refine z_aload_n E dX2_load_13 rfl 2 rfl ?_
  refine z_get E (3 * j) (cw_rig hj) (C := RX2) (T := TX2) (N := 10) rfl (fun _ h => List.mem_cons_of_mem _ (List.mem_append_right _ h)) 8 (by decide) (List.mem_of_getElem? (i := 2) (by decide +kernel)) rfl (v := .ref (ad (3 * j + 1))) rfl dX2_load_14 ?_
  refine z_iload_n E dX2_load_17 rfl 0 rfl ?_
  refine z_iald E (3 * j + 1) 0 (cw_wt hj) rfl (zvin rfl) (v := mem (3 * j + 1) 0) rfl dX2_load_18 ?_
  refine z_iadd E dX2_load_19 ?_
  refine z_istore_n (lv' := [(1, .int ((mem (3 * j) 2) + (mem (3 * j + 1) 0))), (2, .int 0), (0, .ref (ad (3 * j)))]) E dX2_load_20 rfl (by decide) rfl ?_
  refine z_iinc (v := 1) (lv' := [(2, .int 1), (1, .int ((mem (3 * j) 2) + (mem (3 * j + 1) 0))), (0, .ref (ad (3 * j)))]) E dX2_load_21 (q := 1) rfl (by decide) (by decide) rfl ?_
  refine z_goto (tgt := 7) E dX2_load_24 (by decide) ?_
  refine z_iload_n E dX2_load_7 rfl 0 rfl ?_
  refine z_iconst (v := 3) E dX2_load_8 (by decide) ?_
  refine z_icmp_ge_f (tgt := 27) E dX2_load_9 (by decide) (by decide) ?_
  refine z_iload_n E dX2_load_12 rfl 1 rfl ?_
  refine z_aload_n E dX2_load_13 rfl 2 rfl ?_
  refine z_get E (3 * j) (cw_rig hj) (C := RX2) (T := TX2) (N := 10) rfl (fun _ h => List.mem_cons_of_mem _ (List.mem_append_right _ h)) 8 (by decide) (List.mem_of_getElem? (i := 2) (by decide +kernel)) rfl (v := .ref (ad (3 * j + 1))) rfl dX2_load_14 ?_
  refine z_iload_n E dX2_load_17 rfl 0 rfl ?_
  refine z_iald E (3 * j + 1) 0 (cw_wt hj) rfl (zvin rfl) (v := mem (3 * j + 1) 1) rfl dX2_load_18 ?_
  refine z_iadd E dX2_load_19 ?_
  refine z_istore_n (lv' := [(1, .int (((mem (3 * j) 2) + (mem (3 * j + 1) 0)) + (mem (3 * j + 1) 1))), (2, .int 1), (0, .ref (ad (3 * j)))]) E dX2_load_20 rfl (by decide) rfl ?_
  refine z_iinc (v := 2) (lv' := [(2, .int 2), (1, .int (((mem (3 * j) 2) + (mem (3 * j + 1) 0)) + (mem (3 * j + 1) 1))), (0, .ref (ad (3 * j)))]) E dX2_load_21 (q := 1) rfl (by decide) (by decide) rfl ?_
  refine z_goto (tgt := 7) E dX2_load_24 (by decide) ?_
  refine z_iload_n E dX2_load_7 rfl 0 rfl ?_
  refine z_iconst (v := 3) E dX2_load_8 (by decide) ?_
  refine z_icmp_ge_f (tgt := 27) E dX2_load_9 (by decide) (by decide) ?_
  refine z_iload_n E dX2_load_12 rfl 1 rfl ?_
  refine z_aload_n E dX2_load_13 rfl 2 rfl ?_
  refine z_get E (3 * j) (cw_rig hj) (C := RX2) (T := TX2) (N := 10) rfl (fun _ h => List.mem_cons_of_mem _ (List.mem_append_right _ h)) 8 (by decide) (List.mem_of_getElem? (i := 2) (by decide +kernel)) rfl (v := .ref (ad (3 * j + 1))) rfl dX2_load_14 ?_
  refine z_iload_n E dX2_load_17 rfl 0 rfl ?_
  refine z_iald E (3 * j + 1) 0 (cw_wt hj) rfl (zvin rfl) (v := mem (3 * j + 1) 2) rfl dX2_load_18 ?_
  refine z_iadd E dX2_load_19 ?_
  refine z_istore_n (lv' := [(1, .int ((((mem (3 * j) 2) + (mem (3 * j + 1) 0)) + (mem (3 * j + 1) 1)) + (mem (3 * j + 1) 2))), (2, .int 2), (0, .ref (ad (3 * j)))]) E dX2_load_20 rfl (by decide) rfl ?_
  refine z_iinc (v := 3) (lv' := [(2, .int 3), (1, .int ((((mem (3 * j) 2) + (mem (3 * j + 1) 0)) + (mem (3 * j + 1) 1)) + (mem (3 * j + 1) 2))), (0, .ref (ad (3 * j)))]) E dX2_load_21 (q := 1) rfl (by decide) (by decide) rfl ?_
  refine z_goto (tgt := 7) E dX2_load_24 (by decide) ?_
  refine z_iload_n E dX2_load_7 rfl 0 rfl ?_
  refine z_iconst (v := 3) E dX2_load_8 (by decide) ?_
  refine z_icmp_ge_t (tgt := 27) E dX2_load_9 (by decide) (by decide) ?_
  refine z_iload_n E dX2_load_27 rfl 1 rfl ?_
  exact z_iretM E hr hlocks (mem) rfl ⟨rfl, rfl⟩ (Nat.le_of_ble_eq_true rfl) (Nat.le_of_ble_eq_true rfl) dX2_load_28
set_option maxHeartbeats 4000000 in
set_option maxRecDepth 100000 in
theorem k_moment (l : Launch) (D : va_G) (ad : Nat → Nat) (cI cR cS cL : ClassId) (mem : zM) {j : Nat} (hj : j < 29) : zMi l yX2_moment wsX2_moment ({ frames := 0, cells := 0, slots := 0, locals := 0 }) D (cK cI cR cS cL) [.ref (ad (3 * j))] (cw ad cI cR cS mem) (fun r u => r = fMoment (rv mem j) ∧ u = mem) (cw ad cI cR cS) 0 0 := by
  refine zMiM.of (cc := cX2_moment) (maxL := 3) (ret := (some .int)) (by decide +kernel) rfl (lv0 := [(0, .ref (ad (3 * j)))]) (Nat.le_of_ble_eq_true rfl) rfl ?_
  intro p e s m args below meth c E hZ hr hlocks hnm
  refine z_iconst (v := 5) E dX2_moment_0 (by decide) ?_
  refine z_aload_n E dX2_moment_1 rfl 0 rfl ?_
  refine z_get E (3 * j) (cw_rig hj) (C := RX2) (T := TX2) (N := 10) rfl (fun _ h => List.mem_cons_of_mem _ (List.mem_append_right _ h)) 2 (by decide) (List.mem_of_getElem? (i := 1) (by decide +kernel)) rfl (v := .int (mem (3 * j) 2)) rfl dX2_moment_2 ?_
  refine z_imul E dX2_moment_5 ?_
  refine z_istore_n (lv' := [(1, .int (5 * (mem (3 * j) 2))), (0, .ref (ad (3 * j)))]) E dX2_moment_6 rfl (by decide) rfl ?_
  refine z_iconst (v := 0) E dX2_moment_7 (by decide) ?_
  refine z_istore_n (lv' := [(2, .int 0), (1, .int (5 * (mem (3 * j) 2))), (0, .ref (ad (3 * j)))]) E dX2_moment_8 rfl (by decide) rfl ?_
  refine z_iload_n E dX2_moment_9 rfl 0 rfl ?_
  refine z_iconst (v := 3) E dX2_moment_10 (by decide) ?_
  refine z_icmp_ge_f (tgt := 36) E dX2_moment_11 (by decide) (by decide) ?_
  refine z_iload_n E dX2_moment_14 rfl 1 rfl ?_
  refine z_aload_n E dX2_moment_15 rfl 2 rfl ?_
  refine z_get E (3 * j) (cw_rig hj) (C := RX2) (T := TX2) (N := 10) rfl (fun _ h => List.mem_cons_of_mem _ (List.mem_append_right _ h)) 9 (by decide) (List.mem_of_getElem? (i := 2) (by decide +kernel)) rfl (v := .ref (ad (3 * j + 2))) rfl dX2_moment_16 ?_
  refine z_iload_n E dX2_moment_19 rfl 0 rfl ?_
  refine z_iald E (3 * j + 2) 0 (cw_st hj) rfl (zvin rfl) (v := mem (3 * j + 2) 0) rfl dX2_moment_20 ?_
  refine z_aload_n E dX2_moment_21 rfl 2 rfl ?_
  refine z_get E (3 * j) (cw_rig hj) (C := RX2) (T := TX2) (N := 10) rfl (fun _ h => List.mem_cons_of_mem _ (List.mem_append_right _ h)) 8 (by decide) (List.mem_of_getElem? (i := 3) (by decide +kernel)) rfl (v := .ref (ad (3 * j + 1))) rfl dX2_moment_22 ?_
  refine z_iload_n E dX2_moment_25 rfl 0 rfl ?_
  refine z_iald E (3 * j + 1) 0 (cw_wt hj) rfl (zvin rfl) (v := mem (3 * j + 1) 0) rfl dX2_moment_26 ?_
  refine z_imul E dX2_moment_27 ?_
  refine z_iadd E dX2_moment_28 ?_
  refine z_istore_n (lv' := [(1, .int ((5 * (mem (3 * j) 2)) + ((mem (3 * j + 2) 0) * (mem (3 * j + 1) 0)))), (2, .int 0), (0, .ref (ad (3 * j)))]) E dX2_moment_29 rfl (by decide) rfl ?_
  refine z_iinc (v := 1) (lv' := [(2, .int 1), (1, .int ((5 * (mem (3 * j) 2)) + ((mem (3 * j + 2) 0) * (mem (3 * j + 1) 0)))), (0, .ref (ad (3 * j)))]) E dX2_moment_30 (q := 1) rfl (by decide) (by decide) rfl ?_
  refine z_goto (tgt := 9) E dX2_moment_33 (by decide) ?_
  refine z_iload_n E dX2_moment_9 rfl 0 rfl ?_
  refine z_iconst (v := 3) E dX2_moment_10 (by decide) ?_
  refine z_icmp_ge_f (tgt := 36) E dX2_moment_11 (by decide) (by decide) ?_
  refine z_iload_n E dX2_moment_14 rfl 1 rfl ?_
  refine z_aload_n E dX2_moment_15 rfl 2 rfl ?_
  refine z_get E (3 * j) (cw_rig hj) (C := RX2) (T := TX2) (N := 10) rfl (fun _ h => List.mem_cons_of_mem _ (List.mem_append_right _ h)) 9 (by decide) (List.mem_of_getElem? (i := 2) (by decide +kernel)) rfl (v := .ref (ad (3 * j + 2))) rfl dX2_moment_16 ?_
  refine z_iload_n E dX2_moment_19 rfl 0 rfl ?_
  refine z_iald E (3 * j + 2) 0 (cw_st hj) rfl (zvin rfl) (v := mem (3 * j + 2) 1) rfl dX2_moment_20 ?_
  refine z_aload_n E dX2_moment_21 rfl 2 rfl ?_
  refine z_get E (3 * j) (cw_rig hj) (C := RX2) (T := TX2) (N := 10) rfl (fun _ h => List.mem_cons_of_mem _ (List.mem_append_right _ h)) 8 (by decide) (List.mem_of_getElem? (i := 3) (by decide +kernel)) rfl (v := .ref (ad (3 * j + 1))) rfl dX2_moment_22 ?_
  refine z_iload_n E dX2_moment_25 rfl 0 rfl ?_
  refine z_iald E (3 * j + 1) 0 (cw_wt hj) rfl (zvin rfl) (v := mem (3 * j + 1) 1) rfl dX2_moment_26 ?_
  refine z_imul E dX2_moment_27 ?_
  refine z_iadd E dX2_moment_28 ?_
  refine z_istore_n (lv' := [(1, .int (((5 * (mem (3 * j) 2)) + ((mem (3 * j + 2) 0) * (mem (3 * j + 1) 0))) + ((mem (3 * j + 2) 1) * (mem (3 * j + 1) 1)))), (2, .int 1), (0, .ref (ad (3 * j)))]) E dX2_moment_29 rfl (by decide) rfl ?_
  refine z_iinc (v := 2) (lv' := [(2, .int 2), (1, .int (((5 * (mem (3 * j) 2)) + ((mem (3 * j + 2) 0) * (mem (3 * j + 1) 0))) + ((mem (3 * j + 2) 1) * (mem (3 * j + 1) 1)))), (0, .ref (ad (3 * j)))]) E dX2_moment_30 (q := 1) rfl (by decide) (by decide) rfl ?_
  refine z_goto (tgt := 9) E dX2_moment_33 (by decide) ?_
  refine z_iload_n E dX2_moment_9 rfl 0 rfl ?_
  refine z_iconst (v := 3) E dX2_moment_10 (by decide) ?_
  refine z_icmp_ge_f (tgt := 36) E dX2_moment_11 (by decide) (by decide) ?_
  refine z_iload_n E dX2_moment_14 rfl 1 rfl ?_
  refine z_aload_n E dX2_moment_15 rfl 2 rfl ?_
  refine z_get E (3 * j) (cw_rig hj) (C := RX2) (T := TX2) (N := 10) rfl (fun _ h => List.mem_cons_of_mem _ (List.mem_append_right _ h)) 9 (by decide) (List.mem_of_getElem? (i := 2) (by decide +kernel)) rfl (v := .ref (ad (3 * j + 2))) rfl dX2_moment_16 ?_
  refine z_iload_n E dX2_moment_19 rfl 0 rfl ?_
  refine z_iald E (3 * j + 2) 0 (cw_st hj) rfl (zvin rfl) (v := mem (3 * j + 2) 2) rfl dX2_moment_20 ?_
  refine z_aload_n E dX2_moment_21 rfl 2 rfl ?_
  refine z_get E (3 * j) (cw_rig hj) (C := RX2) (T := TX2) (N := 10) rfl (fun _ h => List.mem_cons_of_mem _ (List.mem_append_right _ h)) 8 (by decide) (List.mem_of_getElem? (i := 3) (by decide +kernel)) rfl (v := .ref (ad (3 * j + 1))) rfl dX2_moment_22 ?_
  refine z_iload_n E dX2_moment_25 rfl 0 rfl ?_
  refine z_iald E (3 * j + 1) 0 (cw_wt hj) rfl (zvin rfl) (v := mem (3 * j + 1) 2) rfl dX2_moment_26 ?_
  refine z_imul E dX2_moment_27 ?_
  refine z_iadd E dX2_moment_28 ?_
  refine z_istore_n (lv' := [(1, .int ((((5 * (mem (3 * j) 2)) + ((mem (3 * j + 2) 0) * (mem (3 * j + 1) 0))) + ((mem (3 * j + 2) 1) * (mem (3 * j + 1) 1))) + ((mem (3 * j + 2) 2) * (mem (3 * j + 1) 2)))), (2, .int 2), (0, .ref (ad (3 * j)))]) E dX2_moment_29 rfl (by decide) rfl ?_
  refine z_iinc (v := 3) (lv' := [(2, .int 3), (1, .int ((((5 * (mem (3 * j) 2)) + ((mem (3 * j + 2) 0) * (mem (3 * j + 1) 0))) + ((mem (3 * j + 2) 1) * (mem (3 * j + 1) 1))) + ((mem (3 * j + 2) 2) * (mem (3 * j + 1) 2)))), (0, .ref (ad (3 * j)))]) E dX2_moment_30 (q := 1) rfl (by decide) (by decide) rfl ?_
  refine z_goto (tgt := 9) E dX2_moment_33 (by decide) ?_
  refine z_iload_n E dX2_moment_9 rfl 0 rfl ?_
  refine z_iconst (v := 3) E dX2_moment_10 (by decide) ?_
  refine z_icmp_ge_t (tgt := 36) E dX2_moment_11 (by decide) (by decide) ?_
  refine z_aload_n E dX2_moment_36 rfl 2 rfl ?_
  refine z_get E (3 * j) (cw_rig hj) (C := RX2) (T := TX2) (N := 10) rfl (fun _ h => List.mem_cons_of_mem _ (List.mem_append_right _ h)) 0 (by decide) (List.mem_of_getElem? (i := 4) (by decide +kernel)) rfl (v := .int (mem (3 * j) 0)) rfl dX2_moment_37 ?_
  refine z_iload_n E dX2_moment_40 rfl 1 rfl ?_
  refine z_imul E dX2_moment_41 ?_
  exact z_iretM E hr hlocks (mem) rfl ⟨rfl, rfl⟩ (Nat.le_of_ble_eq_true rfl) (Nat.le_of_ble_eq_true rfl) dX2_moment_42
set_option maxHeartbeats 4000000 in
set_option maxRecDepth 100000 in
theorem k_push (l : Launch) (D : va_G) (ad : Nat → Nat) (cI cR cS cL : ClassId) (mem : zM) {j : Nat} (hj : j < 29) (f : Int32) : zMi l yX2_push wsX2_push ({ frames := 1, cells := 0, slots := 0, locals := 22 }) D (cK cI cR cS cL) [.ref (ad (3 * j)), .int f] (cw ad cI cR cS mem) (fun r u => r = fPush (rv mem j) f ∧ u = mem) (cw ad cI cR cS) 0 0 := by
  refine zMiM.of (cc := cX2_push) (maxL := 2) (ret := (some .int)) (by decide +kernel) rfl (lv0 := [(0, .ref (ad (3 * j))), (1, .int f)]) (Nat.le_of_ble_eq_true rfl) rfl ?_
  intro p e s m args below meth c E hZ hr hlocks hnm
  refine z_aload_n E dX2_push_0 rfl 0 rfl ?_
  refine z_callVi E hZ (k_moment l D ad cI cR cS cL mem hj) gX2_push_X2_moment (n := 0) rfl rfl rfl (by decide +kernel) rfl ⟨Nat.le_of_ble_eq_true rfl, Nat.le_of_ble_eq_true rfl⟩  (C := RX2) rfl (3 * j) (cw_rig hj) (As := []) (rest := []) rfl (Nat.le_of_ble_eq_true rfl) ⟨Nat.le_of_ble_eq_true rfl, Nat.le_of_ble_eq_true rfl⟩ dX2_push_1 (fun r u hp => ?_)
  rw [hp.1, hp.2]
  refine z_bipush (v := 10) E dX2_push_4 (by decide) ?_
  refine z_iload_n E dX2_push_6 rfl 1 rfl ?_
  refine z_imul E dX2_push_7 ?_
  refine z_aload_n E dX2_push_8 rfl 0 rfl ?_
  refine z_get E (3 * j) (cw_rig hj) (C := RX2) (T := TX2) (N := 10) rfl (fun _ h => List.mem_cons_of_mem _ (List.mem_append_right _ h)) 0 (by decide) (List.mem_of_getElem? (i := 1) (by decide +kernel)) rfl (v := .int (mem (3 * j) 0)) rfl dX2_push_9 ?_
  refine z_imul E dX2_push_12 ?_
  refine z_isub E dX2_push_13 ?_
  exact z_iretM E hr hlocks (mem) rfl ⟨rfl, rfl⟩ (Nat.le_of_ble_eq_true rfl) (Nat.le_of_ble_eq_true rfl) dX2_push_14
