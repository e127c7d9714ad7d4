/-! the reference: its object, its arrays -/
def mRow (am : Nat → Nat) (dg : Int64) (r : Nat → Int32) : List Value := [.int (r 0), .ref (am 1), .ref (am 2), .int (r 3), .ref (am 3), .int (r 5), .int (r 6), .int (r 7), .int (r 8), .int (r 9), .int (r 10), .int (r 11), .int (r 12), .int (r 13), .int (r 14), .long dg]
def mw (am : Nat → Nat) (cI : ClassId) (dg : Int64) (mm : zM) : va_W := [(am 0, .inr (6, [.int (mm 0 0), .ref (am 1), .ref (am 2), .int (mm 0 3), .ref (am 3), .int (mm 0 5), .int (mm 0 6), .int (mm 0 7), .int (mm 0 8), .int (mm 0 9), .int (mm 0 10), .int (mm 0 11), .int (mm 0 12), .int (mm 0 13), .int (mm 0 14), .long dg])), (am 1, .inl (cI, 58, .inl (mm 1))), (am 2, .inl (cI, 348, .inl (mm 2))), (am 3, .inl (cI, 60, .inl (mm 3)))]
section ZW2
variable {am : Nat → Nat} {cI : ClassId} {dg : Int64} {mm : zM}
theorem mw_obj : (mw am cI dg mm)[0]? = some (am 0, .inr (6, [.int (mm 0 0), .ref (am 1), .ref (am 2), .int (mm 0 3), .ref (am 3), .int (mm 0 5), .int (mm 0 6), .int (mm 0 7), .int (mm 0 8), .int (mm 0 9), .int (mm 0 10), .int (mm 0 11), .int (mm 0 12), .int (mm 0 13), .int (mm 0 14), .long dg])) := rfl
theorem mw_s : (mw am cI dg mm)[1]? = some (am 1, .inl (cI, 58, .inl (mm 1))) := rfl
theorem mw_saved : (mw am cI dg mm)[2]? = some (am 2, .inl (cI, 348, .inl (mm 2))) := rfl
theorem mw_text : (mw am cI dg mm)[3]? = some (am 3, .inl (cI, 60, .inl (mm 3))) := rfl
def mOb (k : Nat) : Bool := k == 0 || k == 3 || k == 5 || k == 6 || k == 7 || k == 8 || k == 9 || k == 10 || k == 11 || k == 12 || k == 13 || k == 14
theorem ms_obj (k : Nat) (hk : mOb k = true) (_ : k < 15) {v : Int32} {x : va_E} (hx : x = .inr (6, [.int (mm 0 0), .ref (am 1), .ref (am 2), .int (mm 0 3), .ref (am 3), .int (mm 0 5), .int (mm 0 6), .int (mm 0 7), .int (mm 0 8), .int (mm 0 9), .int (mm 0 10), .int (mm 0 11), .int (mm 0 12), .int (mm 0 13), .int (mm 0 14), .long dg].set k (.int v))) : (mw am cI dg mm).set 0 (am 0, x) = mw am cI dg (mset mm 0 k v) := by
  subst hx
  have h1 : mset mm 0 k v 1 = mm 1 := mset_ne _ _ _ (by decide)
  have h2 : mset mm 0 k v 2 = mm 2 := mset_ne _ _ _ (by decide)
  have h3 : mset mm 0 k v 3 = mm 3 := mset_ne _ _ _ (by decide)
  unfold mw
  rw [h1, h2, h3]
  have e : k = 0 ∨ k = 3 ∨ k = 5 ∨ k = 6 ∨ k = 7 ∨ k = 8 ∨ k = 9 ∨ k = 10 ∨ k = 11 ∨ k = 12 ∨ k = 13 ∨ k = 14 := by
    simp only [mOb, Bool.or_eq_true, beq_iff_eq] at hk
    omega
  rcases e with h | h | h | h | h | h | h | h | h | h | h | h <;> subst h <;> simp [mset]
theorem ms_s (n : Nat) (v : Int32) : (mw am cI dg mm).set 1 (am 1, .inl (cI, 58, .inl (upd (mm 1) n v))) = mw am cI dg (mset mm 1 n v) := by
  unfold mw
  rw [mset_ne mm n v (show 0 ≠ 1 by decide), mset_ne mm n v (show 2 ≠ 1 by decide), mset_ne mm n v (show 3 ≠ 1 by decide), mset_self]
  rfl
theorem ms_saved (n : Nat) (v : Int32) : (mw am cI dg mm).set 2 (am 2, .inl (cI, 348, .inl (upd (mm 2) n v))) = mw am cI dg (mset mm 2 n v) := by
  unfold mw
  rw [mset_ne mm n v (show 0 ≠ 2 by decide), mset_ne mm n v (show 1 ≠ 2 by decide), mset_ne mm n v (show 3 ≠ 2 by decide), mset_self]
  rfl
theorem ms_text (n : Nat) (v : Int32) : (mw am cI dg mm).set 3 (am 3, .inl (cI, 60, .inl (upd (mm 3) n v))) = mw am cI dg (mset mm 3 n v) := by
  unfold mw
  rw [mset_ne mm n v (show 0 ≠ 3 by decide), mset_ne mm n v (show 1 ≠ 3 by decide), mset_ne mm n v (show 2 ≠ 3 by decide), mset_self]
  rfl
end ZW2
theorem z_gm2 {p : Program} {l : Launch} {e : Env} {R : Room} {s : State} {m : MethodId} {args : Array Value} {below : List Frame} {meth : Method} {c : Code} {D : va_G} {A : Nat → Prop} {Q : State → Prop} {nL : Nat} {cells slots pc : Nat} {lv : List (Nat × Value)} {st : List Value} {am : Nat → Nat} {cI : ClassId} {dg : Int64} {mem : zM} (k : ∀ m' : zM, m' = mem → zW p l e R s m args below meth c D A Q nL (mw am cI dg m') cells slots pc lv st) : zW p l e R s m args below meth c D A Q nL (mw am cI dg mem) cells slots pc lv st := k mem rfl
/-- the rig k, as the reference holds it -/
def mR (s : Nat → Int32) (k : Nat) (R : Nat → Int32) (p : Nat) : Prop := s (14 * k + 0) = R 0 ∧ s (14 * k + 1) = R 1 ∧ s (14 * k + 2) = R 2 ∧ s (14 * k + 3) = R 3 ∧ s (14 * k + 4) = R 4 ∧ s (14 * k + 5) = R 5 ∧ s (14 * k + 6) = nI p ∧ s (14 * k + 7) = R 6 ∧ ∀ t, t < p → s (14 * k + 8 + 2 * t) = R (8 + t) ∧ s (14 * k + 9 + 2 * t) = R (11 + t)
/-- its people, as far as forces go -/
def rQ (R : Nat → Int32) (p : Nat) : Prop := p ≤ 3 ∧ ∀ t, t < 3 → (0 ≤ (R (8 + t)).toInt ∧ (R (8 + t)).toInt ≤ 150) ∧ (0 ≤ (R (11 + t)).toInt ∧ (R (11 + t)).toInt ≤ 10) ∧ (p ≤ t → R (8 + t) = 0)
theorem rQ_of {R : Nat → Int32} {p : Nat} (h : rPp R p) : rQ R p := by
  refine ⟨h.1, fun t ht => ?_⟩
  obtain ⟨a, b⟩ := h.2.2 t ht
  rcases Nat.lt_or_ge t p with g | g
  · obtain ⟨w, z, h1, h2, h3, h4, h5⟩ := a g
    rw [h4, h5, nI_toInt (by omega), nI_toInt (by omega)]
    exact ⟨by omega, by omega, fun h => by omega⟩
  · obtain ⟨b1, b2⟩ := b g
    rw [b1, b2]
    exact ⟨by decide, by decide, fun _ => rfl⟩
def fWk (x : Int32) : Int32 := if x = 0 then 0 else if x = 1 then 20 else if x = 2 then 45 else 60
def fGk (x : Int32) : Int32 := if x = 0 then 5 else if x = 1 then 25 else if x = 2 then 40 else 60
def fIn (v lo hi : Int32) : Int32 := if v < lo then 0 else if hi < v then 0 else 1
theorem fIn_01 (v lo hi : Int32) : fIn v lo hi = 0 ∨ fIn v lo hi = 1 := f01_if (Or.inl rfl) (f01_if (Or.inl rfl) (Or.inr rfl))
theorem zof (k : Nat) {y : Int32} {w : Nat} (hy : y = nI w) : 14 * nI k + y = nI (14 * k + w) := by
  rw [hy, ← nI_add, ← pk_mul]; rfl
theorem zofP (k t : Nat) {y z : Int32} {w N : Nat} (hy : y = nI t) (hz : z = nI w) (hN : 14 * k + 8 + 2 * t + w = N) : 14 * nI k + 8 + 2 * y + z = nI N := by
  rw [hy, hz, ← hN, ← nI_add, ← nI_add, ← nI_add, ← pk_mul, ← pk_mul]; rfl
set_option maxHeartbeats 1000000 in
set_option maxRecDepth 100000 in
theorem k_of (l : Launch) (D : va_G) (am : Nat → Nat) (cI cR cS cL : ClassId) (dg : Int64) (mem : zM) (x y : Int32) : zMi l yX6_of wsX6_of ({ frames := 0, cells := 0, slots := 0, locals := 0 }) D (cK cI cR cS cL) [.int x, .int y] (mw am cI dg mem) (fun r u => r = 14 * x + y ∧ u = mem) (mw am cI dg) 0 0 := by
  refine zMiM.of (cc := cX6_of) (maxL := 2) (ret := (some .int)) (by decide +kernel) rfl (lv0 := [(0, .int x), (1, .int y)]) (Nat.le_of_ble_eq_true rfl) rfl ?_
  intro p e s m args below meth c E hZ hr hlocks hnm
  refine z_bipush (v := 14) E dX6_of_0 (by decide) ?_
  refine z_iload_n E dX6_of_2 rfl 0 rfl ?_
  refine z_imul E dX6_of_3 ?_
  refine z_iload_n E dX6_of_4 rfl 1 rfl ?_
  refine z_iadd E dX6_of_5 ?_
  exact z_iretM E hr hlocks (mem) rfl ⟨rfl, rfl⟩ (Nat.le_of_ble_eq_true rfl) (Nat.le_of_ble_eq_true rfl) dX6_of_6
set_option maxHeartbeats 1000000 in
set_option maxRecDepth 100000 in
theorem k_ofP (l : Launch) (D : va_G) (am : Nat → Nat) (cI cR cS cL : ClassId) (dg : Int64) (mem : zM) (x y v : Int32) : zMi l yX6_ofPerson wsX6_ofPerson ({ frames := 0, cells := 0, slots := 0, locals := 0 }) D (cK cI cR cS cL) [.int x, .int y, .int v] (mw am cI dg mem) (fun r u => r = 14 * x + 8 + 2 * y + v ∧ u = mem) (mw am cI dg) 0 0 := by
  refine zMiM.of (cc := cX6_ofPerson) (maxL := 3) (ret := (some .int)) (by decide +kernel) rfl (lv0 := [(0, .int x), (1, .int y), (2, .int v)]) (Nat.le_of_ble_eq_true rfl) rfl ?_
  intro p e s m args below meth c E hZ hr hlocks hnm
  refine z_bipush (v := 14) E dX6_ofPerson_0 (by decide) ?_
  refine z_iload_n E dX6_ofPerson_2 rfl 0 rfl ?_
  refine z_imul E dX6_ofPerson_3 ?_
  refine z_bipush (v := 8) E dX6_ofPerson_4 (by decide) ?_
  refine z_iadd E dX6_ofPerson_6 ?_
  refine z_iconst (v := 2) E dX6_ofPerson_7 (by decide) ?_
  refine z_iload_n E dX6_ofPerson_8 rfl 1 rfl ?_
  refine z_imul E dX6_ofPerson_9 ?_
  refine z_iadd E dX6_ofPerson_10 ?_
  refine z_iload_n E dX6_ofPerson_11 rfl 2 rfl ?_
  refine z_iadd E dX6_ofPerson_12 ?_
  exact z_iretM E hr hlocks (mem) rfl ⟨rfl, rfl⟩ (Nat.le_of_ble_eq_true rfl) (Nat.le_of_ble_eq_true rfl) dX6_ofPerson_13
set_option maxHeartbeats 1000000 in
set_option maxRecDepth 100000 in
theorem k_wallOf (l : Launch) (D : va_G) (am : Nat → Nat) (cI cR cS cL : ClassId) (dg : Int64) (mem : zM) (x : Int32) : zMi l yX6_wallOf wsX6_wallOf ({ frames := 0, cells := 0, slots := 0, locals := 0 }) D (cK cI cR cS cL) [.int x] (mw am cI dg mem) (fun r u => r = fWk x ∧ u = mem) (mw am cI dg) 0 0 := by
  refine zMiM.of (cc := cX6_wallOf) (maxL := 1) (ret := (some .int)) (by decide +kernel) rfl (lv0 := [(0, .int x)]) (Nat.le_of_ble_eq_true rfl) rfl ?_
  intro p e s m args below meth c E hZ hr hlocks hnm
  refine z_iload_n E dX6_wallOf_0 rfl 0 rfl ?_
  refine z_if_ne (tgt := 8) E dX6_wallOf_1 (by decide) (fun c1 => ?_) (fun c1 => ?_)
  · skip
    refine z_iload_n E dX6_wallOf_8 rfl 0 rfl ?_
    refine z_iconst (v := 1) E dX6_wallOf_9 (by decide) ?_
    refine z_icmp_ne (tgt := 18) E dX6_wallOf_10 (by decide) (fun c10 => ?_) (fun c10 => ?_)
    · skip
      refine z_iload_n E dX6_wallOf_18 rfl 0 rfl ?_
      refine z_iconst (v := 2) E dX6_wallOf_19 (by decide) ?_
      refine z_icmp_ne (tgt := 28) E dX6_wallOf_20 (by decide) (fun c20 => ?_) (fun c20 => ?_)
      · skip
        refine z_bipush (v := 60) E dX6_wallOf_28 (by decide) ?_
        exact z_iretM E hr hlocks (mem) rfl ⟨((if_neg c1).trans ((if_neg c10).trans (if_neg c20))).symm, rfl⟩ (Nat.le_of_ble_eq_true rfl) (Nat.le_of_ble_eq_true rfl) dX6_wallOf_30
      · skip
        refine z_bipush (v := 45) E dX6_wallOf_23 (by decide) ?_
        refine z_goto (tgt := 30) E dX6_wallOf_25 (by decide) ?_
        exact z_iretM E hr hlocks (mem) rfl ⟨((if_neg c1).trans ((if_neg c10).trans (if_pos c20))).symm, rfl⟩ (Nat.le_of_ble_eq_true rfl) (Nat.le_of_ble_eq_true rfl) dX6_wallOf_30
    · skip
      refine z_bipush (v := 20) E dX6_wallOf_13 (by decide) ?_
      refine z_goto (tgt := 30) E dX6_wallOf_15 (by decide) ?_
      exact z_iretM E hr hlocks (mem) rfl ⟨((if_neg c1).trans (if_pos c10)).symm, rfl⟩ (Nat.le_of_ble_eq_true rfl) (Nat.le_of_ble_eq_true rfl) dX6_wallOf_30
  · skip
    refine z_iconst (v := 0) E dX6_wallOf_4 (by decide) ?_
    refine z_goto (tgt := 30) E dX6_wallOf_5 (by decide) ?_
    exact z_iretM E hr hlocks (mem) rfl ⟨(if_pos c1).symm, rfl⟩ (Nat.le_of_ble_eq_true rfl) (Nat.le_of_ble_eq_true rfl) dX6_wallOf_30
set_option maxHeartbeats 1000000 in
set_option maxRecDepth 100000 in
theorem k_groundOf (l : Launch) (D : va_G) (am : Nat → Nat) (cI cR cS cL : ClassId) (dg : Int64) (mem : zM) (x : Int32) : zMi l yX6_groundOf wsX6_groundOf ({ frames := 0, cells := 0, slots := 0, locals := 0 }) D (cK cI cR cS cL) [.int x] (mw am cI dg mem) (fun r u => r = fGk x ∧ u = mem) (mw am cI dg) 0 0 := by
  refine zMiM.of (cc := cX6_groundOf) (maxL := 1) (ret := (some .int)) (by decide +kernel) rfl (lv0 := [(0, .int x)]) (Nat.le_of_ble_eq_true rfl) rfl ?_
  intro p e s m args below meth c E hZ hr hlocks hnm
  refine z_iload_n E dX6_groundOf_0 rfl 0 rfl ?_
  refine z_if_ne (tgt := 8) E dX6_groundOf_1 (by decide) (fun c1 => ?_) (fun c1 => ?_)
  · skip
    refine z_iload_n E dX6_groundOf_8 rfl 0 rfl ?_
    refine z_iconst (v := 1) E dX6_groundOf_9 (by decide) ?_
    refine z_icmp_ne (tgt := 18) E dX6_groundOf_10 (by decide) (fun c10 => ?_) (fun c10 => ?_)
    · skip
      refine z_iload_n E dX6_groundOf_18 rfl 0 rfl ?_
      refine z_iconst (v := 2) E dX6_groundOf_19 (by decide) ?_
      refine z_icmp_ne (tgt := 28) E dX6_groundOf_20 (by decide) (fun c20 => ?_) (fun c20 => ?_)
      · skip
        refine z_bipush (v := 60) E dX6_groundOf_28 (by decide) ?_
        exact z_iretM E hr hlocks (mem) rfl ⟨((if_neg c1).trans ((if_neg c10).trans (if_neg c20))).symm, rfl⟩ (Nat.le_of_ble_eq_true rfl) (Nat.le_of_ble_eq_true rfl) dX6_groundOf_30
      · skip
        refine z_bipush (v := 40) E dX6_groundOf_23 (by decide) ?_
        refine z_goto (tgt := 30) E dX6_groundOf_25 (by decide) ?_
        exact z_iretM E hr hlocks (mem) rfl ⟨((if_neg c1).trans ((if_neg c10).trans (if_pos c20))).symm, rfl⟩ (Nat.le_of_ble_eq_true rfl) (Nat.le_of_ble_eq_true rfl) dX6_groundOf_30
    · skip
      refine z_bipush (v := 25) E dX6_groundOf_13 (by decide) ?_
      refine z_goto (tgt := 30) E dX6_groundOf_15 (by decide) ?_
      exact z_iretM E hr hlocks (mem) rfl ⟨((if_neg c1).trans (if_pos c10)).symm, rfl⟩ (Nat.le_of_ble_eq_true rfl) (Nat.le_of_ble_eq_true rfl) dX6_groundOf_30
  · skip
    refine z_iconst (v := 5) E dX6_groundOf_4 (by decide) ?_
    refine z_goto (tgt := 30) E dX6_groundOf_5 (by decide) ?_
    exact z_iretM E hr hlocks (mem) rfl ⟨(if_pos c1).symm, rfl⟩ (Nat.le_of_ble_eq_true rfl) (Nat.le_of_ble_eq_true rfl) dX6_groundOf_30
set_option maxHeartbeats 1000000 in
set_option maxRecDepth 100000 in
theorem k_in (l : Launch) (D : va_G) (am : Nat → Nat) (cI cR cS cL : ClassId) (dg : Int64) (mem : zM) (x y v : Int32) : zMi l yX6_in wsX6_in ({ frames := 0, cells := 0, slots := 0, locals := 0 }) D (cK cI cR cS cL) [.int x, .int y, .int v] (mw am cI dg mem) (fun r u => r = fIn x y v ∧ u = mem) (mw am cI dg) 0 0 := by
  refine zMiM.of (cc := cX6_in) (maxL := 3) (ret := (some .boolean)) (by decide +kernel) rfl (lv0 := [(0, .int x), (1, .int y), (2, .int v)]) (Nat.le_of_ble_eq_true rfl) rfl ?_
  intro p e s m args below meth c E hZ hr hlocks hnm
  refine z_iload_n E dX6_in_0 rfl 0 rfl ?_
  refine z_iload_n E dX6_in_1 rfl 1 rfl ?_
  refine z_icmp_lt (tgt := 14) E dX6_in_2 (by decide) (fun c2 => ?_) (fun c2 => ?_)
  · skip
    refine z_iconst (v := 0) E dX6_in_14 (by decide) ?_
    exact z_izretM E hr hlocks (mem) rfl rfl ⟨(if_pos c2).symm, rfl⟩ (Nat.le_of_ble_eq_true rfl) (Nat.le_of_ble_eq_true rfl) dX6_in_15
  · skip
    refine z_iload_n E dX6_in_5 rfl 0 rfl ?_
    refine z_iload_n E dX6_in_6 rfl 2 rfl ?_
    refine z_icmp_gt (tgt := 14) E dX6_in_7 (by decide) (fun c7 => ?_) (fun c7 => ?_)
    · skip
      refine z_iconst (v := 0) E dX6_in_14 (by decide) ?_
      exact z_izretM E hr hlocks (mem) rfl rfl ⟨((if_neg c2).trans (if_pos c7)).symm, rfl⟩ (Nat.le_of_ble_eq_true rfl) (Nat.le_of_ble_eq_true rfl) dX6_in_15
    · skip
      refine z_iconst (v := 1) E dX6_in_10 (by decide) ?_
      refine z_goto (tgt := 15) E dX6_in_11 (by decide) ?_
      exact z_izretM E hr hlocks (mem) rfl rfl ⟨((if_neg c2).trans (if_neg c7)).symm, rfl⟩ (Nat.le_of_ble_eq_true rfl) (Nat.le_of_ble_eq_true rfl) dX6_in_15
set_option maxHeartbeats 1000000 in
set_option maxRecDepth 100000 in
theorem k_isLadder (l : Launch) (D : va_G) (am : Nat → Nat) (cI cR cS cL : ClassId) (dg : Int64) (mem : zM) (x : Int32) : zMi l yX6_isLadder wsX6_isLadder ({ frames := 1, cells := 0, slots := 0, locals := 22 }) D (cK cI cR cS cL) [.int x] (mw am cI dg mem) (fun r u => r = fIn x 0 3 ∧ u = mem) (mw am cI dg) 0 0 := by
  refine zMiM.of (cc := cX6_isLadder) (maxL := 1) (ret := (some .boolean)) (by decide +kernel) rfl (lv0 := [(0, .int x)]) (Nat.le_of_ble_eq_true rfl) rfl ?_
  intro p e s m args below meth c E hZ hr hlocks hnm
  refine z_iload_n E dX6_isLadder_0 rfl 0 rfl ?_
  refine z_iconst (v := 0) E dX6_isLadder_1 (by decide) ?_
  refine z_iconst (v := 3) E dX6_isLadder_2 (by decide) ?_
  refine z_callSi E hZ (k_in l D am cI cR cS cL dg mem x 0 3) gX6_isLadder_X6_in (n := 3) rfl rfl rfl (by decide +kernel) rfl ⟨Nat.le_of_ble_eq_true rfl, Nat.le_of_ble_eq_true rfl⟩ (As := [.int x, .int 0, .int 3]) (rest := []) rfl (Nat.le_of_ble_eq_true rfl) ⟨Nat.le_of_ble_eq_true rfl, Nat.le_of_ble_eq_true rfl⟩ dX6_isLadder_3 (fun r u hp => ?_)
  rw [hp.1, hp.2]
  exact z_izretM E hr hlocks (mem) (znb (fIn_01 _ _ _)) rfl ⟨rfl, rfl⟩ (Nat.le_of_ble_eq_true rfl) (Nat.le_of_ble_eq_true rfl) dX6_isLadder_6
set_option maxHeartbeats 1000000 in
set_option maxRecDepth 100000 in
theorem k_thrown (l : Launch) (D : va_G) (am : Nat → Nat) (cI cR cS cL : ClassId) (dg : Int64) (mem : zM)  : zMi l yX6_thrown wsX6_thrown ({ frames := 0, cells := 0, slots := 0, locals := 0 }) D (cK cI cR cS cL) [.ref (am 0)] (mw am cI dg mem) (fun r u => r = mem 0 0 ∧ u = mem) (mw am cI dg) 0 0 := by
  refine zMiM.of (cc := cX6_thrown) (maxL := 1) (ret := (some .int)) (by decide +kernel) rfl (lv0 := [(0, .ref (am 0))]) (Nat.le_of_ble_eq_true rfl) rfl ?_
  intro p e s m args below meth c E hZ hr hlocks hnm
  refine z_aload_n E dX6_thrown_0 rfl 0 rfl ?_
  refine z_get E 0 mw_obj (C := RX6) (T := TX6) (N := 16) rfl (fun _ h => List.mem_cons_of_mem _ (List.mem_append_right _ h)) 0 (by decide) (List.mem_of_getElem? (i := 1) (by decide +kernel)) rfl (v := .int (mem 0 0)) rfl dX6_thrown_1 ?_
  exact z_iretM E hr hlocks (mem) rfl ⟨rfl, rfl⟩ (Nat.le_of_ble_eq_true rfl) (Nat.le_of_ble_eq_true rfl) dX6_thrown_4
set_option maxHeartbeats 1000000 in
set_option maxRecDepth 100000 in
theorem k_holds (l : Launch) (D : va_G) (am : Nat → Nat) (cI cR cS cL : ClassId) (dg : Int64) (mem : zM) (x : Int32) : zMi l yX6_holds wsX6_holds ({ frames := 0, cells := 0, slots := 0, locals := 0 }) D (cK cI cR cS cL) [.ref (am 0), .int x] (mw am cI dg mem) (fun r u => r = (if x = 0 then 1 else 0) ∧ u = mset mem 0 0 x) (mw am cI dg) 0 0 := by
  refine zMiM.of (cc := cX6_holds) (maxL := 2) (ret := (some .boolean)) (by decide +kernel) rfl (lv0 := [(0, .ref (am 0)), (1, .int x)]) (Nat.le_of_ble_eq_true rfl) rfl ?_
  intro p e s m args below meth c E hZ hr hlocks hnm
  refine z_aload_n E dX6_holds_0 rfl 0 rfl ?_
  refine z_iload_n E dX6_holds_1 rfl 1 rfl ?_
  refine z_put E 0 mw_obj (C := RX6) (T := TX6) (N := 16) rfl (fun _ h => List.mem_cons_of_mem _ (List.mem_append_right _ h)) tyX6 tyX6_ok nmX6 0 (by decide) (List.mem_of_getElem? (i := 1) (by decide +kernel)) rfl rfl rfl rfl (Nat.le_of_ble_eq_true rfl) (ws' := mw am cI dg (mset mem 0 0 x)) (ms_obj 0 (by decide) (by decide) rfl) dX6_holds_2 ?_
  refine z_gm2 (fun m1 hm1 => ?_)
  refine z_iload_n E dX6_holds_5 rfl 1 rfl ?_
  refine z_if_ne (tgt := 13) E dX6_holds_6 (by decide) (fun c6 => ?_) (fun c6 => ?_)
  · skip
    refine z_iconst (v := 0) E dX6_holds_13 (by decide) ?_
    exact z_izretM E hr hlocks (m1) rfl rfl ⟨(if_neg c6).symm, hm1⟩ (Nat.le_of_ble_eq_true rfl) (Nat.le_of_ble_eq_true rfl) dX6_holds_14
  · skip
    refine z_iconst (v := 1) E dX6_holds_9 (by decide) ?_
    refine z_goto (tgt := 14) E dX6_holds_10 (by decide) ?_
    exact z_izretM E hr hlocks (m1) rfl rfl ⟨(if_pos c6).symm, hm1⟩ (Nat.le_of_ble_eq_true rfl) (Nat.le_of_ble_eq_true rfl) dX6_holds_14
set_option maxHeartbeats 1000000 in
set_option maxRecDepth 100000 in
theorem k_mload (l : Launch) (D : va_G) (am : Nat → Nat) (cI cR cS cL : ClassId) (dg : Int64) (mem : zM) {k : Nat} (hk : k < 4) {R : Nat → Int32} {p0 : Nat} (hR : mR (mem 1) k R p0) (hQ : rQ R p0) : zMi l yX6_loadOf wsX6_loadOf ({ frames := 1, cells := 0, slots := 0, locals := 22 }) D (cK cI cR cS cL) [.ref (am 0), .int (nI k)] (mw am cI dg mem) (fun r u => r = fLoad R ∧ u = mem) (mw am cI dg) 0 0 := by
  refine zMiM.of (cc := cX6_loadOf) (maxL := 4) (ret := (some .int)) (by decide +kernel) rfl (lv0 := [(0, .ref (am 0)), (1, .int (nI k))]) (Nat.le_of_ble_eq_true rfl) rfl ?_
  intro p e s m args below meth c E hZ hr hlocks hnm
  obtain ⟨q0, q1, q2, q3, q4, q5, q6, q7, qp⟩ := hR
  obtain ⟨hp3, hq⟩ := hQ
  rcases (show p0 = 0 ∨ p0 = 1 ∨ p0 = 2 ∨ p0 = 3 by omega) with h | h | h | h
  · skip
    subst h
    have z0 : R 8 = 0 := (hq 0 (by omega)).2.2 (by omega)
    have z1 : R 9 = 0 := (hq 1 (by omega)).2.2 (by omega)
    have z2 : R 10 = 0 := (hq 2 (by omega)).2.2 (by omega)
    refine z_aload_n E dX6_loadOf_0 rfl 0 rfl ?_
    refine z_get E 0 mw_obj (C := RX6) (T := TX6) (N := 16) rfl (fun _ h => List.mem_cons_of_mem _ (List.mem_append_right _ h)) 1 (by decide) (List.mem_of_getElem? (i := 1) (by decide +kernel)) rfl (v := .ref (am 1)) rfl dX6_loadOf_1 ?_
    refine z_iload_n E dX6_loadOf_4 rfl 1 rfl ?_
    refine z_iconst (v := 2) E dX6_loadOf_5 (by decide) ?_
    refine z_callSi E hZ (k_of l D am cI cR cS cL dg mem (nI k) 2) gX6_loadOf_X6_of (n := 2) rfl rfl rfl (by decide +kernel) rfl ⟨Nat.le_of_ble_eq_true rfl, Nat.le_of_ble_eq_true rfl⟩ (As := [.int (nI k), .int 2]) (rest := [.ref (am 1)]) rfl (Nat.le_of_ble_eq_true rfl) ⟨Nat.le_of_ble_eq_true rfl, Nat.le_of_ble_eq_true rfl⟩ dX6_loadOf_6 (fun r u hp => ?_)
    rw [hp.1, hp.2]
    rw [zof k (y := 2) (w := 2) rfl]
    refine z_iald E 1 0 mw_s rfl (vp_in_nI (by omega) (by decide)) (v := R 2) ((congrArg (mem 1) (nI_clamp (by omega))).trans q2) dX6_loadOf_9 ?_
    refine z_istore_n (lv' := [(2, .int (R 2)), (0, .ref (am 0)), (1, .int (nI k))]) E dX6_loadOf_10 rfl (by decide) rfl ?_
    refine z_iconst (v := 0) E dX6_loadOf_11 (by decide) ?_
    refine z_istore_n (lv' := [(3, .int 0), (2, .int (R 2)), (0, .ref (am 0)), (1, .int (nI k))]) E dX6_loadOf_12 rfl (by decide) rfl ?_
    refine z_iload_n E dX6_loadOf_13 rfl 0 rfl ?_
    refine z_aload_n E dX6_loadOf_14 rfl 2 rfl ?_
    refine z_get E 0 mw_obj (C := RX6) (T := TX6) (N := 16) rfl (fun _ h => List.mem_cons_of_mem _ (List.mem_append_right _ h)) 1 (by decide) (List.mem_of_getElem? (i := 1) (by decide +kernel)) rfl (v := .ref (am 1)) rfl dX6_loadOf_15 ?_
    refine z_iload_n E dX6_loadOf_18 rfl 3 rfl ?_
    refine z_bipush (v := 6) E dX6_loadOf_19 (by decide) ?_
    refine z_callSi E hZ (k_of l D am cI cR cS cL dg mem (nI k) 6) gX6_loadOf_X6_of (n := 2) rfl rfl rfl (by decide +kernel) rfl ⟨Nat.le_of_ble_eq_true rfl, Nat.le_of_ble_eq_true rfl⟩ (As := [.int (nI k), .int 6]) (rest := [.ref (am 1), .int 0]) rfl (Nat.le_of_ble_eq_true rfl) ⟨Nat.le_of_ble_eq_true rfl, Nat.le_of_ble_eq_true rfl⟩ dX6_loadOf_21 (fun r u hp => ?_)
    rw [hp.1, hp.2]
    rw [zof k (y := 6) (w := 6) rfl]
    refine z_iald E 1 0 mw_s rfl (vp_in_nI (by omega) (by decide)) (v := 0) ((congrArg (mem 1) (nI_clamp (by omega))).trans q6) dX6_loadOf_24 ?_
    refine z_icmp_ge_t (tgt := 48) E dX6_loadOf_25 (by decide) (by decide) ?_
    refine z_iload_n E dX6_loadOf_48 rfl 1 rfl ?_
    exact z_iretM E hr hlocks (mem) rfl ⟨by unfold fLoad; rw [z0, z1, z2, Int32.add_zero, Int32.add_zero, Int32.add_zero], rfl⟩ (Nat.le_of_ble_eq_true rfl) (Nat.le_of_ble_eq_true rfl) dX6_loadOf_49
  · skip
    subst h
    have w0 : mem 1 (14 * k + 8) = R 8 := (qp 0 (by omega)).1
    have a0 : mem 1 (14 * k + 9) = R 11 := (qp 0 (by omega)).2
    have z1 : R 9 = 0 := (hq 1 (by omega)).2.2 (by omega)
    have z2 : R 10 = 0 := (hq 2 (by omega)).2.2 (by omega)
    refine z_aload_n E dX6_loadOf_0 rfl 0 rfl ?_
    refine z_get E 0 mw_obj (C := RX6) (T := TX6) (N := 16) rfl (fun _ h => List.mem_cons_of_mem _ (List.mem_append_right _ h)) 1 (by decide) (List.mem_of_getElem? (i := 1) (by decide +kernel)) rfl (v := .ref (am 1)) rfl dX6_loadOf_1 ?_
    refine z_iload_n E dX6_loadOf_4 rfl 1 rfl ?_
    refine z_iconst (v := 2) E dX6_loadOf_5 (by decide) ?_
    refine z_callSi E hZ (k_of l D am cI cR cS cL dg mem (nI k) 2) gX6_loadOf_X6_of (n := 2) rfl rfl rfl (by decide +kernel) rfl ⟨Nat.le_of_ble_eq_true rfl, Nat.le_of_ble_eq_true rfl⟩ (As := [.int (nI k), .int 2]) (rest := [.ref (am 1)]) rfl (Nat.le_of_ble_eq_true rfl) ⟨Nat.le_of_ble_eq_true rfl, Nat.le_of_ble_eq_true rfl⟩ dX6_loadOf_6 (fun r u hp => ?_)
    rw [hp.1, hp.2]
    rw [zof k (y := 2) (w := 2) rfl]
    refine z_iald E 1 0 mw_s rfl (vp_in_nI (by omega) (by decide)) (v := R 2) ((congrArg (mem 1) (nI_clamp (by omega))).trans q2) dX6_loadOf_9 ?_
    refine z_istore_n (lv' := [(2, .int (R 2)), (0, .ref (am 0)), (1, .int (nI k))]) E dX6_loadOf_10 rfl (by decide) rfl ?_
    refine z_iconst (v := 0) E dX6_loadOf_11 (by decide) ?_
    refine z_istore_n (lv' := [(3, .int 0), (2, .int (R 2)), (0, .ref (am 0)), (1, .int (nI k))]) E dX6_loadOf_12 rfl (by decide) rfl ?_
    refine z_iload_n E dX6_loadOf_13 rfl 0 rfl ?_
    refine z_aload_n E dX6_loadOf_14 rfl 2 rfl ?_
    refine z_get E 0 mw_obj (C := RX6) (T := TX6) (N := 16) rfl (fun _ h => List.mem_cons_of_mem _ (List.mem_append_right _ h)) 1 (by decide) (List.mem_of_getElem? (i := 1) (by decide +kernel)) rfl (v := .ref (am 1)) rfl dX6_loadOf_15 ?_
    refine z_iload_n E dX6_loadOf_18 rfl 3 rfl ?_
    refine z_bipush (v := 6) E dX6_loadOf_19 (by decide) ?_
    refine z_callSi E hZ (k_of l D am cI cR cS cL dg mem (nI k) 6) gX6_loadOf_X6_of (n := 2) rfl rfl rfl (by decide +kernel) rfl ⟨Nat.le_of_ble_eq_true rfl, Nat.le_of_ble_eq_true rfl⟩ (As := [.int (nI k), .int 6]) (rest := [.ref (am 1), .int 0]) rfl (Nat.le_of_ble_eq_true rfl) ⟨Nat.le_of_ble_eq_true rfl, Nat.le_of_ble_eq_true rfl⟩ dX6_loadOf_21 (fun r u hp => ?_)
    rw [hp.1, hp.2]
    rw [zof k (y := 6) (w := 6) rfl]
    refine z_iald E 1 0 mw_s rfl (vp_in_nI (by omega) (by decide)) (v := 1) ((congrArg (mem 1) (nI_clamp (by omega))).trans q6) dX6_loadOf_24 ?_
    refine z_icmp_ge_f (tgt := 48) E dX6_loadOf_25 (by decide) (by decide) ?_
    refine z_iload_n E dX6_loadOf_28 rfl 1 rfl ?_
    refine z_aload_n E dX6_loadOf_29 rfl 2 rfl ?_
    refine z_get E 0 mw_obj (C := RX6) (T := TX6) (N := 16) rfl (fun _ h => List.mem_cons_of_mem _ (List.mem_append_right _ h)) 1 (by decide) (List.mem_of_getElem? (i := 1) (by decide +kernel)) rfl (v := .ref (am 1)) rfl dX6_loadOf_30 ?_
    refine z_iload_n E dX6_loadOf_33 rfl 3 rfl ?_
    refine z_iload_n E dX6_loadOf_34 rfl 0 rfl ?_
    refine z_iconst (v := 0) E dX6_loadOf_35 (by decide) ?_
    refine z_callSi E hZ (k_ofP l D am cI cR cS cL dg mem (nI k) 0 0) gX6_loadOf_X6_ofPerson (n := 3) rfl rfl rfl (by decide +kernel) rfl ⟨Nat.le_of_ble_eq_true rfl, Nat.le_of_ble_eq_true rfl⟩ (As := [.int (nI k), .int 0, .int 0]) (rest := [.ref (am 1), .int (R 2)]) rfl (Nat.le_of_ble_eq_true rfl) ⟨Nat.le_of_ble_eq_true rfl, Nat.le_of_ble_eq_true rfl⟩ dX6_loadOf_36 (fun r u hp => ?_)
    rw [hp.1, hp.2]
    rw [zofP k 0 (y := 0) (z := 0) (w := 0) (N := 14 * k + 8) rfl rfl (by omega)]
    refine z_iald E 1 0 mw_s rfl (vp_in_nI (by omega) (by decide)) (v := R 8) ((congrArg (mem 1) (nI_clamp (by omega))).trans w0) dX6_loadOf_39 ?_
    refine z_iadd E dX6_loadOf_40 ?_
    refine z_istore_n (lv' := [(2, .int ((R 2) + (R 8))), (3, .int 0), (0, .ref (am 0)), (1, .int (nI k))]) E dX6_loadOf_41 rfl (by decide) rfl ?_
    refine z_iinc (v := 1) (lv' := [(3, .int 1), (2, .int ((R 2) + (R 8))), (0, .ref (am 0)), (1, .int (nI k))]) E dX6_loadOf_42 (q := 1) rfl (by decide) (by decide) rfl ?_
    refine z_goto (tgt := 13) E dX6_loadOf_45 (by decide) ?_
    refine z_iload_n E dX6_loadOf_13 rfl 0 rfl ?_
    refine z_aload_n E dX6_loadOf_14 rfl 2 rfl ?_
    refine z_get E 0 mw_obj (C := RX6) (T := TX6) (N := 16) rfl (fun _ h => List.mem_cons_of_mem _ (List.mem_append_right _ h)) 1 (by decide) (List.mem_of_getElem? (i := 1) (by decide +kernel)) rfl (v := .ref (am 1)) rfl dX6_loadOf_15 ?_
    refine z_iload_n E dX6_loadOf_18 rfl 3 rfl ?_
    refine z_bipush (v := 6) E dX6_loadOf_19 (by decide) ?_
    refine z_callSi E hZ (k_of l D am cI cR cS cL dg mem (nI k) 6) gX6_loadOf_X6_of (n := 2) rfl rfl rfl (by decide +kernel) rfl ⟨Nat.le_of_ble_eq_true rfl, Nat.le_of_ble_eq_true rfl⟩ (As := [.int (nI k), .int 6]) (rest := [.ref (am 1), .int 1]) rfl (Nat.le_of_ble_eq_true rfl) ⟨Nat.le_of_ble_eq_true rfl, Nat.le_of_ble_eq_true rfl⟩ dX6_loadOf_21 (fun r u hp => ?_)
    rw [hp.1, hp.2]
    rw [zof k (y := 6) (w := 6) rfl]
    refine z_iald E 1 0 mw_s rfl (vp_in_nI (by omega) (by decide)) (v := 1) ((congrArg (mem 1) (nI_clamp (by omega))).trans q6) dX6_loadOf_24 ?_
    refine z_icmp_ge_t (tgt := 48) E dX6_loadOf_25 (by decide) (by decide) ?_
    refine z_iload_n E dX6_loadOf_48 rfl 1 rfl ?_
    exact z_iretM E hr hlocks (mem) rfl ⟨by unfold fLoad; rw [z1, z2, Int32.add_zero, Int32.add_zero], rfl⟩ (Nat.le_of_ble_eq_true rfl) (Nat.le_of_ble_eq_true rfl) dX6_loadOf_49
  · skip
    subst h
    have w0 : mem 1 (14 * k + 8) = R 8 := (qp 0 (by omega)).1
    have a0 : mem 1 (14 * k + 9) = R 11 := (qp 0 (by omega)).2
    have w1 : mem 1 (14 * k + 10) = R 9 := (qp 1 (by omega)).1
    have a1 : mem 1 (14 * k + 11) = R 12 := (qp 1 (by omega)).2
    have z2 : R 10 = 0 := (hq 2 (by omega)).2.2 (by omega)
    refine z_aload_n E dX6_loadOf_0 rfl 0 rfl ?_
    refine z_get E 0 mw_obj (C := RX6) (T := TX6) (N := 16) rfl (fun _ h => List.mem_cons_of_mem _ (List.mem_append_right _ h)) 1 (by decide) (List.mem_of_getElem? (i := 1) (by decide +kernel)) rfl (v := .ref (am 1)) rfl dX6_loadOf_1 ?_
    refine z_iload_n E dX6_loadOf_4 rfl 1 rfl ?_
    refine z_iconst (v := 2) E dX6_loadOf_5 (by decide) ?_
    refine z_callSi E hZ (k_of l D am cI cR cS cL dg mem (nI k) 2) gX6_loadOf_X6_of (n := 2) rfl rfl rfl (by decide +kernel) rfl ⟨Nat.le_of_ble_eq_true rfl, Nat.le_of_ble_eq_true rfl⟩ (As := [.int (nI k), .int 2]) (rest := [.ref (am 1)]) rfl (Nat.le_of_ble_eq_true rfl) ⟨Nat.le_of_ble_eq_true rfl, Nat.le_of_ble_eq_true rfl⟩ dX6_loadOf_6 (fun r u hp => ?_)
    rw [hp.1, hp.2]
    rw [zof k (y := 2) (w := 2) rfl]
    refine z_iald E 1 0 mw_s rfl (vp_in_nI (by omega) (by decide)) (v := R 2) ((congrArg (mem 1) (nI_clamp (by omega))).trans q2) dX6_loadOf_9 ?_
    refine z_istore_n (lv' := [(2, .int (R 2)), (0, .ref (am 0)), (1, .int (nI k))]) E dX6_loadOf_10 rfl (by decide) rfl ?_
    refine z_iconst (v := 0) E dX6_loadOf_11 (by decide) ?_
    refine z_istore_n (lv' := [(3, .int 0), (2, .int (R 2)), (0, .ref (am 0)), (1, .int (nI k))]) E dX6_loadOf_12 rfl (by decide) rfl ?_
    refine z_iload_n E dX6_loadOf_13 rfl 0 rfl ?_
    refine z_aload_n E dX6_loadOf_14 rfl 2 rfl ?_
    refine z_get E 0 mw_obj (C := RX6) (T := TX6) (N := 16) rfl (fun _ h => List.mem_cons_of_mem _ (List.mem_append_right _ h)) 1 (by decide) (List.mem_of_getElem? (i := 1) (by decide +kernel)) rfl (v := .ref (am 1)) rfl dX6_loadOf_15 ?_
    refine z_iload_n E dX6_loadOf_18 rfl 3 rfl ?_
    refine z_bipush (v := 6) E dX6_loadOf_19 (by decide) ?_
    refine z_callSi E hZ (k_of l D am cI cR cS cL dg mem (nI k) 6) gX6_loadOf_X6_of (n := 2) rfl rfl rfl (by decide +kernel) rfl ⟨Nat.le_of_ble_eq_true rfl, Nat.le_of_ble_eq_true rfl⟩ (As := [.int (nI k), .int 6]) (rest := [.ref (am 1), .int 0]) rfl (Nat.le_of_ble_eq_true rfl) ⟨Nat.le_of_ble_eq_true rfl, Nat.le_of_ble_eq_true rfl⟩ dX6_loadOf_21 (fun r u hp => ?_)
    rw [hp.1, hp.2]
    rw [zof k (y := 6) (w := 6) rfl]
    refine z_iald E 1 0 mw_s rfl (vp_in_nI (by omega) (by decide)) (v := 2) ((congrArg (mem 1) (nI_clamp (by omega))).trans q6) dX6_loadOf_24 ?_
    refine z_icmp_ge_f (tgt := 48) E dX6_loadOf_25 (by decide) (by decide) ?_
    refine z_iload_n E dX6_loadOf_28 rfl 1 rfl ?_
    refine z_aload_n E dX6_loadOf_29 rfl 2 rfl ?_
    refine z_get E 0 mw_obj (C := RX6) (T := TX6) (N := 16) rfl (fun _ h => List.mem_cons_of_mem _ (List.mem_append_right _ h)) 1 (by decide) (List.mem_of_getElem? (i := 1) (by decide +kernel)) rfl (v := .ref (am 1)) rfl dX6_loadOf_30 ?_
    refine z_iload_n E dX6_loadOf_33 rfl 3 rfl ?_
    refine z_iload_n E dX6_loadOf_34 rfl 0 rfl ?_
    refine z_iconst (v := 0) E dX6_loadOf_35 (by decide) ?_
    refine z_callSi E hZ (k_ofP l D am cI cR cS cL dg mem (nI k) 0 0) gX6_loadOf_X6_ofPerson (n := 3) rfl rfl rfl (by decide +kernel) rfl ⟨Nat.le_of_ble_eq_true rfl, Nat.le_of_ble_eq_true rfl⟩ (As := [.int (nI k), .int 0, .int 0]) (rest := [.ref (am 1), .int (R 2)]) rfl (Nat.le_of_ble_eq_true rfl) ⟨Nat.le_of_ble_eq_true rfl, Nat.le_of_ble_eq_true rfl⟩ dX6_loadOf_36 (fun r u hp => ?_)
    rw [hp.1, hp.2]
    rw [zofP k 0 (y := 0) (z := 0) (w := 0) (N := 14 * k + 8) rfl rfl (by omega)]
    refine z_iald E 1 0 mw_s rfl (vp_in_nI (by omega) (by decide)) (v := R 8) ((congrArg (mem 1) (nI_clamp (by omega))).trans w0) dX6_loadOf_39 ?_
    refine z_iadd E dX6_loadOf_40 ?_
    refine z_istore_n (lv' := [(2, .int ((R 2) + (R 8))), (3, .int 0), (0, .ref (am 0)), (1, .int (nI k))]) E dX6_loadOf_41 rfl (by decide) rfl ?_
    refine z_iinc (v := 1) (lv' := [(3, .int 1), (2, .int ((R 2) + (R 8))), (0, .ref (am 0)), (1, .int (nI k))]) E dX6_loadOf_42 (q := 1) rfl (by decide) (by decide) rfl ?_
    refine z_goto (tgt := 13) E dX6_loadOf_45 (by decide) ?_
    refine z_iload_n E dX6_loadOf_13 rfl 0 rfl ?_
    refine z_aload_n E dX6_loadOf_14 rfl 2 rfl ?_
    refine z_get E 0 mw_obj (C := RX6) (T := TX6) (N := 16) rfl (fun _ h => List.mem_cons_of_mem _ (List.mem_append_right _ h)) 1 (by decide) (List.mem_of_getElem? (i := 1) (by decide +kernel)) rfl (v := .ref (am 1)) rfl dX6_loadOf_15 ?_
    refine z_iload_n E dX6_loadOf_18 rfl 3 rfl ?_
    refine z_bipush (v := 6) E dX6_loadOf_19 (by decide) ?_
    refine z_callSi E hZ (k_of l D am cI cR cS cL dg mem (nI k) 6) gX6_loadOf_X6_of (n := 2) rfl rfl rfl (by decide +kernel) rfl ⟨Nat.le_of_ble_eq_true rfl, Nat.le_of_ble_eq_true rfl⟩ (As := [.int (nI k), .int 6]) (rest := [.ref (am 1), .int 1]) rfl (Nat.le_of_ble_eq_true rfl) ⟨Nat.le_of_ble_eq_true rfl, Nat.le_of_ble_eq_true rfl⟩ dX6_loadOf_21 (fun r u hp => ?_)
    rw [hp.1, hp.2]
    rw [zof k (y := 6) (w := 6) rfl]
    refine z_iald E 1 0 mw_s rfl (vp_in_nI (by omega) (by decide)) (v := 2) ((congrArg (mem 1) (nI_clamp (by omega))).trans q6) dX6_loadOf_24 ?_
    refine z_icmp_ge_f (tgt := 48) E dX6_loadOf_25 (by decide) (by decide) ?_
    refine z_iload_n E dX6_loadOf_28 rfl 1 rfl ?_
    refine z_aload_n E dX6_loadOf_29 rfl 2 rfl ?_
    refine z_get E 0 mw_obj (C := RX6) (T := TX6) (N := 16) rfl (fun _ h => List.mem_cons_of_mem _ (List.mem_append_right _ h)) 1 (by decide) (List.mem_of_getElem? (i := 1) (by decide +kernel)) rfl (v := .ref (am 1)) rfl dX6_loadOf_30 ?_
    refine z_iload_n E dX6_loadOf_33 rfl 3 rfl ?_
    refine z_iload_n E dX6_loadOf_34 rfl 0 rfl ?_
    refine z_iconst (v := 0) E dX6_loadOf_35 (by decide) ?_
    refine z_callSi E hZ (k_ofP l D am cI cR cS cL dg mem (nI k) 1 0) gX6_loadOf_X6_ofPerson (n := 3) rfl rfl rfl (by decide +kernel) rfl ⟨Nat.le_of_ble_eq_true rfl, Nat.le_of_ble_eq_true rfl⟩ (As := [.int (nI k), .int 1, .int 0]) (rest := [.ref (am 1), .int ((R 2) + (R 8))]) rfl (Nat.le_of_ble_eq_true rfl) ⟨Nat.le_of_ble_eq_true rfl, Nat.le_of_ble_eq_true rfl⟩ dX6_loadOf_36 (fun r u hp => ?_)
    rw [hp.1, hp.2]
    rw [zofP k 1 (y := 1) (z := 0) (w := 0) (N := 14 * k + 10) rfl rfl (by omega)]
    refine z_iald E 1 0 mw_s rfl (vp_in_nI (by omega) (by decide)) (v := R 9) ((congrArg (mem 1) (nI_clamp (by omega))).trans w1) dX6_loadOf_39 ?_
    refine z_iadd E dX6_loadOf_40 ?_
    refine z_istore_n (lv' := [(2, .int (((R 2) + (R 8)) + (R 9))), (3, .int 1), (0, .ref (am 0)), (1, .int (nI k))]) E dX6_loadOf_41 rfl (by decide) rfl ?_
    refine z_iinc (v := 2) (lv' := [(3, .int 2), (2, .int (((R 2) + (R 8)) + (R 9))), (0, .ref (am 0)), (1, .int (nI k))]) E dX6_loadOf_42 (q := 1) rfl (by decide) (by decide) rfl ?_
    refine z_goto (tgt := 13) E dX6_loadOf_45 (by decide) ?_
    refine z_iload_n E dX6_loadOf_13 rfl 0 rfl ?_
    refine z_aload_n E dX6_loadOf_14 rfl 2 rfl ?_
    refine z_get E 0 mw_obj (C := RX6) (T := TX6) (N := 16) rfl (fun _ h => List.mem_cons_of_mem _ (List.mem_append_right _ h)) 1 (by decide) (List.mem_of_getElem? (i := 1) (by decide +kernel)) rfl (v := .ref (am 1)) rfl dX6_loadOf_15 ?_
    refine z_iload_n E dX6_loadOf_18 rfl 3 rfl ?_
    refine z_bipush (v := 6) E dX6_loadOf_19 (by decide) ?_
    refine z_callSi E hZ (k_of l D am cI cR cS cL dg mem (nI k) 6) gX6_loadOf_X6_of (n := 2) rfl rfl rfl (by decide +kernel) rfl ⟨Nat.le_of_ble_eq_true rfl, Nat.le_of_ble_eq_true rfl⟩ (As := [.int (nI k), .int 6]) (rest := [.ref (am 1), .int 2]) rfl (Nat.le_of_ble_eq_true rfl) ⟨Nat.le_of_ble_eq_true rfl, Nat.le_of_ble_eq_true rfl⟩ dX6_loadOf_21 (fun r u hp => ?_)
    rw [hp.1, hp.2]
    rw [zof k (y := 6) (w := 6) rfl]
    refine z_iald E 1 0 mw_s rfl (vp_in_nI (by omega) (by decide)) (v := 2) ((congrArg (mem 1) (nI_clamp (by omega))).trans q6) dX6_loadOf_24 ?_
    refine z_icmp_ge_t (tgt := 48) E dX6_loadOf_25 (by decide) (by decide) ?_
    refine z_iload_n E dX6_loadOf_48 rfl 1 rfl ?_
    exact z_iretM E hr hlocks (mem) rfl ⟨by unfold fLoad; rw [z2, Int32.add_zero], rfl⟩ (Nat.le_of_ble_eq_true rfl) (Nat.le_of_ble_eq_true rfl) dX6_loadOf_49
  · skip
    subst h
    have w0 : mem 1 (14 * k + 8) = R 8 := (qp 0 (by omega)).1
    have a0 : mem 1 (14 * k + 9) = R 11 := (qp 0 (by omega)).2
    have w1 : mem 1 (14 * k + 10) = R 9 := (qp 1 (by omega)).1
    have a1 : mem 1 (14 * k + 11) = R 12 := (qp 1 (by omega)).2
    have w2 : mem 1 (14 * k + 12) = R 10 := (qp 2 (by omega)).1
    have a2 : mem 1 (14 * k + 13) = R 13 := (qp 2 (by omega)).2
    refine z_aload_n E dX6_loadOf_0 rfl 0 rfl ?_
    refine z_get E 0 mw_obj (C := RX6) (T := TX6) (N := 16) rfl (fun _ h => List.mem_cons_of_mem _ (List.mem_append_right _ h)) 1 (by decide) (List.mem_of_getElem? (i := 1) (by decide +kernel)) rfl (v := .ref (am 1)) rfl dX6_loadOf_1 ?_
    refine z_iload_n E dX6_loadOf_4 rfl 1 rfl ?_
    refine z_iconst (v := 2) E dX6_loadOf_5 (by decide) ?_
    refine z_callSi E hZ (k_of l D am cI cR cS cL dg mem (nI k) 2) gX6_loadOf_X6_of (n := 2) rfl rfl rfl (by decide +kernel) rfl ⟨Nat.le_of_ble_eq_true rfl, Nat.le_of_ble_eq_true rfl⟩ (As := [.int (nI k), .int 2]) (rest := [.ref (am 1)]) rfl (Nat.le_of_ble_eq_true rfl) ⟨Nat.le_of_ble_eq_true rfl, Nat.le_of_ble_eq_true rfl⟩ dX6_loadOf_6 (fun r u hp => ?_)
    rw [hp.1, hp.2]
    rw [zof k (y := 2) (w := 2) rfl]
    refine z_iald E 1 0 mw_s rfl (vp_in_nI (by omega) (by decide)) (v := R 2) ((congrArg (mem 1) (nI_clamp (by omega))).trans q2) dX6_loadOf_9 ?_
    refine z_istore_n (lv' := [(2, .int (R 2)), (0, .ref (am 0)), (1, .int (nI k))]) E dX6_loadOf_10 rfl (by decide) rfl ?_
    refine z_iconst (v := 0) E dX6_loadOf_11 (by decide) ?_
    refine z_istore_n (lv' := [(3, .int 0), (2, .int (R 2)), (0, .ref (am 0)), (1, .int (nI k))]) E dX6_loadOf_12 rfl (by decide) rfl ?_
    refine z_iload_n E dX6_loadOf_13 rfl 0 rfl ?_
    refine z_aload_n E dX6_loadOf_14 rfl 2 rfl ?_
    refine z_get E 0 mw_obj (C := RX6) (T := TX6) (N := 16) rfl (fun _ h => List.mem_cons_of_mem _ (List.mem_append_right _ h)) 1 (by decide) (List.mem_of_getElem? (i := 1) (by decide +kernel)) rfl (v := .ref (am 1)) rfl dX6_loadOf_15 ?_
    refine z_iload_n E dX6_loadOf_18 rfl 3 rfl ?_
    refine z_bipush (v := 6) E dX6_loadOf_19 (by decide) ?_
    refine z_callSi E hZ (k_of l D am cI cR cS cL dg mem (nI k) 6) gX6_loadOf_X6_of (n := 2) rfl rfl rfl (by decide +kernel) rfl ⟨Nat.le_of_ble_eq_true rfl, Nat.le_of_ble_eq_true rfl⟩ (As := [.int (nI k), .int 6]) (rest := [.ref (am 1), .int 0]) rfl (Nat.le_of_ble_eq_true rfl) ⟨Nat.le_of_ble_eq_true rfl, Nat.le_of_ble_eq_true rfl⟩ dX6_loadOf_21 (fun r u hp => ?_)
    rw [hp.1, hp.2]
    rw [zof k (y := 6) (w := 6) rfl]
    refine z_iald E 1 0 mw_s rfl (vp_in_nI (by omega) (by decide)) (v := 3) ((congrArg (mem 1) (nI_clamp (by omega))).trans q6) dX6_loadOf_24 ?_
    refine z_icmp_ge_f (tgt := 48) E dX6_loadOf_25 (by decide) (by decide) ?_
    refine z_iload_n E dX6_loadOf_28 rfl 1 rfl ?_
    refine z_aload_n E dX6_loadOf_29 rfl 2 rfl ?_
    refine z_get E 0 mw_obj (C := RX6) (T := TX6) (N := 16) rfl (fun _ h => List.mem_cons_of_mem _ (List.mem_append_right _ h)) 1 (by decide) (List.mem_of_getElem? (i := 1) (by decide +kernel)) rfl (v := .ref (am 1)) rfl dX6_loadOf_30 ?_
    refine z_iload_n E dX6_loadOf_33 rfl 3 rfl ?_
    refine z_iload_n E dX6_loadOf_34 rfl 0 rfl ?_
    refine z_iconst (v := 0) E dX6_loadOf_35 (by decide) ?_
    refine z_callSi E hZ (k_ofP l D am cI cR cS cL dg mem (nI k) 0 0) gX6_loadOf_X6_ofPerson (n := 3) rfl rfl rfl (by decide +kernel) rfl ⟨Nat.le_of_ble_eq_true rfl, Nat.le_of_ble_eq_true rfl⟩ (As := [.int (nI k), .int 0, .int 0]) (rest := [.ref (am 1), .int (R 2)]) rfl (Nat.le_of_ble_eq_true rfl) ⟨Nat.le_of_ble_eq_true rfl, Nat.le_of_ble_eq_true rfl⟩ dX6_loadOf_36 (fun r u hp => ?_)
    rw [hp.1, hp.2]
    rw [zofP k 0 (y := 0) (z := 0) (w := 0) (N := 14 * k + 8) rfl rfl (by omega)]
    refine z_iald E 1 0 mw_s rfl (vp_in_nI (by omega) (by decide)) (v := R 8) ((congrArg (mem 1) (nI_clamp (by omega))).trans w0) dX6_loadOf_39 ?_
    refine z_iadd E dX6_loadOf_40 ?_
    refine z_istore_n (lv' := [(2, .int ((R 2) + (R 8))), (3, .int 0), (0, .ref (am 0)), (1, .int (nI k))]) E dX6_loadOf_41 rfl (by decide) rfl ?_
    refine z_iinc (v := 1) (lv' := [(3, .int 1), (2, .int ((R 2) + (R 8))), (0, .ref (am 0)), (1, .int (nI k))]) E dX6_loadOf_42 (q := 1) rfl (by decide) (by decide) rfl ?_
    refine z_goto (tgt := 13) E dX6_loadOf_45 (by decide) ?_
    refine z_iload_n E dX6_loadOf_13 rfl 0 rfl ?_
    refine z_aload_n E dX6_loadOf_14 rfl 2 rfl ?_
    refine z_get E 0 mw_obj (C := RX6) (T := TX6) (N := 16) rfl (fun _ h => List.mem_cons_of_mem _ (List.mem_append_right _ h)) 1 (by decide) (List.mem_of_getElem? (i := 1) (by decide +kernel)) rfl (v := .ref (am 1)) rfl dX6_loadOf_15 ?_
    refine z_iload_n E dX6_loadOf_18 rfl 3 rfl ?_
    refine z_bipush (v := 6) E dX6_loadOf_19 (by decide) ?_
    refine z_callSi E hZ (k_of l D am cI cR cS cL dg mem (nI k) 6) gX6_loadOf_X6_of (n := 2) rfl rfl rfl (by decide +kernel) rfl ⟨Nat.le_of_ble_eq_true rfl, Nat.le_of_ble_eq_true rfl⟩ (As := [.int (nI k), .int 6]) (rest := [.ref (am 1), .int 1]) rfl (Nat.le_of_ble_eq_true rfl) ⟨Nat.le_of_ble_eq_true rfl, Nat.le_of_ble_eq_true rfl⟩ dX6_loadOf_21 (fun r u hp => ?_)
    rw [hp.1, hp.2]
    rw [zof k (y := 6) (w := 6) rfl]
    refine z_iald E 1 0 mw_s rfl (vp_in_nI (by omega) (by decide)) (v := 3) ((congrArg (mem 1) (nI_clamp (by omega))).trans q6) dX6_loadOf_24 ?_
    refine z_icmp_ge_f (tgt := 48) E dX6_loadOf_25 (by decide) (by decide) ?_
    refine z_iload_n E dX6_loadOf_28 rfl 1 rfl ?_
    refine z_aload_n E dX6_loadOf_29 rfl 2 rfl ?_
    refine z_get E 0 mw_obj (C := RX6) (T := TX6) (N := 16) rfl (fun _ h => List.mem_cons_of_mem _ (List.mem_append_right _ h)) 1 (by decide) (List.mem_of_getElem? (i := 1) (by decide +kernel)) rfl (v := .ref (am 1)) rfl dX6_loadOf_30 ?_
    refine z_iload_n E dX6_loadOf_33 rfl 3 rfl ?_
    refine z_iload_n E dX6_loadOf_34 rfl 0 rfl ?_
    refine z_iconst (v := 0) E dX6_loadOf_35 (by decide) ?_
    refine z_callSi E hZ (k_ofP l D am cI cR cS cL dg mem (nI k) 1 0) gX6_loadOf_X6_ofPerson (n := 3) rfl rfl rfl (by decide +kernel) rfl ⟨Nat.le_of_ble_eq_true rfl, Nat.le_of_ble_eq_true rfl⟩ (As := [.int (nI k), .int 1, .int 0]) (rest := [.ref (am 1), .int ((R 2) + (R 8))]) rfl (Nat.le_of_ble_eq_true rfl) ⟨Nat.le_of_ble_eq_true rfl, Nat.le_of_ble_eq_true rfl⟩ dX6_loadOf_36 (fun r u hp => ?_)
    rw [hp.1, hp.2]
    rw [zofP k 1 (y := 1) (z := 0) (w := 0) (N := 14 * k + 10) rfl rfl (by omega)]
    refine z_iald E 1 0 mw_s rfl (vp_in_nI (by omega) (by decide)) (v := R 9) ((congrArg (mem 1) (nI_clamp (by omega))).trans w1) dX6_loadOf_39 ?_
    refine z_iadd E dX6_loadOf_40 ?_
    refine z_istore_n (lv' := [(2, .int (((R 2) + (R 8)) + (R 9))), (3, .int 1), (0, .ref (am 0)), (1, .int (nI k))]) E dX6_loadOf_41 rfl (by decide) rfl ?_
    refine z_iinc (v := 2) (lv' := [(3, .int 2), (2, .int (((R 2) + (R 8)) + (R 9))), (0, .ref (am 0)), (1, .int (nI k))]) E dX6_loadOf_42 (q := 1) rfl (by decide) (by decide) rfl ?_
    refine z_goto (tgt := 13) E dX6_loadOf_45 (by decide) ?_
    refine z_iload_n E dX6_loadOf_13 rfl 0 rfl ?_
    refine z_aload_n E dX6_loadOf_14 rfl 2 rfl ?_
    refine z_get E 0 mw_obj (C := RX6) (T := TX6) (N := 16) rfl (fun _ h => List.mem_cons_of_mem _ (List.mem_append_right _ h)) 1 (by decide) (List.mem_of_getElem? (i := 1) (by decide +kernel)) rfl (v := .ref (am 1)) rfl dX6_loadOf_15 ?_
    refine z_iload_n E dX6_loadOf_18 rfl 3 rfl ?_
    refine z_bipush (v := 6) E dX6_loadOf_19 (by decide) ?_
    refine z_callSi E hZ (k_of l D am cI cR cS cL dg mem (nI k) 6) gX6_loadOf_X6_of (n := 2) rfl rfl rfl (by decide +kernel) rfl ⟨Nat.le_of_ble_eq_true rfl, Nat.le_of_ble_eq_true rfl⟩ (As := [.int (nI k), .int 6]) (rest := [.ref (am 1), .int 2]) rfl (Nat.le_of_ble_eq_true rfl) ⟨Nat.le_of_ble_eq_true rfl, Nat.le_of_ble_eq_true rfl⟩ dX6_loadOf_21 (fun r u hp => ?_)
    rw [hp.1, hp.2]
    rw [zof k (y := 6) (w := 6) rfl]
    refine z_iald E 1 0 mw_s rfl (vp_in_nI (by omega) (by decide)) (v := 3) ((congrArg (mem 1) (nI_clamp (by omega))).trans q6) dX6_loadOf_24 ?_
    refine z_icmp_ge_f (tgt := 48) E dX6_loadOf_25 (by decide) (by decide) ?_
    refine z_iload_n E dX6_loadOf_28 rfl 1 rfl ?_
    refine z_aload_n E dX6_loadOf_29 rfl 2 rfl ?_
    refine z_get E 0 mw_obj (C := RX6) (T := TX6) (N := 16) rfl (fun _ h => List.mem_cons_of_mem _ (List.mem_append_right _ h)) 1 (by decide) (List.mem_of_getElem? (i := 1) (by decide +kernel)) rfl (v := .ref (am 1)) rfl dX6_loadOf_30 ?_
    refine z_iload_n E dX6_loadOf_33 rfl 3 rfl ?_
    refine z_iload_n E dX6_loadOf_34 rfl 0 rfl ?_
    refine z_iconst (v := 0) E dX6_loadOf_35 (by decide) ?_
    refine z_callSi E hZ (k_ofP l D am cI cR cS cL dg mem (nI k) 2 0) gX6_loadOf_X6_ofPerson (n := 3) rfl rfl rfl (by decide +kernel) rfl ⟨Nat.le_of_ble_eq_true rfl, Nat.le_of_ble_eq_true rfl⟩ (As := [.int (nI k), .int 2, .int 0]) (rest := [.ref (am 1), .int (((R 2) + (R 8)) + (R 9))]) rfl (Nat.le_of_ble_eq_true rfl) ⟨Nat.le_of_ble_eq_true rfl, Nat.le_of_ble_eq_true rfl⟩ dX6_loadOf_36 (fun r u hp => ?_)
    rw [hp.1, hp.2]
    rw [zofP k 2 (y := 2) (z := 0) (w := 0) (N := 14 * k + 12) rfl rfl (by omega)]
    refine z_iald E 1 0 mw_s rfl (vp_in_nI (by omega) (by decide)) (v := R 10) ((congrArg (mem 1) (nI_clamp (by omega))).trans w2) dX6_loadOf_39 ?_
    refine z_iadd E dX6_loadOf_40 ?_
    refine z_istore_n (lv' := [(2, .int ((((R 2) + (R 8)) + (R 9)) + (R 10))), (3, .int 2), (0, .ref (am 0)), (1, .int (nI k))]) E dX6_loadOf_41 rfl (by decide) rfl ?_
    refine z_iinc (v := 3) (lv' := [(3, .int 3), (2, .int ((((R 2) + (R 8)) + (R 9)) + (R 10))), (0, .ref (am 0)), (1, .int (nI k))]) E dX6_loadOf_42 (q := 1) rfl (by decide) (by decide) rfl ?_
    refine z_goto (tgt := 13) E dX6_loadOf_45 (by decide) ?_
    refine z_iload_n E dX6_loadOf_13 rfl 0 rfl ?_
    refine z_aload_n E dX6_loadOf_14 rfl 2 rfl ?_
    refine z_get E 0 mw_obj (C := RX6) (T := TX6) (N := 16) rfl (fun _ h => List.mem_cons_of_mem _ (List.mem_append_right _ h)) 1 (by decide) (List.mem_of_getElem? (i := 1) (by decide +kernel)) rfl (v := .ref (am 1)) rfl dX6_loadOf_15 ?_
    refine z_iload_n E dX6_loadOf_18 rfl 3 rfl ?_
    refine z_bipush (v := 6) E dX6_loadOf_19 (by decide) ?_
    refine z_callSi E hZ (k_of l D am cI cR cS cL dg mem (nI k) 6) gX6_loadOf_X6_of (n := 2) rfl rfl rfl (by decide +kernel) rfl ⟨Nat.le_of_ble_eq_true rfl, Nat.le_of_ble_eq_true rfl⟩ (As := [.int (nI k), .int 6]) (rest := [.ref (am 1), .int 3]) rfl (Nat.le_of_ble_eq_true rfl) ⟨Nat.le_of_ble_eq_true rfl, Nat.le_of_ble_eq_true rfl⟩ dX6_loadOf_21 (fun r u hp => ?_)
    rw [hp.1, hp.2]
    rw [zof k (y := 6) (w := 6) rfl]
    refine z_iald E 1 0 mw_s rfl (vp_in_nI (by omega) (by decide)) (v := 3) ((congrArg (mem 1) (nI_clamp (by omega))).trans q6) dX6_loadOf_24 ?_
    refine z_icmp_ge_t (tgt := 48) E dX6_loadOf_25 (by decide) (by decide) ?_
    refine z_iload_n E dX6_loadOf_48 rfl 1 rfl ?_
    exact z_iretM E hr hlocks (mem) rfl ⟨by unfold fLoad; rfl, rfl⟩ (Nat.le_of_ble_eq_true rfl) (Nat.le_of_ble_eq_true rfl) dX6_loadOf_49
set_option maxHeartbeats 1000000 in
set_option maxRecDepth 100000 in
theorem k_mmoment (l : Launch) (D : va_G) (am : Nat → Nat) (cI cR cS cL : ClassId) (dg : Int64) (mem : zM) {k : Nat} (hk : k < 4) {R : Nat → Int32} {p0 : Nat} (hR : mR (mem 1) k R p0) (hQ : rQ R p0) : zMi l yX6_momentOf wsX6_momentOf ({ frames := 1, cells := 0, slots := 0, locals := 22 }) D (cK cI cR cS cL) [.ref (am 0), .int (nI k)] (mw am cI dg mem) (fun r u => r = fMoment R ∧ u = mem) (mw am cI dg) 0 0 := by
  refine zMiM.of (cc := cX6_momentOf) (maxL := 4) (ret := (some .int)) (by decide +kernel) rfl (lv0 := [(0, .ref (am 0)), (1, .int (nI k))]) (Nat.le_of_ble_eq_true rfl) rfl ?_
  intro p e s m args below meth c E hZ hr hlocks hnm
  obtain ⟨q0, q1, q2, q3, q4, q5, q6, q7, qp⟩ := hR
  obtain ⟨hp3, hq⟩ := hQ
  rcases (show p0 = 0 ∨ p0 = 1 ∨ p0 = 2 ∨ p0 = 3 by omega) with h | h | h | h
  · skip
    subst h
    have z0 : R 8 = 0 := (hq 0 (by omega)).2.2 (by omega)
    have z1 : R 9 = 0 := (hq 1 (by omega)).2.2 (by omega)
    have z2 : R 10 = 0 := (hq 2 (by omega)).2.2 (by omega)
    refine z_iconst (v := 5) E dX6_momentOf_0 (by decide) ?_
    refine z_aload_n E dX6_momentOf_1 rfl 0 rfl ?_
    refine z_get E 0 mw_obj (C := RX6) (T := TX6) (N := 16) rfl (fun _ h => List.mem_cons_of_mem _ (List.mem_append_right _ h)) 1 (by decide) (List.mem_of_getElem? (i := 1) (by decide +kernel)) rfl (v := .ref (am 1)) rfl dX6_momentOf_2 ?_
    refine z_iload_n E dX6_momentOf_5 rfl 1 rfl ?_
    refine z_iconst (v := 2) E dX6_momentOf_6 (by decide) ?_
    refine z_callSi E hZ (k_of l D am cI cR cS cL dg mem (nI k) 2) gX6_momentOf_X6_of (n := 2) rfl rfl rfl (by decide +kernel) rfl ⟨Nat.le_of_ble_eq_true rfl, Nat.le_of_ble_eq_true rfl⟩ (As := [.int (nI k), .int 2]) (rest := [.ref (am 1), .int 5]) rfl (Nat.le_of_ble_eq_true rfl) ⟨Nat.le_of_ble_eq_true rfl, Nat.le_of_ble_eq_true rfl⟩ dX6_momentOf_7 (fun r u hp => ?_)
    rw [hp.1, hp.2]
    rw [zof k (y := 2) (w := 2) rfl]
    refine z_iald E 1 0 mw_s rfl (vp_in_nI (by omega) (by decide)) (v := R 2) ((congrArg (mem 1) (nI_clamp (by omega))).trans q2) dX6_momentOf_10 ?_
    refine z_imul E dX6_momentOf_11 ?_
    refine z_istore_n (lv' := [(2, .int (5 * (R 2))), (0, .ref (am 0)), (1, .int (nI k))]) E dX6_momentOf_12 rfl (by decide) rfl ?_
    refine z_iconst (v := 0) E dX6_momentOf_13 (by decide) ?_
    refine z_istore_n (lv' := [(3, .int 0), (2, .int (5 * (R 2))), (0, .ref (am 0)), (1, .int (nI k))]) E dX6_momentOf_14 rfl (by decide) rfl ?_
    refine z_iload_n E dX6_momentOf_15 rfl 0 rfl ?_
    refine z_aload_n E dX6_momentOf_16 rfl 2 rfl ?_
    refine z_get E 0 mw_obj (C := RX6) (T := TX6) (N := 16) rfl (fun _ h => List.mem_cons_of_mem _ (List.mem_append_right _ h)) 1 (by decide) (List.mem_of_getElem? (i := 1) (by decide +kernel)) rfl (v := .ref (am 1)) rfl dX6_momentOf_17 ?_
    refine z_iload_n E dX6_momentOf_20 rfl 3 rfl ?_
    refine z_bipush (v := 6) E dX6_momentOf_21 (by decide) ?_
    refine z_callSi E hZ (k_of l D am cI cR cS cL dg mem (nI k) 6) gX6_momentOf_X6_of (n := 2) rfl rfl rfl (by decide +kernel) rfl ⟨Nat.le_of_ble_eq_true rfl, Nat.le_of_ble_eq_true rfl⟩ (As := [.int (nI k), .int 6]) (rest := [.ref (am 1), .int 0]) rfl (Nat.le_of_ble_eq_true rfl) ⟨Nat.le_of_ble_eq_true rfl, Nat.le_of_ble_eq_true rfl⟩ dX6_momentOf_23 (fun r u hp => ?_)
    rw [hp.1, hp.2]
    rw [zof k (y := 6) (w := 6) rfl]
    refine z_iald E 1 0 mw_s rfl (vp_in_nI (by omega) (by decide)) (v := 0) ((congrArg (mem 1) (nI_clamp (by omega))).trans q6) dX6_momentOf_26 ?_
    refine z_icmp_ge_t (tgt := 62) E dX6_momentOf_27 (by decide) (by decide) ?_
    refine z_aload_n E dX6_momentOf_62 rfl 2 rfl ?_
    refine z_get E 0 mw_obj (C := RX6) (T := TX6) (N := 16) rfl (fun _ h => List.mem_cons_of_mem _ (List.mem_append_right _ h)) 1 (by decide) (List.mem_of_getElem? (i := 1) (by decide +kernel)) rfl (v := .ref (am 1)) rfl dX6_momentOf_63 ?_
    refine z_iload_n E dX6_momentOf_66 rfl 3 rfl ?_
    refine z_iconst (v := 0) E dX6_momentOf_67 (by decide) ?_
    refine z_callSi E hZ (k_of l D am cI cR cS cL dg mem (nI k) 0) gX6_momentOf_X6_of (n := 2) rfl rfl rfl (by decide +kernel) rfl ⟨Nat.le_of_ble_eq_true rfl, Nat.le_of_ble_eq_true rfl⟩ (As := [.int (nI k), .int 0]) (rest := [.ref (am 1)]) rfl (Nat.le_of_ble_eq_true rfl) ⟨Nat.le_of_ble_eq_true rfl, Nat.le_of_ble_eq_true rfl⟩ dX6_momentOf_68 (fun r u hp => ?_)
    rw [hp.1, hp.2]
    rw [zof k (y := 0) (w := 0) rfl]
    refine z_iald E 1 0 mw_s rfl (vp_in_nI (by omega) (by decide)) (v := R 0) ((congrArg (mem 1) (nI_clamp (by omega))).trans q0) dX6_momentOf_71 ?_
    refine z_iload_n E dX6_momentOf_72 rfl 1 rfl ?_
    refine z_imul E dX6_momentOf_73 ?_
    exact z_iretM E hr hlocks (mem) rfl ⟨by unfold fMoment; rw [z0, z1, z2]; simp only [Int32.mul_zero, Int32.add_zero], rfl⟩ (Nat.le_of_ble_eq_true rfl) (Nat.le_of_ble_eq_true rfl) dX6_momentOf_74
  · skip
    subst h
    have w0 : mem 1 (14 * k + 8) = R 8 := (qp 0 (by omega)).1
    have a0 : mem 1 (14 * k + 9) = R 11 := (qp 0 (by omega)).2
    have z1 : R 9 = 0 := (hq 1 (by omega)).2.2 (by omega)
    have z2 : R 10 = 0 := (hq 2 (by omega)).2.2 (by omega)
    refine z_iconst (v := 5) E dX6_momentOf_0 (by decide) ?_
    refine z_aload_n E dX6_momentOf_1 rfl 0 rfl ?_
    refine z_get E 0 mw_obj (C := RX6) (T := TX6) (N := 16) rfl (fun _ h => List.mem_cons_of_mem _ (List.mem_append_right _ h)) 1 (by decide) (List.mem_of_getElem? (i := 1) (by decide +kernel)) rfl (v := .ref (am 1)) rfl dX6_momentOf_2 ?_
    refine z_iload_n E dX6_momentOf_5 rfl 1 rfl ?_
    refine z_iconst (v := 2) E dX6_momentOf_6 (by decide) ?_
    refine z_callSi E hZ (k_of l D am cI cR cS cL dg mem (nI k) 2) gX6_momentOf_X6_of (n := 2) rfl rfl rfl (by decide +kernel) rfl ⟨Nat.le_of_ble_eq_true rfl, Nat.le_of_ble_eq_true rfl⟩ (As := [.int (nI k), .int 2]) (rest := [.ref (am 1), .int 5]) rfl (Nat.le_of_ble_eq_true rfl) ⟨Nat.le_of_ble_eq_true rfl, Nat.le_of_ble_eq_true rfl⟩ dX6_momentOf_7 (fun r u hp => ?_)
    rw [hp.1, hp.2]
    rw [zof k (y := 2) (w := 2) rfl]
    refine z_iald E 1 0 mw_s rfl (vp_in_nI (by omega) (by decide)) (v := R 2) ((congrArg (mem 1) (nI_clamp (by omega))).trans q2) dX6_momentOf_10 ?_
    refine z_imul E dX6_momentOf_11 ?_
    refine z_istore_n (lv' := [(2, .int (5 * (R 2))), (0, .ref (am 0)), (1, .int (nI k))]) E dX6_momentOf_12 rfl (by decide) rfl ?_
    refine z_iconst (v := 0) E dX6_momentOf_13 (by decide) ?_
    refine z_istore_n (lv' := [(3, .int 0), (2, .int (5 * (R 2))), (0, .ref (am 0)), (1, .int (nI k))]) E dX6_momentOf_14 rfl (by decide) rfl ?_
    refine z_iload_n E dX6_momentOf_15 rfl 0 rfl ?_
    refine z_aload_n E dX6_momentOf_16 rfl 2 rfl ?_
    refine z_get E 0 mw_obj (C := RX6) (T := TX6) (N := 16) rfl (fun _ h => List.mem_cons_of_mem _ (List.mem_append_right _ h)) 1 (by decide) (List.mem_of_getElem? (i := 1) (by decide +kernel)) rfl (v := .ref (am 1)) rfl dX6_momentOf_17 ?_
    refine z_iload_n E dX6_momentOf_20 rfl 3 rfl ?_
    refine z_bipush (v := 6) E dX6_momentOf_21 (by decide) ?_
    refine z_callSi E hZ (k_of l D am cI cR cS cL dg mem (nI k) 6) gX6_momentOf_X6_of (n := 2) rfl rfl rfl (by decide +kernel) rfl ⟨Nat.le_of_ble_eq_true rfl, Nat.le_of_ble_eq_true rfl⟩ (As := [.int (nI k), .int 6]) (rest := [.ref (am 1), .int 0]) rfl (Nat.le_of_ble_eq_true rfl) ⟨Nat.le_of_ble_eq_true rfl, Nat.le_of_ble_eq_true rfl⟩ dX6_momentOf_23 (fun r u hp => ?_)
    rw [hp.1, hp.2]
    rw [zof k (y := 6) (w := 6) rfl]
    refine z_iald E 1 0 mw_s rfl (vp_in_nI (by omega) (by decide)) (v := 1) ((congrArg (mem 1) (nI_clamp (by omega))).trans q6) dX6_momentOf_26 ?_
    refine z_icmp_ge_f (tgt := 62) E dX6_momentOf_27 (by decide) (by decide) ?_
    refine z_iload_n E dX6_momentOf_30 rfl 1 rfl ?_
    refine z_aload_n E dX6_momentOf_31 rfl 2 rfl ?_
    refine z_get E 0 mw_obj (C := RX6) (T := TX6) (N := 16) rfl (fun _ h => List.mem_cons_of_mem _ (List.mem_append_right _ h)) 1 (by decide) (List.mem_of_getElem? (i := 1) (by decide +kernel)) rfl (v := .ref (am 1)) rfl dX6_momentOf_32 ?_
    refine z_iload_n E dX6_momentOf_35 rfl 3 rfl ?_
    refine z_iload_n E dX6_momentOf_36 rfl 0 rfl ?_
    refine z_iconst (v := 0) E dX6_momentOf_37 (by decide) ?_
    refine z_callSi E hZ (k_ofP l D am cI cR cS cL dg mem (nI k) 0 0) gX6_momentOf_X6_ofPerson (n := 3) rfl rfl rfl (by decide +kernel) rfl ⟨Nat.le_of_ble_eq_true rfl, Nat.le_of_ble_eq_true rfl⟩ (As := [.int (nI k), .int 0, .int 0]) (rest := [.ref (am 1), .int (5 * (R 2))]) rfl (Nat.le_of_ble_eq_true rfl) ⟨Nat.le_of_ble_eq_true rfl, Nat.le_of_ble_eq_true rfl⟩ dX6_momentOf_38 (fun r u hp => ?_)
    rw [hp.1, hp.2]
    rw [zofP k 0 (y := 0) (z := 0) (w := 0) (N := 14 * k + 8) rfl rfl (by omega)]
    refine z_iald E 1 0 mw_s rfl (vp_in_nI (by omega) (by decide)) (v := R 8) ((congrArg (mem 1) (nI_clamp (by omega))).trans w0) dX6_momentOf_41 ?_
    refine z_aload_n E dX6_momentOf_42 rfl 2 rfl ?_
    refine z_get E 0 mw_obj (C := RX6) (T := TX6) (N := 16) rfl (fun _ h => List.mem_cons_of_mem _ (List.mem_append_right _ h)) 1 (by decide) (List.mem_of_getElem? (i := 1) (by decide +kernel)) rfl (v := .ref (am 1)) rfl dX6_momentOf_43 ?_
    refine z_iload_n E dX6_momentOf_46 rfl 3 rfl ?_
    refine z_iload_n E dX6_momentOf_47 rfl 0 rfl ?_
    refine z_iconst (v := 1) E dX6_momentOf_48 (by decide) ?_
    refine z_callSi E hZ (k_ofP l D am cI cR cS cL dg mem (nI k) 0 1) gX6_momentOf_X6_ofPerson (n := 3) rfl rfl rfl (by decide +kernel) rfl ⟨Nat.le_of_ble_eq_true rfl, Nat.le_of_ble_eq_true rfl⟩ (As := [.int (nI k), .int 0, .int 1]) (rest := [.ref (am 1), .int (R 8), .int (5 * (R 2))]) rfl (Nat.le_of_ble_eq_true rfl) ⟨Nat.le_of_ble_eq_true rfl, Nat.le_of_ble_eq_true rfl⟩ dX6_momentOf_49 (fun r u hp => ?_)
    rw [hp.1, hp.2]
    rw [zofP k 0 (y := 0) (z := 1) (w := 1) (N := 14 * k + 9) rfl rfl (by omega)]
    refine z_iald E 1 0 mw_s rfl (vp_in_nI (by omega) (by decide)) (v := R 11) ((congrArg (mem 1) (nI_clamp (by omega))).trans a0) dX6_momentOf_52 ?_
    refine z_imul E dX6_momentOf_53 ?_
    refine z_iadd E dX6_momentOf_54 ?_
    refine z_istore_n (lv' := [(2, .int ((5 * (R 2)) + ((R 8) * (R 11)))), (3, .int 0), (0, .ref (am 0)), (1, .int (nI k))]) E dX6_momentOf_55 rfl (by decide) rfl ?_
    refine z_iinc (v := 1) (lv' := [(3, .int 1), (2, .int ((5 * (R 2)) + ((R 8) * (R 11)))), (0, .ref (am 0)), (1, .int (nI k))]) E dX6_momentOf_56 (q := 1) rfl (by decide) (by decide) rfl ?_
    refine z_goto (tgt := 15) E dX6_momentOf_59 (by decide) ?_
    refine z_iload_n E dX6_momentOf_15 rfl 0 rfl ?_
    refine z_aload_n E dX6_momentOf_16 rfl 2 rfl ?_
    refine z_get E 0 mw_obj (C := RX6) (T := TX6) (N := 16) rfl (fun _ h => List.mem_cons_of_mem _ (List.mem_append_right _ h)) 1 (by decide) (List.mem_of_getElem? (i := 1) (by decide +kernel)) rfl (v := .ref (am 1)) rfl dX6_momentOf_17 ?_
    refine z_iload_n E dX6_momentOf_20 rfl 3 rfl ?_
    refine z_bipush (v := 6) E dX6_momentOf_21 (by decide) ?_
    refine z_callSi E hZ (k_of l D am cI cR cS cL dg mem (nI k) 6) gX6_momentOf_X6_of (n := 2) rfl rfl rfl (by decide +kernel) rfl ⟨Nat.le_of_ble_eq_true rfl, Nat.le_of_ble_eq_true rfl⟩ (As := [.int (nI k), .int 6]) (rest := [.ref (am 1), .int 1]) rfl (Nat.le_of_ble_eq_true rfl) ⟨Nat.le_of_ble_eq_true rfl, Nat.le_of_ble_eq_true rfl⟩ dX6_momentOf_23 (fun r u hp => ?_)
    rw [hp.1, hp.2]
    rw [zof k (y := 6) (w := 6) rfl]
    refine z_iald E 1 0 mw_s rfl (vp_in_nI (by omega) (by decide)) (v := 1) ((congrArg (mem 1) (nI_clamp (by omega))).trans q6) dX6_momentOf_26 ?_
    refine z_icmp_ge_t (tgt := 62) E dX6_momentOf_27 (by decide) (by decide) ?_
    refine z_aload_n E dX6_momentOf_62 rfl 2 rfl ?_
    refine z_get E 0 mw_obj (C := RX6) (T := TX6) (N := 16) rfl (fun _ h => List.mem_cons_of_mem _ (List.mem_append_right _ h)) 1 (by decide) (List.mem_of_getElem? (i := 1) (by decide +kernel)) rfl (v := .ref (am 1)) rfl dX6_momentOf_63 ?_
    refine z_iload_n E dX6_momentOf_66 rfl 3 rfl ?_
    refine z_iconst (v := 0) E dX6_momentOf_67 (by decide) ?_
    refine z_callSi E hZ (k_of l D am cI cR cS cL dg mem (nI k) 0) gX6_momentOf_X6_of (n := 2) rfl rfl rfl (by decide +kernel) rfl ⟨Nat.le_of_ble_eq_true rfl, Nat.le_of_ble_eq_true rfl⟩ (As := [.int (nI k), .int 0]) (rest := [.ref (am 1)]) rfl (Nat.le_of_ble_eq_true rfl) ⟨Nat.le_of_ble_eq_true rfl, Nat.le_of_ble_eq_true rfl⟩ dX6_momentOf_68 (fun r u hp => ?_)
    rw [hp.1, hp.2]
    rw [zof k (y := 0) (w := 0) rfl]
    refine z_iald E 1 0 mw_s rfl (vp_in_nI (by omega) (by decide)) (v := R 0) ((congrArg (mem 1) (nI_clamp (by omega))).trans q0) dX6_momentOf_71 ?_
    refine z_iload_n E dX6_momentOf_72 rfl 1 rfl ?_
    refine z_imul E dX6_momentOf_73 ?_
    exact z_iretM E hr hlocks (mem) rfl ⟨by unfold fMoment; rw [Int32.mul_comm (R 11) (R 8), z1, z2]; simp only [Int32.mul_zero, Int32.add_zero], rfl⟩ (Nat.le_of_ble_eq_true rfl) (Nat.le_of_ble_eq_true rfl) dX6_momentOf_74
  · skip
    subst h
    have w0 : mem 1 (14 * k + 8) = R 8 := (qp 0 (by omega)).1
    have a0 : mem 1 (14 * k + 9) = R 11 := (qp 0 (by omega)).2
    have w1 : mem 1 (14 * k + 10) = R 9 := (qp 1 (by omega)).1
    have a1 : mem 1 (14 * k + 11) = R 12 := (qp 1 (by omega)).2
    have z2 : R 10 = 0 := (hq 2 (by omega)).2.2 (by omega)
    refine z_iconst (v := 5) E dX6_momentOf_0 (by decide) ?_
    refine z_aload_n E dX6_momentOf_1 rfl 0 rfl ?_
    refine z_get E 0 mw_obj (C := RX6) (T := TX6) (N := 16) rfl (fun _ h => List.mem_cons_of_mem _ (List.mem_append_right _ h)) 1 (by decide) (List.mem_of_getElem? (i := 1) (by decide +kernel)) rfl (v := .ref (am 1)) rfl dX6_momentOf_2 ?_
    refine z_iload_n E dX6_momentOf_5 rfl 1 rfl ?_
    refine z_iconst (v := 2) E dX6_momentOf_6 (by decide) ?_
    refine z_callSi E hZ (k_of l D am cI cR cS cL dg mem (nI k) 2) gX6_momentOf_X6_of (n := 2) rfl rfl rfl (by decide +kernel) rfl ⟨Nat.le_of_ble_eq_true rfl, Nat.le_of_ble_eq_true rfl⟩ (As := [.int (nI k), .int 2]) (rest := [.ref (am 1), .int 5]) rfl (Nat.le_of_ble_eq_true rfl) ⟨Nat.le_of_ble_eq_true rfl, Nat.le_of_ble_eq_true rfl⟩ dX6_momentOf_7 (fun r u hp => ?_)
    rw [hp.1, hp.2]
    rw [zof k (y := 2) (w := 2) rfl]
    refine z_iald E 1 0 mw_s rfl (vp_in_nI (by omega) (by decide)) (v := R 2) ((congrArg (mem 1) (nI_clamp (by omega))).trans q2) dX6_momentOf_10 ?_
    refine z_imul E dX6_momentOf_11 ?_
    refine z_istore_n (lv' := [(2, .int (5 * (R 2))), (0, .ref (am 0)), (1, .int (nI k))]) E dX6_momentOf_12 rfl (by decide) rfl ?_
    refine z_iconst (v := 0) E dX6_momentOf_13 (by decide) ?_
    refine z_istore_n (lv' := [(3, .int 0), (2, .int (5 * (R 2))), (0, .ref (am 0)), (1, .int (nI k))]) E dX6_momentOf_14 rfl (by decide) rfl ?_
    refine z_iload_n E dX6_momentOf_15 rfl 0 rfl ?_
    refine z_aload_n E dX6_momentOf_16 rfl 2 rfl ?_
    refine z_get E 0 mw_obj (C := RX6) (T := TX6) (N := 16) rfl (fun _ h => List.mem_cons_of_mem _ (List.mem_append_right _ h)) 1 (by decide) (List.mem_of_getElem? (i := 1) (by decide +kernel)) rfl (v := .ref (am 1)) rfl dX6_momentOf_17 ?_
    refine z_iload_n E dX6_momentOf_20 rfl 3 rfl ?_
    refine z_bipush (v := 6) E dX6_momentOf_21 (by decide) ?_
    refine z_callSi E hZ (k_of l D am cI cR cS cL dg mem (nI k) 6) gX6_momentOf_X6_of (n := 2) rfl rfl rfl (by decide +kernel) rfl ⟨Nat.le_of_ble_eq_true rfl, Nat.le_of_ble_eq_true rfl⟩ (As := [.int (nI k), .int 6]) (rest := [.ref (am 1), .int 0]) rfl (Nat.le_of_ble_eq_true rfl) ⟨Nat.le_of_ble_eq_true rfl, Nat.le_of_ble_eq_true rfl⟩ dX6_momentOf_23 (fun r u hp => ?_)
    rw [hp.1, hp.2]
    rw [zof k (y := 6) (w := 6) rfl]
    refine z_iald E 1 0 mw_s rfl (vp_in_nI (by omega) (by decide)) (v := 2) ((congrArg (mem 1) (nI_clamp (by omega))).trans q6) dX6_momentOf_26 ?_
    refine z_icmp_ge_f (tgt := 62) E dX6_momentOf_27 (by decide) (by decide) ?_
    refine z_iload_n E dX6_momentOf_30 rfl 1 rfl ?_
    refine z_aload_n E dX6_momentOf_31 rfl 2 rfl ?_
    refine z_get E 0 mw_obj (C := RX6) (T := TX6) (N := 16) rfl (fun _ h => List.mem_cons_of_mem _ (List.mem_append_right _ h)) 1 (by decide) (List.mem_of_getElem? (i := 1) (by decide +kernel)) rfl (v := .ref (am 1)) rfl dX6_momentOf_32 ?_
    refine z_iload_n E dX6_momentOf_35 rfl 3 rfl ?_
    refine z_iload_n E dX6_momentOf_36 rfl 0 rfl ?_
    refine z_iconst (v := 0) E dX6_momentOf_37 (by decide) ?_
    refine z_callSi E hZ (k_ofP l D am cI cR cS cL dg mem (nI k) 0 0) gX6_momentOf_X6_ofPerson (n := 3) rfl rfl rfl (by decide +kernel) rfl ⟨Nat.le_of_ble_eq_true rfl, Nat.le_of_ble_eq_true rfl⟩ (As := [.int (nI k), .int 0, .int 0]) (rest := [.ref (am 1), .int (5 * (R 2))]) rfl (Nat.le_of_ble_eq_true rfl) ⟨Nat.le_of_ble_eq_true rfl, Nat.le_of_ble_eq_true rfl⟩ dX6_momentOf_38 (fun r u hp => ?_)
    rw [hp.1, hp.2]
    rw [zofP k 0 (y := 0) (z := 0) (w := 0) (N := 14 * k + 8) rfl rfl (by omega)]
    refine z_iald E 1 0 mw_s rfl (vp_in_nI (by omega) (by decide)) (v := R 8) ((congrArg (mem 1) (nI_clamp (by omega))).trans w0) dX6_momentOf_41 ?_
    refine z_aload_n E dX6_momentOf_42 rfl 2 rfl ?_
    refine z_get E 0 mw_obj (C := RX6) (T := TX6) (N := 16) rfl (fun _ h => List.mem_cons_of_mem _ (List.mem_append_right _ h)) 1 (by decide) (List.mem_of_getElem? (i := 1) (by decide +kernel)) rfl (v := .ref (am 1)) rfl dX6_momentOf_43 ?_
    refine z_iload_n E dX6_momentOf_46 rfl 3 rfl ?_
    refine z_iload_n E dX6_momentOf_47 rfl 0 rfl ?_
    refine z_iconst (v := 1) E dX6_momentOf_48 (by decide) ?_
    refine z_callSi E hZ (k_ofP l D am cI cR cS cL dg mem (nI k) 0 1) gX6_momentOf_X6_ofPerson (n := 3) rfl rfl rfl (by decide +kernel) rfl ⟨Nat.le_of_ble_eq_true rfl, Nat.le_of_ble_eq_true rfl⟩ (As := [.int (nI k), .int 0, .int 1]) (rest := [.ref (am 1), .int (R 8), .int (5 * (R 2))]) rfl (Nat.le_of_ble_eq_true rfl) ⟨Nat.le_of_ble_eq_true rfl, Nat.le_of_ble_eq_true rfl⟩ dX6_momentOf_49 (fun r u hp => ?_)
    rw [hp.1, hp.2]
    rw [zofP k 0 (y := 0) (z := 1) (w := 1) (N := 14 * k + 9) rfl rfl (by omega)]
    refine z_iald E 1 0 mw_s rfl (vp_in_nI (by omega) (by decide)) (v := R 11) ((congrArg (mem 1) (nI_clamp (by omega))).trans a0) dX6_momentOf_52 ?_
    refine z_imul E dX6_momentOf_53 ?_
    refine z_iadd E dX6_momentOf_54 ?_
    refine z_istore_n (lv' := [(2, .int ((5 * (R 2)) + ((R 8) * (R 11)))), (3, .int 0), (0, .ref (am 0)), (1, .int (nI k))]) E dX6_momentOf_55 rfl (by decide) rfl ?_
    refine z_iinc (v := 1) (lv' := [(3, .int 1), (2, .int ((5 * (R 2)) + ((R 8) * (R 11)))), (0, .ref (am 0)), (1, .int (nI k))]) E dX6_momentOf_56 (q := 1) rfl (by decide) (by decide) rfl ?_
    refine z_goto (tgt := 15) E dX6_momentOf_59 (by decide) ?_
    refine z_iload_n E dX6_momentOf_15 rfl 0 rfl ?_
    refine z_aload_n E dX6_momentOf_16 rfl 2 rfl ?_
    refine z_get E 0 mw_obj (C := RX6) (T := TX6) (N := 16) rfl (fun _ h => List.mem_cons_of_mem _ (List.mem_append_right _ h)) 1 (by decide) (List.mem_of_getElem? (i := 1) (by decide +kernel)) rfl (v := .ref (am 1)) rfl dX6_momentOf_17 ?_
    refine z_iload_n E dX6_momentOf_20 rfl 3 rfl ?_
    refine z_bipush (v := 6) E dX6_momentOf_21 (by decide) ?_
    refine z_callSi E hZ (k_of l D am cI cR cS cL dg mem (nI k) 6) gX6_momentOf_X6_of (n := 2) rfl rfl rfl (by decide +kernel) rfl ⟨Nat.le_of_ble_eq_true rfl, Nat.le_of_ble_eq_true rfl⟩ (As := [.int (nI k), .int 6]) (rest := [.ref (am 1), .int 1]) rfl (Nat.le_of_ble_eq_true rfl) ⟨Nat.le_of_ble_eq_true rfl, Nat.le_of_ble_eq_true rfl⟩ dX6_momentOf_23 (fun r u hp => ?_)
    rw [hp.1, hp.2]
    rw [zof k (y := 6) (w := 6) rfl]
    refine z_iald E 1 0 mw_s rfl (vp_in_nI (by omega) (by decide)) (v := 2) ((congrArg (mem 1) (nI_clamp (by omega))).trans q6) dX6_momentOf_26 ?_
    refine z_icmp_ge_f (tgt := 62) E dX6_momentOf_27 (by decide) (by decide) ?_
    refine z_iload_n E dX6_momentOf_30 rfl 1 rfl ?_
    refine z_aload_n E dX6_momentOf_31 rfl 2 rfl ?_
    refine z_get E 0 mw_obj (C := RX6) (T := TX6) (N := 16) rfl (fun _ h => List.mem_cons_of_mem _ (List.mem_append_right _ h)) 1 (by decide) (List.mem_of_getElem? (i := 1) (by decide +kernel)) rfl (v := .ref (am 1)) rfl dX6_momentOf_32 ?_
    refine z_iload_n E dX6_momentOf_35 rfl 3 rfl ?_
    refine z_iload_n E dX6_momentOf_36 rfl 0 rfl ?_
    refine z_iconst (v := 0) E dX6_momentOf_37 (by decide) ?_
    refine z_callSi E hZ (k_ofP l D am cI cR cS cL dg mem (nI k) 1 0) gX6_momentOf_X6_ofPerson (n := 3) rfl rfl rfl (by decide +kernel) rfl ⟨Nat.le_of_ble_eq_true rfl, Nat.le_of_ble_eq_true rfl⟩ (As := [.int (nI k), .int 1, .int 0]) (rest := [.ref (am 1), .int ((5 * (R 2)) + ((R 8) * (R 11)))]) rfl (Nat.le_of_ble_eq_true rfl) ⟨Nat.le_of_ble_eq_true rfl, Nat.le_of_ble_eq_true rfl⟩ dX6_momentOf_38 (fun r u hp => ?_)
    rw [hp.1, hp.2]
    rw [zofP k 1 (y := 1) (z := 0) (w := 0) (N := 14 * k + 10) rfl rfl (by omega)]
    refine z_iald E 1 0 mw_s rfl (vp_in_nI (by omega) (by decide)) (v := R 9) ((congrArg (mem 1) (nI_clamp (by omega))).trans w1) dX6_momentOf_41 ?_
    refine z_aload_n E dX6_momentOf_42 rfl 2 rfl ?_
    refine z_get E 0 mw_obj (C := RX6) (T := TX6) (N := 16) rfl (fun _ h => List.mem_cons_of_mem _ (List.mem_append_right _ h)) 1 (by decide) (List.mem_of_getElem? (i := 1) (by decide +kernel)) rfl (v := .ref (am 1)) rfl dX6_momentOf_43 ?_
    refine z_iload_n E dX6_momentOf_46 rfl 3 rfl ?_
    refine z_iload_n E dX6_momentOf_47 rfl 0 rfl ?_
    refine z_iconst (v := 1) E dX6_momentOf_48 (by decide) ?_
    refine z_callSi E hZ (k_ofP l D am cI cR cS cL dg mem (nI k) 1 1) gX6_momentOf_X6_ofPerson (n := 3) rfl rfl rfl (by decide +kernel) rfl ⟨Nat.le_of_ble_eq_true rfl, Nat.le_of_ble_eq_true rfl⟩ (As := [.int (nI k), .int 1, .int 1]) (rest := [.ref (am 1), .int (R 9), .int ((5 * (R 2)) + ((R 8) * (R 11)))]) rfl (Nat.le_of_ble_eq_true rfl) ⟨Nat.le_of_ble_eq_true rfl, Nat.le_of_ble_eq_true rfl⟩ dX6_momentOf_49 (fun r u hp => ?_)
    rw [hp.1, hp.2]
    rw [zofP k 1 (y := 1) (z := 1) (w := 1) (N := 14 * k + 11) rfl rfl (by omega)]
    refine z_iald E 1 0 mw_s rfl (vp_in_nI (by omega) (by decide)) (v := R 12) ((congrArg (mem 1) (nI_clamp (by omega))).trans a1) dX6_momentOf_52 ?_
    refine z_imul E dX6_momentOf_53 ?_
    refine z_iadd E dX6_momentOf_54 ?_
    refine z_istore_n (lv' := [(2, .int (((5 * (R 2)) + ((R 8) * (R 11))) + ((R 9) * (R 12)))), (3, .int 1), (0, .ref (am 0)), (1, .int (nI k))]) E dX6_momentOf_55 rfl (by decide) rfl ?_
    refine z_iinc (v := 2) (lv' := [(3, .int 2), (2, .int (((5 * (R 2)) + ((R 8) * (R 11))) + ((R 9) * (R 12)))), (0, .ref (am 0)), (1, .int (nI k))]) E dX6_momentOf_56 (q := 1) rfl (by decide) (by decide) rfl ?_
    refine z_goto (tgt := 15) E dX6_momentOf_59 (by decide) ?_
    refine z_iload_n E dX6_momentOf_15 rfl 0 rfl ?_
    refine z_aload_n E dX6_momentOf_16 rfl 2 rfl ?_
    refine z_get E 0 mw_obj (C := RX6) (T := TX6) (N := 16) rfl (fun _ h => List.mem_cons_of_mem _ (List.mem_append_right _ h)) 1 (by decide) (List.mem_of_getElem? (i := 1) (by decide +kernel)) rfl (v := .ref (am 1)) rfl dX6_momentOf_17 ?_
    refine z_iload_n E dX6_momentOf_20 rfl 3 rfl ?_
    refine z_bipush (v := 6) E dX6_momentOf_21 (by decide) ?_
    refine z_callSi E hZ (k_of l D am cI cR cS cL dg mem (nI k) 6) gX6_momentOf_X6_of (n := 2) rfl rfl rfl (by decide +kernel) rfl ⟨Nat.le_of_ble_eq_true rfl, Nat.le_of_ble_eq_true rfl⟩ (As := [.int (nI k), .int 6]) (rest := [.ref (am 1), .int 2]) rfl (Nat.le_of_ble_eq_true rfl) ⟨Nat.le_of_ble_eq_true rfl, Nat.le_of_ble_eq_true rfl⟩ dX6_momentOf_23 (fun r u hp => ?_)
    rw [hp.1, hp.2]
    rw [zof k (y := 6) (w := 6) rfl]
    refine z_iald E 1 0 mw_s rfl (vp_in_nI (by omega) (by decide)) (v := 2) ((congrArg (mem 1) (nI_clamp (by omega))).trans q6) dX6_momentOf_26 ?_
    refine z_icmp_ge_t (tgt := 62) E dX6_momentOf_27 (by decide) (by decide) ?_
    refine z_aload_n E dX6_momentOf_62 rfl 2 rfl ?_
    refine z_get E 0 mw_obj (C := RX6) (T := TX6) (N := 16) rfl (fun _ h => List.mem_cons_of_mem _ (List.mem_append_right _ h)) 1 (by decide) (List.mem_of_getElem? (i := 1) (by decide +kernel)) rfl (v := .ref (am 1)) rfl dX6_momentOf_63 ?_
    refine z_iload_n E dX6_momentOf_66 rfl 3 rfl ?_
    refine z_iconst (v := 0) E dX6_momentOf_67 (by decide) ?_
    refine z_callSi E hZ (k_of l D am cI cR cS cL dg mem (nI k) 0) gX6_momentOf_X6_of (n := 2) rfl rfl rfl (by decide +kernel) rfl ⟨Nat.le_of_ble_eq_true rfl, Nat.le_of_ble_eq_true rfl⟩ (As := [.int (nI k), .int 0]) (rest := [.ref (am 1)]) rfl (Nat.le_of_ble_eq_true rfl) ⟨Nat.le_of_ble_eq_true rfl, Nat.le_of_ble_eq_true rfl⟩ dX6_momentOf_68 (fun r u hp => ?_)
    rw [hp.1, hp.2]
    rw [zof k (y := 0) (w := 0) rfl]
    refine z_iald E 1 0 mw_s rfl (vp_in_nI (by omega) (by decide)) (v := R 0) ((congrArg (mem 1) (nI_clamp (by omega))).trans q0) dX6_momentOf_71 ?_
    refine z_iload_n E dX6_momentOf_72 rfl 1 rfl ?_
    refine z_imul E dX6_momentOf_73 ?_
    exact z_iretM E hr hlocks (mem) rfl ⟨by unfold fMoment; rw [Int32.mul_comm (R 11) (R 8), Int32.mul_comm (R 12) (R 9), z2]; simp only [Int32.mul_zero, Int32.add_zero], rfl⟩ (Nat.le_of_ble_eq_true rfl) (Nat.le_of_ble_eq_true rfl) dX6_momentOf_74
  · skip
    subst h
    have w0 : mem 1 (14 * k + 8) = R 8 := (qp 0 (by omega)).1
    have a0 : mem 1 (14 * k + 9) = R 11 := (qp 0 (by omega)).2
    have w1 : mem 1 (14 * k + 10) = R 9 := (qp 1 (by omega)).1
    have a1 : mem 1 (14 * k + 11) = R 12 := (qp 1 (by omega)).2
    have w2 : mem 1 (14 * k + 12) = R 10 := (qp 2 (by omega)).1
    have a2 : mem 1 (14 * k + 13) = R 13 := (qp 2 (by omega)).2
    refine z_iconst (v := 5) E dX6_momentOf_0 (by decide) ?_
    refine z_aload_n E dX6_momentOf_1 rfl 0 rfl ?_
    refine z_get E 0 mw_obj (C := RX6) (T := TX6) (N := 16) rfl (fun _ h => List.mem_cons_of_mem _ (List.mem_append_right _ h)) 1 (by decide) (List.mem_of_getElem? (i := 1) (by decide +kernel)) rfl (v := .ref (am 1)) rfl dX6_momentOf_2 ?_
    refine z_iload_n E dX6_momentOf_5 rfl 1 rfl ?_
    refine z_iconst (v := 2) E dX6_momentOf_6 (by decide) ?_
    refine z_callSi E hZ (k_of l D am cI cR cS cL dg mem (nI k) 2) gX6_momentOf_X6_of (n := 2) rfl rfl rfl (by decide +kernel) rfl ⟨Nat.le_of_ble_eq_true rfl, Nat.le_of_ble_eq_true rfl⟩ (As := [.int (nI k), .int 2]) (rest := [.ref (am 1), .int 5]) rfl (Nat.le_of_ble_eq_true rfl) ⟨Nat.le_of_ble_eq_true rfl, Nat.le_of_ble_eq_true rfl⟩ dX6_momentOf_7 (fun r u hp => ?_)
    rw [hp.1, hp.2]
    rw [zof k (y := 2) (w := 2) rfl]
    refine z_iald E 1 0 mw_s rfl (vp_in_nI (by omega) (by decide)) (v := R 2) ((congrArg (mem 1) (nI_clamp (by omega))).trans q2) dX6_momentOf_10 ?_
    refine z_imul E dX6_momentOf_11 ?_
    refine z_istore_n (lv' := [(2, .int (5 * (R 2))), (0, .ref (am 0)), (1, .int (nI k))]) E dX6_momentOf_12 rfl (by decide) rfl ?_
    refine z_iconst (v := 0) E dX6_momentOf_13 (by decide) ?_
    refine z_istore_n (lv' := [(3, .int 0), (2, .int (5 * (R 2))), (0, .ref (am 0)), (1, .int (nI k))]) E dX6_momentOf_14 rfl (by decide) rfl ?_
    refine z_iload_n E dX6_momentOf_15 rfl 0 rfl ?_
    refine z_aload_n E dX6_momentOf_16 rfl 2 rfl ?_
    refine z_get E 0 mw_obj (C := RX6) (T := TX6) (N := 16) rfl (fun _ h => List.mem_cons_of_mem _ (List.mem_append_right _ h)) 1 (by decide) (List.mem_of_getElem? (i := 1) (by decide +kernel)) rfl (v := .ref (am 1)) rfl dX6_momentOf_17 ?_
    refine z_iload_n E dX6_momentOf_20 rfl 3 rfl ?_
    refine z_bipush (v := 6) E dX6_momentOf_21 (by decide) ?_
    refine z_callSi E hZ (k_of l D am cI cR cS cL dg mem (nI k) 6) gX6_momentOf_X6_of (n := 2) rfl rfl rfl (by decide +kernel) rfl ⟨Nat.le_of_ble_eq_true rfl, Nat.le_of_ble_eq_true rfl⟩ (As := [.int (nI k), .int 6]) (rest := [.ref (am 1), .int 0]) rfl (Nat.le_of_ble_eq_true rfl) ⟨Nat.le_of_ble_eq_true rfl, Nat.le_of_ble_eq_true rfl⟩ dX6_momentOf_23 (fun r u hp => ?_)
    rw [hp.1, hp.2]
    rw [zof k (y := 6) (w := 6) rfl]
    refine z_iald E 1 0 mw_s rfl (vp_in_nI (by omega) (by decide)) (v := 3) ((congrArg (mem 1) (nI_clamp (by omega))).trans q6) dX6_momentOf_26 ?_
    refine z_icmp_ge_f (tgt := 62) E dX6_momentOf_27 (by decide) (by decide) ?_
    refine z_iload_n E dX6_momentOf_30 rfl 1 rfl ?_
    refine z_aload_n E dX6_momentOf_31 rfl 2 rfl ?_
    refine z_get E 0 mw_obj (C := RX6) (T := TX6) (N := 16) rfl (fun _ h => List.mem_cons_of_mem _ (List.mem_append_right _ h)) 1 (by decide) (List.mem_of_getElem? (i := 1) (by decide +kernel)) rfl (v := .ref (am 1)) rfl dX6_momentOf_32 ?_
    refine z_iload_n E dX6_momentOf_35 rfl 3 rfl ?_
    refine z_iload_n E dX6_momentOf_36 rfl 0 rfl ?_
    refine z_iconst (v := 0) E dX6_momentOf_37 (by decide) ?_
    refine z_callSi E hZ (k_ofP l D am cI cR cS cL dg mem (nI k) 0 0) gX6_momentOf_X6_ofPerson (n := 3) rfl rfl rfl (by decide +kernel) rfl ⟨Nat.le_of_ble_eq_true rfl, Nat.le_of_ble_eq_true rfl⟩ (As := [.int (nI k), .int 0, .int 0]) (rest := [.ref (am 1), .int (5 * (R 2))]) rfl (Nat.le_of_ble_eq_true rfl) ⟨Nat.le_of_ble_eq_true rfl, Nat.le_of_ble_eq_true rfl⟩ dX6_momentOf_38 (fun r u hp => ?_)
    rw [hp.1, hp.2]
    rw [zofP k 0 (y := 0) (z := 0) (w := 0) (N := 14 * k + 8) rfl rfl (by omega)]
    refine z_iald E 1 0 mw_s rfl (vp_in_nI (by omega) (by decide)) (v := R 8) ((congrArg (mem 1) (nI_clamp (by omega))).trans w0) dX6_momentOf_41 ?_
    refine z_aload_n E dX6_momentOf_42 rfl 2 rfl ?_
    refine z_get E 0 mw_obj (C := RX6) (T := TX6) (N := 16) rfl (fun _ h => List.mem_cons_of_mem _ (List.mem_append_right _ h)) 1 (by decide) (List.mem_of_getElem? (i := 1) (by decide +kernel)) rfl (v := .ref (am 1)) rfl dX6_momentOf_43 ?_
    refine z_iload_n E dX6_momentOf_46 rfl 3 rfl ?_
    refine z_iload_n E dX6_momentOf_47 rfl 0 rfl ?_
    refine z_iconst (v := 1) E dX6_momentOf_48 (by decide) ?_
    refine z_callSi E hZ (k_ofP l D am cI cR cS cL dg mem (nI k) 0 1) gX6_momentOf_X6_ofPerson (n := 3) rfl rfl rfl (by decide +kernel) rfl ⟨Nat.le_of_ble_eq_true rfl, Nat.le_of_ble_eq_true rfl⟩ (As := [.int (nI k), .int 0, .int 1]) (rest := [.ref (am 1), .int (R 8), .int (5 * (R 2))]) rfl (Nat.le_of_ble_eq_true rfl) ⟨Nat.le_of_ble_eq_true rfl, Nat.le_of_ble_eq_true rfl⟩ dX6_momentOf_49 (fun r u hp => ?_)
    rw [hp.1, hp.2]
    rw [zofP k 0 (y := 0) (z := 1) (w := 1) (N := 14 * k + 9) rfl rfl (by omega)]
    refine z_iald E 1 0 mw_s rfl (vp_in_nI (by omega) (by decide)) (v := R 11) ((congrArg (mem 1) (nI_clamp (by omega))).trans a0) dX6_momentOf_52 ?_
    refine z_imul E dX6_momentOf_53 ?_
    refine z_iadd E dX6_momentOf_54 ?_
    refine z_istore_n (lv' := [(2, .int ((5 * (R 2)) + ((R 8) * (R 11)))), (3, .int 0), (0, .ref (am 0)), (1, .int (nI k))]) E dX6_momentOf_55 rfl (by decide) rfl ?_
    refine z_iinc (v := 1) (lv' := [(3, .int 1), (2, .int ((5 * (R 2)) + ((R 8) * (R 11)))), (0, .ref (am 0)), (1, .int (nI k))]) E dX6_momentOf_56 (q := 1) rfl (by decide) (by decide) rfl ?_
    refine z_goto (tgt := 15) E dX6_momentOf_59 (by decide) ?_
    refine z_iload_n E dX6_momentOf_15 rfl 0 rfl ?_
    refine z_aload_n E dX6_momentOf_16 rfl 2 rfl ?_
    refine z_get E 0 mw_obj (C := RX6) (T := TX6) (N := 16) rfl (fun _ h => List.mem_cons_of_mem _ (List.mem_append_right _ h)) 1 (by decide) (List.mem_of_getElem? (i := 1) (by decide +kernel)) rfl (v := .ref (am 1)) rfl dX6_momentOf_17 ?_
    refine z_iload_n E dX6_momentOf_20 rfl 3 rfl ?_
    refine z_bipush (v := 6) E dX6_momentOf_21 (by decide) ?_
    refine z_callSi E hZ (k_of l D am cI cR cS cL dg mem (nI k) 6) gX6_momentOf_X6_of (n := 2) rfl rfl rfl (by decide +kernel) rfl ⟨Nat.le_of_ble_eq_true rfl, Nat.le_of_ble_eq_true rfl⟩ (As := [.int (nI k), .int 6]) (rest := [.ref (am 1), .int 1]) rfl (Nat.le_of_ble_eq_true rfl) ⟨Nat.le_of_ble_eq_true rfl, Nat.le_of_ble_eq_true rfl⟩ dX6_momentOf_23 (fun r u hp => ?_)
    rw [hp.1, hp.2]
    rw [zof k (y := 6) (w := 6) rfl]
    refine z_iald E 1 0 mw_s rfl (vp_in_nI (by omega) (by decide)) (v := 3) ((congrArg (mem 1) (nI_clamp (by omega))).trans q6) dX6_momentOf_26 ?_
    refine z_icmp_ge_f (tgt := 62) E dX6_momentOf_27 (by decide) (by decide) ?_
    refine z_iload_n E dX6_momentOf_30 rfl 1 rfl ?_
    refine z_aload_n E dX6_momentOf_31 rfl 2 rfl ?_
    refine z_get E 0 mw_obj (C := RX6) (T := TX6) (N := 16) rfl (fun _ h => List.mem_cons_of_mem _ (List.mem_append_right _ h)) 1 (by decide) (List.mem_of_getElem? (i := 1) (by decide +kernel)) rfl (v := .ref (am 1)) rfl dX6_momentOf_32 ?_
    refine z_iload_n E dX6_momentOf_35 rfl 3 rfl ?_
    refine z_iload_n E dX6_momentOf_36 rfl 0 rfl ?_
    refine z_iconst (v := 0) E dX6_momentOf_37 (by decide) ?_
    refine z_callSi E hZ (k_ofP l D am cI cR cS cL dg mem (nI k) 1 0) gX6_momentOf_X6_ofPerson (n := 3) rfl rfl rfl (by decide +kernel) rfl ⟨Nat.le_of_ble_eq_true rfl, Nat.le_of_ble_eq_true rfl⟩ (As := [.int (nI k), .int 1, .int 0]) (rest := [.ref (am 1), .int ((5 * (R 2)) + ((R 8) * (R 11)))]) rfl (Nat.le_of_ble_eq_true rfl) ⟨Nat.le_of_ble_eq_true rfl, Nat.le_of_ble_eq_true rfl⟩ dX6_momentOf_38 (fun r u hp => ?_)
    rw [hp.1, hp.2]
    rw [zofP k 1 (y := 1) (z := 0) (w := 0) (N := 14 * k + 10) rfl rfl (by omega)]
    refine z_iald E 1 0 mw_s rfl (vp_in_nI (by omega) (by decide)) (v := R 9) ((congrArg (mem 1) (nI_clamp (by omega))).trans w1) dX6_momentOf_41 ?_
    refine z_aload_n E dX6_momentOf_42 rfl 2 rfl ?_
    refine z_get E 0 mw_obj (C := RX6) (T := TX6) (N := 16) rfl (fun _ h => List.mem_cons_of_mem _ (List.mem_append_right _ h)) 1 (by decide) (List.mem_of_getElem? (i := 1) (by decide +kernel)) rfl (v := .ref (am 1)) rfl dX6_momentOf_43 ?_
    refine z_iload_n E dX6_momentOf_46 rfl 3 rfl ?_
    refine z_iload_n E dX6_momentOf_47 rfl 0 rfl ?_
    refine z_iconst (v := 1) E dX6_momentOf_48 (by decide) ?_
    refine z_callSi E hZ (k_ofP l D am cI cR cS cL dg mem (nI k) 1 1) gX6_momentOf_X6_ofPerson (n := 3) rfl rfl rfl (by decide +kernel) rfl ⟨Nat.le_of_ble_eq_true rfl, Nat.le_of_ble_eq_true rfl⟩ (As := [.int (nI k), .int 1, .int 1]) (rest := [.ref (am 1), .int (R 9), .int ((5 * (R 2)) + ((R 8) * (R 11)))]) rfl (Nat.le_of_ble_eq_true rfl) ⟨Nat.le_of_ble_eq_true rfl, Nat.le_of_ble_eq_true rfl⟩ dX6_momentOf_49 (fun r u hp => ?_)
    rw [hp.1, hp.2]
    rw [zofP k 1 (y := 1) (z := 1) (w := 1) (N := 14 * k + 11) rfl rfl (by omega)]
    refine z_iald E 1 0 mw_s rfl (vp_in_nI (by omega) (by decide)) (v := R 12) ((congrArg (mem 1) (nI_clamp (by omega))).trans a1) dX6_momentOf_52 ?_
    refine z_imul E dX6_momentOf_53 ?_
    refine z_iadd E dX6_momentOf_54 ?_
    refine z_istore_n (lv' := [(2, .int (((5 * (R 2)) + ((R 8) * (R 11))) + ((R 9) * (R 12)))), (3, .int 1), (0, .ref (am 0)), (1, .int (nI k))]) E dX6_momentOf_55 rfl (by decide) rfl ?_
    refine z_iinc (v := 2) (lv' := [(3, .int 2), (2, .int (((5 * (R 2)) + ((R 8) * (R 11))) + ((R 9) * (R 12)))), (0, .ref (am 0)), (1, .int (nI k))]) E dX6_momentOf_56 (q := 1) rfl (by decide) (by decide) rfl ?_
    refine z_goto (tgt := 15) E dX6_momentOf_59 (by decide) ?_
    refine z_iload_n E dX6_momentOf_15 rfl 0 rfl ?_
    refine z_aload_n E dX6_momentOf_16 rfl 2 rfl ?_
    refine z_get E 0 mw_obj (C := RX6) (T := TX6) (N := 16) rfl (fun _ h => List.mem_cons_of_mem _ (List.mem_append_right _ h)) 1 (by decide) (List.mem_of_getElem? (i := 1) (by decide +kernel)) rfl (v := .ref (am 1)) rfl dX6_momentOf_17 ?_
    refine z_iload_n E dX6_momentOf_20 rfl 3 rfl ?_
    refine z_bipush (v := 6) E dX6_momentOf_21 (by decide) ?_
    refine z_callSi E hZ (k_of l D am cI cR cS cL dg mem (nI k) 6) gX6_momentOf_X6_of (n := 2) rfl rfl rfl (by decide +kernel) rfl ⟨Nat.le_of_ble_eq_true rfl, Nat.le_of_ble_eq_true rfl⟩ (As := [.int (nI k), .int 6]) (rest := [.ref (am 1), .int 2]) rfl (Nat.le_of_ble_eq_true rfl) ⟨Nat.le_of_ble_eq_true rfl, Nat.le_of_ble_eq_true rfl⟩ dX6_momentOf_23 (fun r u hp => ?_)
    rw [hp.1, hp.2]
    rw [zof k (y := 6) (w := 6) rfl]
    refine z_iald E 1 0 mw_s rfl (vp_in_nI (by omega) (by decide)) (v := 3) ((congrArg (mem 1) (nI_clamp (by omega))).trans q6) dX6_momentOf_26 ?_
    refine z_icmp_ge_f (tgt := 62) E dX6_momentOf_27 (by decide) (by decide) ?_
    refine z_iload_n E dX6_momentOf_30 rfl 1 rfl ?_
    refine z_aload_n E dX6_momentOf_31 rfl 2 rfl ?_
    refine z_get E 0 mw_obj (C := RX6) (T := TX6) (N := 16) rfl (fun _ h => List.mem_cons_of_mem _ (List.mem_append_right _ h)) 1 (by decide) (List.mem_of_getElem? (i := 1) (by decide +kernel)) rfl (v := .ref (am 1)) rfl dX6_momentOf_32 ?_
    refine z_iload_n E dX6_momentOf_35 rfl 3 rfl ?_
    refine z_iload_n E dX6_momentOf_36 rfl 0 rfl ?_
    refine z_iconst (v := 0) E dX6_momentOf_37 (by decide) ?_
    refine z_callSi E hZ (k_ofP l D am cI cR cS cL dg mem (nI k) 2 0) gX6_momentOf_X6_ofPerson (n := 3) rfl rfl rfl (by decide +kernel) rfl ⟨Nat.le_of_ble_eq_true rfl, Nat.le_of_ble_eq_true rfl⟩ (As := [.int (nI k), .int 2, .int 0]) (rest := [.ref (am 1), .int (((5 * (R 2)) + ((R 8) * (R 11))) + ((R 9) * (R 12)))]) rfl (Nat.le_of_ble_eq_true rfl) ⟨Nat.le_of_ble_eq_true rfl, Nat.le_of_ble_eq_true rfl⟩ dX6_momentOf_38 (fun r u hp => ?_)
    rw [hp.1, hp.2]
    rw [zofP k 2 (y := 2) (z := 0) (w := 0) (N := 14 * k + 12) rfl rfl (by omega)]
    refine z_iald E 1 0 mw_s rfl (vp_in_nI (by omega) (by decide)) (v := R 10) ((congrArg (mem 1) (nI_clamp (by omega))).trans w2) dX6_momentOf_41 ?_
    refine z_aload_n E dX6_momentOf_42 rfl 2 rfl ?_
    refine z_get E 0 mw_obj (C := RX6) (T := TX6) (N := 16) rfl (fun _ h => List.mem_cons_of_mem _ (List.mem_append_right _ h)) 1 (by decide) (List.mem_of_getElem? (i := 1) (by decide +kernel)) rfl (v := .ref (am 1)) rfl dX6_momentOf_43 ?_
    refine z_iload_n E dX6_momentOf_46 rfl 3 rfl ?_
    refine z_iload_n E dX6_momentOf_47 rfl 0 rfl ?_
    refine z_iconst (v := 1) E dX6_momentOf_48 (by decide) ?_
    refine z_callSi E hZ (k_ofP l D am cI cR cS cL dg mem (nI k) 2 1) gX6_momentOf_X6_ofPerson (n := 3) rfl rfl rfl (by decide +kernel) rfl ⟨Nat.le_of_ble_eq_true rfl, Nat.le_of_ble_eq_true rfl⟩ (As := [.int (nI k), .int 2, .int 1]) (rest := [.ref (am 1), .int (R 10), .int (((5 * (R 2)) + ((R 8) * (R 11))) + ((R 9) * (R 12)))]) rfl (Nat.le_of_ble_eq_true rfl) ⟨Nat.le_of_ble_eq_true rfl, Nat.le_of_ble_eq_true rfl⟩ dX6_momentOf_49 (fun r u hp => ?_)
    rw [hp.1, hp.2]
    rw [zofP k 2 (y := 2) (z := 1) (w := 1) (N := 14 * k + 13) rfl rfl (by omega)]
    refine z_iald E 1 0 mw_s rfl (vp_in_nI (by omega) (by decide)) (v := R 13) ((congrArg (mem 1) (nI_clamp (by omega))).trans a2) dX6_momentOf_52 ?_
    refine z_imul E dX6_momentOf_53 ?_
    refine z_iadd E dX6_momentOf_54 ?_
    refine z_istore_n (lv' := [(2, .int ((((5 * (R 2)) + ((R 8) * (R 11))) + ((R 9) * (R 12))) + ((R 10) * (R 13)))), (3, .int 2), (0, .ref (am 0)), (1, .int (nI k))]) E dX6_momentOf_55 rfl (by decide) rfl ?_
    refine z_iinc (v := 3) (lv' := [(3, .int 3), (2, .int ((((5 * (R 2)) + ((R 8) * (R 11))) + ((R 9) * (R 12))) + ((R 10) * (R 13)))), (0, .ref (am 0)), (1, .int (nI k))]) E dX6_momentOf_56 (q := 1) rfl (by decide) (by decide) rfl ?_
    refine z_goto (tgt := 15) E dX6_momentOf_59 (by decide) ?_
    refine z_iload_n E dX6_momentOf_15 rfl 0 rfl ?_
    refine z_aload_n E dX6_momentOf_16 rfl 2 rfl ?_
    refine z_get E 0 mw_obj (C := RX6) (T := TX6) (N := 16) rfl (fun _ h => List.mem_cons_of_mem _ (List.mem_append_right _ h)) 1 (by decide) (List.mem_of_getElem? (i := 1) (by decide +kernel)) rfl (v := .ref (am 1)) rfl dX6_momentOf_17 ?_
    refine z_iload_n E dX6_momentOf_20 rfl 3 rfl ?_
    refine z_bipush (v := 6) E dX6_momentOf_21 (by decide) ?_
    refine z_callSi E hZ (k_of l D am cI cR cS cL dg mem (nI k) 6) gX6_momentOf_X6_of (n := 2) rfl rfl rfl (by decide +kernel) rfl ⟨Nat.le_of_ble_eq_true rfl, Nat.le_of_ble_eq_true rfl⟩ (As := [.int (nI k), .int 6]) (rest := [.ref (am 1), .int 3]) rfl (Nat.le_of_ble_eq_true rfl) ⟨Nat.le_of_ble_eq_true rfl, Nat.le_of_ble_eq_true rfl⟩ dX6_momentOf_23 (fun r u hp => ?_)
    rw [hp.1, hp.2]
    rw [zof k (y := 6) (w := 6) rfl]
    refine z_iald E 1 0 mw_s rfl (vp_in_nI (by omega) (by decide)) (v := 3) ((congrArg (mem 1) (nI_clamp (by omega))).trans q6) dX6_momentOf_26 ?_
    refine z_icmp_ge_t (tgt := 62) E dX6_momentOf_27 (by decide) (by decide) ?_
    refine z_aload_n E dX6_momentOf_62 rfl 2 rfl ?_
    refine z_get E 0 mw_obj (C := RX6) (T := TX6) (N := 16) rfl (fun _ h => List.mem_cons_of_mem _ (List.mem_append_right _ h)) 1 (by decide) (List.mem_of_getElem? (i := 1) (by decide +kernel)) rfl (v := .ref (am 1)) rfl dX6_momentOf_63 ?_
    refine z_iload_n E dX6_momentOf_66 rfl 3 rfl ?_
    refine z_iconst (v := 0) E dX6_momentOf_67 (by decide) ?_
    refine z_callSi E hZ (k_of l D am cI cR cS cL dg mem (nI k) 0) gX6_momentOf_X6_of (n := 2) rfl rfl rfl (by decide +kernel) rfl ⟨Nat.le_of_ble_eq_true rfl, Nat.le_of_ble_eq_true rfl⟩ (As := [.int (nI k), .int 0]) (rest := [.ref (am 1)]) rfl (Nat.le_of_ble_eq_true rfl) ⟨Nat.le_of_ble_eq_true rfl, Nat.le_of_ble_eq_true rfl⟩ dX6_momentOf_68 (fun r u hp => ?_)
    rw [hp.1, hp.2]
    rw [zof k (y := 0) (w := 0) rfl]
    refine z_iald E 1 0 mw_s rfl (vp_in_nI (by omega) (by decide)) (v := R 0) ((congrArg (mem 1) (nI_clamp (by omega))).trans q0) dX6_momentOf_71 ?_
    refine z_iload_n E dX6_momentOf_72 rfl 1 rfl ?_
    refine z_imul E dX6_momentOf_73 ?_
    exact z_iretM E hr hlocks (mem) rfl ⟨by unfold fMoment; rw [Int32.mul_comm (R 11) (R 8), Int32.mul_comm (R 12) (R 9), Int32.mul_comm (R 13) (R 10)]; skip, rfl⟩ (Nat.le_of_ble_eq_true rfl) (Nat.le_of_ble_eq_true rfl) dX6_momentOf_74
set_option maxHeartbeats 1000000 in
set_option maxRecDepth 100000 in
theorem k_mpush (l : Launch) (D : va_G) (am : Nat → Nat) (cI cR cS cL : ClassId) (dg : Int64) (mem : zM) {k : Nat} (hk : k < 4) {R : Nat → Int32} {p0 : Nat} (hR : mR (mem 1) k R p0) (hQ : rQ R p0) (f : Int32) : zMi l yX6_pushOf wsX6_pushOf ({ frames := 2, cells := 0, slots := 0, locals := 45 }) D (cK cI cR cS cL) [.ref (am 0), .int (nI k), .int f] (mw am cI dg mem) (fun r u => r = fPush R f ∧ u = mem) (mw am cI dg) 0 0 := by
  refine zMiM.of (cc := cX6_pushOf) (maxL := 3) (ret := (some .int)) (by decide +kernel) rfl (lv0 := [(0, .ref (am 0)), (1, .int (nI k)), (2, .int f)]) (Nat.le_of_ble_eq_true rfl) rfl ?_
  intro p e s m args below meth c E hZ hr hlocks hnm
  obtain ⟨q0, q1, q2, q3, q4, q5, q6, q7, qp⟩ := id hR
  refine z_aload_n E dX6_pushOf_0 rfl 0 rfl ?_
  refine z_iload_n E dX6_pushOf_1 rfl 1 rfl ?_
  refine z_callVi E hZ (k_mmoment l D am cI cR cS cL dg mem hk hR hQ) gX6_pushOf_X6_momentOf (n := 1) rfl rfl rfl (by decide +kernel) rfl ⟨Nat.le_of_ble_eq_true rfl, Nat.le_of_ble_eq_true rfl⟩  (C := RX6) rfl 0 mw_obj (As := [.int (nI k)]) (rest := []) rfl (Nat.le_of_ble_eq_true rfl) ⟨Nat.le_of_ble_eq_true rfl, Nat.le_of_ble_eq_true rfl⟩ dX6_pushOf_2 (fun r u hp => ?_)
  rw [hp.1, hp.2]
  refine z_bipush (v := 10) E dX6_pushOf_5 (by decide) ?_
  refine z_iload_n E dX6_pushOf_7 rfl 2 rfl ?_
  refine z_imul E dX6_pushOf_8 ?_
  refine z_aload_n E dX6_pushOf_9 rfl 0 rfl ?_
  refine z_get E 0 mw_obj (C := RX6) (T := TX6) (N := 16) rfl (fun _ h => List.mem_cons_of_mem _ (List.mem_append_right _ h)) 1 (by decide) (List.mem_of_getElem? (i := 1) (by decide +kernel)) rfl (v := .ref (am 1)) rfl dX6_pushOf_10 ?_
  refine z_iload_n E dX6_pushOf_13 rfl 1 rfl ?_
  refine z_iconst (v := 0) E dX6_pushOf_14 (by decide) ?_
  refine z_callSi E hZ (k_of l D am cI cR cS cL dg mem (nI k) 0) gX6_pushOf_X6_of (n := 2) rfl rfl rfl (by decide +kernel) rfl ⟨Nat.le_of_ble_eq_true rfl, Nat.le_of_ble_eq_true rfl⟩ (As := [.int (nI k), .int 0]) (rest := [.ref (am 1), .int (10 * f), .int (fMoment R)]) rfl (Nat.le_of_ble_eq_true rfl) ⟨Nat.le_of_ble_eq_true rfl, Nat.le_of_ble_eq_true rfl⟩ dX6_pushOf_15 (fun r u hp => ?_)
  rw [hp.1, hp.2]
  rw [zof k (y := 0) (w := 0) rfl]
  refine z_iald E 1 0 mw_s rfl (vp_in_nI (by omega) (by decide)) (v := R 0) ((congrArg (mem 1) (nI_clamp (by omega))).trans q0) dX6_pushOf_18 ?_
  refine z_imul E dX6_pushOf_19 ?_
  refine z_isub E dX6_pushOf_20 ?_
  exact z_iretM E hr hlocks (mem) rfl ⟨rfl, rfl⟩ (Nat.le_of_ble_eq_true rfl) (Nat.le_of_ble_eq_true rfl) dX6_pushOf_21
