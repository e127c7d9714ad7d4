/-! LadderClimb$Reader and LadderClimb$Works -/
/-- the cell i's row is r -/
def mrow (mem : zM) (i : Nat) (r : Nat → Int32) : zM := fun a b => if a = i then r b else mem a b
theorem mrow_at (mem : zM) (i : Nat) (r : Nat → Int32) : mrow mem i r i = r := by funext b; simp [mrow]
theorem mrow_ne (mem : zM) {i a : Nat} (r : Nat → Int32) (h : a ≠ i) : mrow mem i r a = mem a := by funext b; simp [mrow, h]
theorem mrow_self (mem : zM) (i : Nat) : mrow mem i (mem i) = mem := by
  funext a b
  by_cases h : a = i <;> simp [mrow, h]
theorem mrow_mrow (mem : zM) (i : Nat) (r r' : Nat → Int32) : mrow (mrow mem i r) i r' = mrow mem i r' := by
  funext a b
  by_cases h : a = i <;> simp [mrow, h]
theorem mset_row (mem : zM) (i k : Nat) (v : Int32) : mset mem i k v = mrow mem i (upd (mem i) k v) := by
  funext a b
  by_cases h : a = i
  · subst h
    by_cases hb : b = k <;> simp [mset, mrow, upd, hb]
  · simp [mset, mrow, h]
theorem mset_mrow (mem : zM) (i k : Nat) (r : Nat → Int32) (v : Int32) : mset (mrow mem i r) i k v = mrow mem i (upd r k v) := by
  rw [mset_row, mrow_mrow, mrow_at]
def rStart (r : Nat → Int32) : Nat → Int32 := upd (upd r 0 0) 5 0
def fPW (r : Nat → Int32) : Int32 := if r 0 = 4 then 1 else if r 0 = 3 then (if r 5 < r 1 then 0 else if r 2 < r 5 then 0 else 1) else 0
def fTL (c : Int32) : Int32 := if c < 48 then 0 else if c < 52 then 1 else 0
def rTL (r : Nat → Int32) (c : Int32) : Nat → Int32 := if c < 48 then r else if c < 52 then upd (upd r 3 (c - 48)) 0 1 else r
def rSN (r : Nat → Int32) (c x y : Int32) : Nat → Int32 := upd (upd (upd (upd r 4 c) 1 x) 2 y) 0 2
def fTW (c : Int32) : Int32 := if c = 111 then 1 else if c = 114 then 1 else if c = 117 then 1 else if c = 120 then 1 else 0
def rTW (r : Nat → Int32) (c : Int32) : Nat → Int32 := if c = 111 then rSN r c 20 150 else if c = 114 then rSN r c 0 200 else if c = 117 then rSN r c 0 10 else if c = 120 then upd (upd r 4 c) 0 4 else r
def fCanN (r : Nat → Int32) (d : Int32) : Nat → Int32 → Int32 → Int32
  | 0, _, _ => 0
  | n + 1, lo, hi => if r 2 < lo then (if d = 0 then 0 else fCanN r d n (10 * lo) (10 * hi + 9)) else if hi < r 1 then (if d = 0 then 0 else fCanN r d n (10 * lo) (10 * hi + 9)) else 1
def fCan (r : Nat → Int32) (d : Int32) : Int32 := fCanN r d 3 d d
def fTD (r : Nat → Int32) (c : Int32) : Int32 := if c < 48 then 0 else if c ≤ 57 then (if fCan r (10 * r 5 + c - 48) = 0 then 0 else 1) else 0
def rTD (r : Nat → Int32) (c : Int32) : Nat → Int32 := if c < 48 then r else if c ≤ 57 then (if fCan r (10 * r 5 + c - 48) = 0 then r else upd (upd r 5 (10 * r 5 + c - 48)) 0 3) else r
def fTS (r : Nat → Int32) : Int32 := if fPW r = 0 then 0 else 1
def rTS (r : Nat → Int32) : Nat → Int32 := if fPW r = 0 then r else rStart r
/-- whether the reader takes the character c, and its row then -/
def fTk (r : Nat → Int32) (c : Int32) : Int32 := if r 0 = 0 then fTL c else if r 0 = 1 then fTW c else if r 0 = 2 then fTD r c else if r 0 = 3 then (if c = 59 then fTS r else if r 5 = 0 then 0 else if fTD r c = 0 then 0 else 1) else if c = 59 then (if fTS r = 0 then 0 else 1) else 0
def rTk (r : Nat → Int32) (c : Int32) : Nat → Int32 := if r 0 = 0 then rTL r c else if r 0 = 1 then rTW r c else if r 0 = 2 then rTD r c else if r 0 = 3 then (if c = 59 then rTS r else if r 5 = 0 then r else rTD r c) else if c = 59 then rTS r else r
theorem znb {v : Int32} (h : v = 0 ∨ v = 1) : narrow .boolean (.int v) = .int v := by
  rcases h with rfl | rfl <;> rfl
theorem f01_if {c : Prop} [Decidable c] {x y : Int32} (hx : x = 0 ∨ x = 1) (hy : y = 0 ∨ y = 1) : (if c then x else y) = 0 ∨ (if c then x else y) = 1 := by
  by_cases h : c
  · rw [if_pos h]; exact hx
  · rw [if_neg h]; exact hy
theorem fTL_01 (c : Int32) : fTL c = 0 ∨ fTL c = 1 := f01_if (Or.inl rfl) (f01_if (Or.inr rfl) (Or.inl rfl))
theorem fTW_01 (c : Int32) : fTW c = 0 ∨ fTW c = 1 := f01_if (Or.inr rfl) (f01_if (Or.inr rfl) (f01_if (Or.inr rfl) (f01_if (Or.inr rfl) (Or.inl rfl))))
theorem fTD_01 (r : Nat → Int32) (c : Int32) : fTD r c = 0 ∨ fTD r c = 1 := f01_if (Or.inl rfl) (f01_if (f01_if (Or.inl rfl) (Or.inr rfl)) (Or.inl rfl))
theorem fTS_01 (r : Nat → Int32) : fTS r = 0 ∨ fTS r = 1 := f01_if (Or.inl rfl) (Or.inr rfl)

set_option maxHeartbeats 4000000 in
set_option maxRecDepth 100000 in
theorem k_startPart (l : Launch) (D : va_G) (ad : Nat → Nat) (cI cR cS cL : ClassId) (mem : zM)  : zMv l yX1_startPart wsX1_startPart ({ frames := 0, cells := 0, slots := 0, locals := 0 }) D (cK cI cR cS cL) [.ref (ad 105)] (cw ad cI cR cS mem) (fun u => u = mrow mem 105 (rStart (mem 105))) (cw ad cI cR cS) 0 0 := by
  refine zMvM.of (cc := cX1_startPart) (maxL := 1) (ret := none) (by decide +kernel) rfl (lv0 := [(0, .ref (ad 105))]) (Nat.le_of_ble_eq_true rfl) rfl ?_
  intro p e s m args below meth c E hZ hr hlocks hnm
  refine z_aload_n E dX1_startPart_0 rfl 0 rfl ?_
  refine z_iconst (v := 0) E dX1_startPart_1 (by decide) ?_
  refine z_put E 105 cw_read (C := RX1) (T := TX1) (N := 6) rfl (fun _ h => List.mem_cons_of_mem _ (List.mem_append_right _ h)) tyX1 tyX1_ok nmX1 0 (by decide) (List.mem_of_getElem? (i := 1) (by decide +kernel)) rfl rfl rfl rfl (Nat.le_of_ble_eq_true rfl) (ws' := cw ad cI cR cS (mset mem 105 0 0)) (cs_read 0 (by decide) rfl) dX1_startPart_2 ?_
  refine z_gm (fun m41 hm41 => ?_)
  refine z_aload_n E dX1_startPart_5 rfl 0 rfl ?_
  refine z_iconst (v := 0) E dX1_startPart_6 (by decide) ?_
  refine z_put E 105 cw_read (C := RX1) (T := TX1) (N := 6) rfl (fun _ h => List.mem_cons_of_mem _ (List.mem_append_right _ h)) tyX1 tyX1_ok nmX1 5 (by decide) (List.mem_of_getElem? (i := 2) (by decide +kernel)) rfl rfl rfl rfl (Nat.le_of_ble_eq_true rfl) (ws' := cw ad cI cR cS (mset m41 105 5 0)) (cs_read 5 (by decide) rfl) dX1_startPart_7 ?_
  refine z_gm (fun m42 hm42 => ?_)
  exact z_vretM E hr hlocks (m42) rfl (by rw [hm42, hm41, mset_row mem, mset_mrow]; exact rfl) (Nat.le_of_ble_eq_true rfl) (Nat.le_of_ble_eq_true rfl) dX1_startPart_10
set_option maxHeartbeats 4000000 in
set_option maxRecDepth 100000 in
theorem k_isPartWhole (l : Launch) (D : va_G) (ad : Nat → Nat) (cI cR cS cL : ClassId) (mem : zM)  : zMi l yX1_isPartWhole wsX1_isPartWhole ({ frames := 0, cells := 0, slots := 0, locals := 0 }) D (cK cI cR cS cL) [.ref (ad 105)] (cw ad cI cR cS mem) (fun r u => r = fPW (mem 105) ∧ u = mem) (cw ad cI cR cS) 0 0 := by
  refine zMiM.of (cc := cX1_isPartWhole) (maxL := 1) (ret := (some .boolean)) (by decide +kernel) rfl (lv0 := [(0, .ref (ad 105))]) (Nat.le_of_ble_eq_true rfl) rfl ?_
  intro p e s m args below meth c E hZ hr hlocks hnm
  refine z_aload_n E dX1_isPartWhole_0 rfl 0 rfl ?_
  refine z_get E 105 cw_read (C := RX1) (T := TX1) (N := 6) rfl (fun _ h => List.mem_cons_of_mem _ (List.mem_append_right _ h)) 0 (by decide) (List.mem_of_getElem? (i := 1) (by decide +kernel)) rfl (v := .int (mem 105 0)) rfl dX1_isPartWhole_1 ?_
  refine z_iconst (v := 4) E dX1_isPartWhole_4 (by decide) ?_
  refine z_icmp_eq (tgt := 38) E dX1_isPartWhole_5 (by decide) (fun c5 => ?_) (fun c5 => ?_)
  · skip
    refine z_iconst (v := 1) E dX1_isPartWhole_38 (by decide) ?_
    refine z_goto (tgt := 43) E dX1_isPartWhole_39 (by decide) ?_
    exact z_izretM E hr hlocks (mem) rfl rfl ⟨(if_pos c5).symm, rfl⟩ (Nat.le_of_ble_eq_true rfl) (Nat.le_of_ble_eq_true rfl) dX1_isPartWhole_43
  · skip
    refine z_aload_n E dX1_isPartWhole_8 rfl 0 rfl ?_
    refine z_get E 105 cw_read (C := RX1) (T := TX1) (N := 6) rfl (fun _ h => List.mem_cons_of_mem _ (List.mem_append_right _ h)) 0 (by decide) (List.mem_of_getElem? (i := 1) (by decide +kernel)) rfl (v := .int (mem 105 0)) rfl dX1_isPartWhole_9 ?_
    refine z_iconst (v := 3) E dX1_isPartWhole_12 (by decide) ?_
    refine z_icmp_ne (tgt := 42) E dX1_isPartWhole_13 (by decide) (fun c13 => ?_) (fun c13 => ?_)
    · skip
      refine z_iconst (v := 0) E dX1_isPartWhole_42 (by decide) ?_
      exact z_izretM E hr hlocks (mem) rfl rfl ⟨((if_neg c5).trans (if_neg c13)).symm, rfl⟩ (Nat.le_of_ble_eq_true rfl) (Nat.le_of_ble_eq_true rfl) dX1_isPartWhole_43
    · skip
      refine z_aload_n E dX1_isPartWhole_16 rfl 0 rfl ?_
      refine z_get E 105 cw_read (C := RX1) (T := TX1) (N := 6) rfl (fun _ h => List.mem_cons_of_mem _ (List.mem_append_right _ h)) 5 (by decide) (List.mem_of_getElem? (i := 2) (by decide +kernel)) rfl (v := .int (mem 105 5)) rfl dX1_isPartWhole_17 ?_
      refine z_aload_n E dX1_isPartWhole_20 rfl 0 rfl ?_
      refine z_get E 105 cw_read (C := RX1) (T := TX1) (N := 6) rfl (fun _ h => List.mem_cons_of_mem _ (List.mem_append_right _ h)) 1 (by decide) (List.mem_of_getElem? (i := 3) (by decide +kernel)) rfl (v := .int (mem 105 1)) rfl dX1_isPartWhole_21 ?_
      refine z_icmp_lt (tgt := 42) E dX1_isPartWhole_24 (by decide) (fun c24 => ?_) (fun c24 => ?_)
      · skip
        refine z_iconst (v := 0) E dX1_isPartWhole_42 (by decide) ?_
        exact z_izretM E hr hlocks (mem) rfl rfl ⟨((if_neg c5).trans ((if_pos c13).trans (if_pos c24))).symm, rfl⟩ (Nat.le_of_ble_eq_true rfl) (Nat.le_of_ble_eq_true rfl) dX1_isPartWhole_43
      · skip
        refine z_aload_n E dX1_isPartWhole_27 rfl 0 rfl ?_
        refine z_get E 105 cw_read (C := RX1) (T := TX1) (N := 6) rfl (fun _ h => List.mem_cons_of_mem _ (List.mem_append_right _ h)) 5 (by decide) (List.mem_of_getElem? (i := 2) (by decide +kernel)) rfl (v := .int (mem 105 5)) rfl dX1_isPartWhole_28 ?_
        refine z_aload_n E dX1_isPartWhole_31 rfl 0 rfl ?_
        refine z_get E 105 cw_read (C := RX1) (T := TX1) (N := 6) rfl (fun _ h => List.mem_cons_of_mem _ (List.mem_append_right _ h)) 2 (by decide) (List.mem_of_getElem? (i := 4) (by decide +kernel)) rfl (v := .int (mem 105 2)) rfl dX1_isPartWhole_32 ?_
        refine z_icmp_gt (tgt := 42) E dX1_isPartWhole_35 (by decide) (fun c35 => ?_) (fun c35 => ?_)
        · skip
          refine z_iconst (v := 0) E dX1_isPartWhole_42 (by decide) ?_
          exact z_izretM E hr hlocks (mem) rfl rfl ⟨((if_neg c5).trans ((if_pos c13).trans ((if_neg c24).trans (if_pos c35)))).symm, rfl⟩ (Nat.le_of_ble_eq_true rfl) (Nat.le_of_ble_eq_true rfl) dX1_isPartWhole_43
        · skip
          refine z_iconst (v := 1) E dX1_isPartWhole_38 (by decide) ?_
          refine z_goto (tgt := 43) E dX1_isPartWhole_39 (by decide) ?_
          exact z_izretM E hr hlocks (mem) rfl rfl ⟨((if_neg c5).trans ((if_pos c13).trans ((if_neg c24).trans (if_neg c35)))).symm, rfl⟩ (Nat.le_of_ble_eq_true rfl) (Nat.le_of_ble_eq_true rfl) dX1_isPartWhole_43
set_option maxHeartbeats 4000000 in
set_option maxRecDepth 100000 in
theorem k_takesLadder (l : Launch) (D : va_G) (ad : Nat → Nat) (cI cR cS cL : ClassId) (mem : zM) (q : Int32) : zMi l yX1_takesLadder wsX1_takesLadder ({ frames := 0, cells := 0, slots := 0, locals := 0 }) D (cK cI cR cS cL) [.ref (ad 105), .int q] (cw ad cI cR cS mem) (fun r u => r = fTL q ∧ u = mrow mem 105 (rTL (mem 105) q)) (cw ad cI cR cS) 0 0 := by
  refine zMiM.of (cc := cX1_takesLadder) (maxL := 2) (ret := (some .boolean)) (by decide +kernel) rfl (lv0 := [(0, .ref (ad 105)), (1, .int q)]) (Nat.le_of_ble_eq_true rfl) rfl ?_
  intro p e s m args below meth c E hZ hr hlocks hnm
  refine z_iload_n E dX1_takesLadder_0 rfl 1 rfl ?_
  refine z_bipush (v := 48) E dX1_takesLadder_1 (by decide) ?_
  refine z_icmp_lt (tgt := 12) E dX1_takesLadder_3 (by decide) (fun c3 => ?_) (fun c3 => ?_)
  · skip
    refine z_iconst (v := 0) E dX1_takesLadder_12 (by decide) ?_
    exact z_izretM E hr hlocks (mem) rfl rfl ⟨(if_pos c3).symm, ((mrow_self mem 105).symm.trans (congrArg (mrow mem 105) ((if_pos c3).symm)))⟩ (Nat.le_of_ble_eq_true rfl) (Nat.le_of_ble_eq_true rfl) dX1_takesLadder_13
  · skip
    refine z_iload_n E dX1_takesLadder_6 rfl 1 rfl ?_
    refine z_bipush (v := 52) E dX1_takesLadder_7 (by decide) ?_
    refine z_icmp_lt (tgt := 14) E dX1_takesLadder_9 (by decide) (fun c9 => ?_) (fun c9 => ?_)
    · skip
      refine z_aload_n E dX1_takesLadder_14 rfl 0 rfl ?_
      refine z_iload_n E dX1_takesLadder_15 rfl 1 rfl ?_
      refine z_bipush (v := 48) E dX1_takesLadder_16 (by decide) ?_
      refine z_isub E dX1_takesLadder_18 ?_
      refine z_put E 105 cw_read (C := RX1) (T := TX1) (N := 6) rfl (fun _ h => List.mem_cons_of_mem _ (List.mem_append_right _ h)) tyX1 tyX1_ok nmX1 3 (by decide) (List.mem_of_getElem? (i := 1) (by decide +kernel)) rfl rfl rfl rfl (Nat.le_of_ble_eq_true rfl) (ws' := cw ad cI cR cS (mset mem 105 3 (q - 48))) (cs_read 3 (by decide) rfl) dX1_takesLadder_19 ?_
      refine z_gm (fun m43 hm43 => ?_)
      refine z_aload_n E dX1_takesLadder_22 rfl 0 rfl ?_
      refine z_iconst (v := 1) E dX1_takesLadder_23 (by decide) ?_
      refine z_put E 105 cw_read (C := RX1) (T := TX1) (N := 6) rfl (fun _ h => List.mem_cons_of_mem _ (List.mem_append_right _ h)) tyX1 tyX1_ok nmX1 0 (by decide) (List.mem_of_getElem? (i := 2) (by decide +kernel)) rfl rfl rfl rfl (Nat.le_of_ble_eq_true rfl) (ws' := cw ad cI cR cS (mset m43 105 0 1)) (cs_read 0 (by decide) rfl) dX1_takesLadder_24 ?_
      refine z_gm (fun m44 hm44 => ?_)
      refine z_iconst (v := 1) E dX1_takesLadder_27 (by decide) ?_
      exact z_izretM E hr hlocks (m44) rfl rfl ⟨((if_neg c3).trans (if_pos c9)).symm, (by rw [hm44, hm43, mset_row mem, mset_mrow]; exact congrArg (mrow mem 105) (((if_neg c3).trans (if_pos c9)).symm))⟩ (Nat.le_of_ble_eq_true rfl) (Nat.le_of_ble_eq_true rfl) dX1_takesLadder_28
    · skip
      refine z_iconst (v := 0) E dX1_takesLadder_12 (by decide) ?_
      exact z_izretM E hr hlocks (mem) rfl rfl ⟨((if_neg c3).trans (if_neg c9)).symm, ((mrow_self mem 105).symm.trans (congrArg (mrow mem 105) (((if_neg c3).trans (if_neg c9)).symm)))⟩ (Nat.le_of_ble_eq_true rfl) (Nat.le_of_ble_eq_true rfl) dX1_takesLadder_13
set_option maxHeartbeats 4000000 in
set_option maxRecDepth 100000 in
theorem k_startNumber (l : Launch) (D : va_G) (ad : Nat → Nat) (cI cR cS cL : ClassId) (mem : zM) (q x y : Int32) : zMi l yX1_startNumber wsX1_startNumber ({ frames := 0, cells := 0, slots := 0, locals := 0 }) D (cK cI cR cS cL) [.ref (ad 105), .int q, .int x, .int y] (cw ad cI cR cS mem) (fun r u => r = 1 ∧ u = mrow mem 105 (rSN (mem 105) q x y)) (cw ad cI cR cS) 0 0 := by
  refine zMiM.of (cc := cX1_startNumber) (maxL := 4) (ret := (some .boolean)) (by decide +kernel) rfl (lv0 := [(0, .ref (ad 105)), (1, .int q), (2, .int x), (3, .int y)]) (Nat.le_of_ble_eq_true rfl) rfl ?_
  intro p e s m args below meth c E hZ hr hlocks hnm
  refine z_aload_n E dX1_startNumber_0 rfl 0 rfl ?_
  refine z_iload_n E dX1_startNumber_1 rfl 1 rfl ?_
  refine z_put E 105 cw_read (C := RX1) (T := TX1) (N := 6) rfl (fun _ h => List.mem_cons_of_mem _ (List.mem_append_right _ h)) tyX1 tyX1_ok nmX1 4 (by decide) (List.mem_of_getElem? (i := 1) (by decide +kernel)) rfl rfl rfl rfl (Nat.le_of_ble_eq_true rfl) (ws' := cw ad cI cR cS (mset mem 105 4 q)) (cs_read 4 (by decide) rfl) dX1_startNumber_2 ?_
  refine z_gm (fun m45 hm45 => ?_)
  refine z_aload_n E dX1_startNumber_5 rfl 0 rfl ?_
  refine z_iload_n E dX1_startNumber_6 rfl 2 rfl ?_
  refine z_put E 105 cw_read (C := RX1) (T := TX1) (N := 6) rfl (fun _ h => List.mem_cons_of_mem _ (List.mem_append_right _ h)) tyX1 tyX1_ok nmX1 1 (by decide) (List.mem_of_getElem? (i := 2) (by decide +kernel)) rfl rfl rfl rfl (Nat.le_of_ble_eq_true rfl) (ws' := cw ad cI cR cS (mset m45 105 1 x)) (cs_read 1 (by decide) rfl) dX1_startNumber_7 ?_
  refine z_gm (fun m46 hm46 => ?_)
  refine z_aload_n E dX1_startNumber_10 rfl 0 rfl ?_
  refine z_iload_n E dX1_startNumber_11 rfl 3 rfl ?_
  refine z_put E 105 cw_read (C := RX1) (T := TX1) (N := 6) rfl (fun _ h => List.mem_cons_of_mem _ (List.mem_append_right _ h)) tyX1 tyX1_ok nmX1 2 (by decide) (List.mem_of_getElem? (i := 3) (by decide +kernel)) rfl rfl rfl rfl (Nat.le_of_ble_eq_true rfl) (ws' := cw ad cI cR cS (mset m46 105 2 y)) (cs_read 2 (by decide) rfl) dX1_startNumber_12 ?_
  refine z_gm (fun m47 hm47 => ?_)
  refine z_aload_n E dX1_startNumber_15 rfl 0 rfl ?_
  refine z_iconst (v := 2) E dX1_startNumber_16 (by decide) ?_
  refine z_put E 105 cw_read (C := RX1) (T := TX1) (N := 6) rfl (fun _ h => List.mem_cons_of_mem _ (List.mem_append_right _ h)) tyX1 tyX1_ok nmX1 0 (by decide) (List.mem_of_getElem? (i := 4) (by decide +kernel)) rfl rfl rfl rfl (Nat.le_of_ble_eq_true rfl) (ws' := cw ad cI cR cS (mset m47 105 0 2)) (cs_read 0 (by decide) rfl) dX1_startNumber_17 ?_
  refine z_gm (fun m48 hm48 => ?_)
  refine z_iconst (v := 1) E dX1_startNumber_20 (by decide) ?_
  exact z_izretM E hr hlocks (m48) rfl rfl ⟨rfl, (by rw [hm48, hm47, hm46, hm45, mset_row mem, mset_mrow, mset_mrow, mset_mrow]; exact rfl)⟩ (Nat.le_of_ble_eq_true rfl) (Nat.le_of_ble_eq_true rfl) dX1_startNumber_21
set_option maxHeartbeats 4000000 in
set_option maxRecDepth 100000 in
theorem k_takesWork (l : Launch) (D : va_G) (ad : Nat → Nat) (cI cR cS cL : ClassId) (mem : zM) (q : Int32) : zMi l yX1_takesWork wsX1_takesWork ({ frames := 1, cells := 0, slots := 0, locals := 23 }) D (cK cI cR cS cL) [.ref (ad 105), .int q] (cw ad cI cR cS mem) (fun r u => r = fTW q ∧ u = mrow mem 105 (rTW (mem 105) q)) (cw ad cI cR cS) 0 0 := by
  refine zMiM.of (cc := cX1_takesWork) (maxL := 2) (ret := (some .boolean)) (by decide +kernel) rfl (lv0 := [(0, .ref (ad 105)), (1, .int q)]) (Nat.le_of_ble_eq_true rfl) rfl ?_
  intro p e s m args below meth c E hZ hr hlocks hnm
  refine z_iload_n E dX1_takesWork_0 rfl 1 rfl ?_
  by_cases s1_111 : q = 111
  · skip
    refine z_tableIn (tgt := 65) (off := 64) E dX1_takesWork_1 (by rw [s1_111]; decide) (by rw [s1_111]; decide) (by rw [s1_111]; decide) (by decide) ?_
    refine z_aload_n E dX1_takesWork_65 rfl 0 rfl ?_
    refine z_iload_n E dX1_takesWork_66 rfl 1 rfl ?_
    refine z_bipush (v := 20) E dX1_takesWork_67 (by decide) ?_
    refine z_sipush (v := 150) E dX1_takesWork_69 (by decide) ?_
    refine z_callVi E hZ (k_startNumber l D ad cI cR cS cL mem q 20 150) gX1_takesWork_X1_startNumber (n := 3) rfl rfl rfl (by decide +kernel) rfl ⟨Nat.le_of_ble_eq_true rfl, Nat.le_of_ble_eq_true rfl⟩ (C := RX1) rfl 105 cw_read (As := [.int q, .int 20, .int 150]) (rest := []) rfl (Nat.le_of_ble_eq_true rfl) ⟨Nat.le_of_ble_eq_true rfl, Nat.le_of_ble_eq_true rfl⟩ dX1_takesWork_72 (fun r u hp => ?_)
    rw [hp.1, hp.2]
    refine z_gm (fun m49 hm49 => ?_)
    exact z_izretM E hr hlocks (m49) rfl rfl ⟨(if_pos s1_111).symm, by rw [hm49]; exact congrArg (mrow mem 105) ((if_pos s1_111).symm)⟩ (Nat.le_of_ble_eq_true rfl) (Nat.le_of_ble_eq_true rfl) dX1_takesWork_75
  by_cases s1_114 : q = 114
  · skip
    refine z_tableIn (tgt := 76) (off := 75) E dX1_takesWork_1 (by rw [s1_114]; decide) (by rw [s1_114]; decide) (by rw [s1_114]; decide) (by decide) ?_
    refine z_aload_n E dX1_takesWork_76 rfl 0 rfl ?_
    refine z_iload_n E dX1_takesWork_77 rfl 1 rfl ?_
    refine z_iconst (v := 0) E dX1_takesWork_78 (by decide) ?_
    refine z_sipush (v := 200) E dX1_takesWork_79 (by decide) ?_
    refine z_callVi E hZ (k_startNumber l D ad cI cR cS cL mem q 0 200) gX1_takesWork_X1_startNumber (n := 3) rfl rfl rfl (by decide +kernel) rfl ⟨Nat.le_of_ble_eq_true rfl, Nat.le_of_ble_eq_true rfl⟩ (C := RX1) rfl 105 cw_read (As := [.int q, .int 0, .int 200]) (rest := []) rfl (Nat.le_of_ble_eq_true rfl) ⟨Nat.le_of_ble_eq_true rfl, Nat.le_of_ble_eq_true rfl⟩ dX1_takesWork_82 (fun r u hp => ?_)
    rw [hp.1, hp.2]
    refine z_gm (fun m50 hm50 => ?_)
    exact z_izretM E hr hlocks (m50) rfl rfl ⟨((if_neg s1_111).trans (if_pos s1_114)).symm, by rw [hm50]; exact congrArg (mrow mem 105) (((if_neg s1_111).trans (if_pos s1_114)).symm)⟩ (Nat.le_of_ble_eq_true rfl) (Nat.le_of_ble_eq_true rfl) dX1_takesWork_85
  by_cases s1_117 : q = 117
  · skip
    refine z_tableIn (tgt := 56) (off := 55) E dX1_takesWork_1 (by rw [s1_117]; decide) (by rw [s1_117]; decide) (by rw [s1_117]; decide) (by decide) ?_
    refine z_aload_n E dX1_takesWork_56 rfl 0 rfl ?_
    refine z_iload_n E dX1_takesWork_57 rfl 1 rfl ?_
    refine z_iconst (v := 0) E dX1_takesWork_58 (by decide) ?_
    refine z_bipush (v := 10) E dX1_takesWork_59 (by decide) ?_
    refine z_callVi E hZ (k_startNumber l D ad cI cR cS cL mem q 0 10) gX1_takesWork_X1_startNumber (n := 3) rfl rfl rfl (by decide +kernel) rfl ⟨Nat.le_of_ble_eq_true rfl, Nat.le_of_ble_eq_true rfl⟩ (C := RX1) rfl 105 cw_read (As := [.int q, .int 0, .int 10]) (rest := []) rfl (Nat.le_of_ble_eq_true rfl) ⟨Nat.le_of_ble_eq_true rfl, Nat.le_of_ble_eq_true rfl⟩ dX1_takesWork_61 (fun r u hp => ?_)
    rw [hp.1, hp.2]
    refine z_gm (fun m51 hm51 => ?_)
    exact z_izretM E hr hlocks (m51) rfl rfl ⟨((if_neg s1_111).trans ((if_neg s1_114).trans (if_pos s1_117))).symm, by rw [hm51]; exact congrArg (mrow mem 105) (((if_neg s1_111).trans ((if_neg s1_114).trans (if_pos s1_117))).symm)⟩ (Nat.le_of_ble_eq_true rfl) (Nat.le_of_ble_eq_true rfl) dX1_takesWork_64
  by_cases s1_120 : q = 120
  · skip
    refine z_tableIn (tgt := 86) (off := 85) E dX1_takesWork_1 (by rw [s1_120]; decide) (by rw [s1_120]; decide) (by rw [s1_120]; decide) (by decide) ?_
    refine z_aload_n E dX1_takesWork_86 rfl 0 rfl ?_
    refine z_iload_n E dX1_takesWork_87 rfl 1 rfl ?_
    refine z_put E 105 cw_read (C := RX1) (T := TX1) (N := 6) rfl (fun _ h => List.mem_cons_of_mem _ (List.mem_append_right _ h)) tyX1 tyX1_ok nmX1 4 (by decide) (List.mem_of_getElem? (i := 1) (by decide +kernel)) rfl rfl rfl rfl (Nat.le_of_ble_eq_true rfl) (ws' := cw ad cI cR cS (mset mem 105 4 q)) (cs_read 4 (by decide) rfl) dX1_takesWork_88 ?_
    refine z_gm (fun m52 hm52 => ?_)
    refine z_aload_n E dX1_takesWork_91 rfl 0 rfl ?_
    refine z_iconst (v := 4) E dX1_takesWork_92 (by decide) ?_
    refine z_put E 105 cw_read (C := RX1) (T := TX1) (N := 6) rfl (fun _ h => List.mem_cons_of_mem _ (List.mem_append_right _ h)) tyX1 tyX1_ok nmX1 0 (by decide) (List.mem_of_getElem? (i := 2) (by decide +kernel)) rfl rfl rfl rfl (Nat.le_of_ble_eq_true rfl) (ws' := cw ad cI cR cS (mset m52 105 0 4)) (cs_read 0 (by decide) rfl) dX1_takesWork_93 ?_
    refine z_gm (fun m53 hm53 => ?_)
    refine z_iconst (v := 1) E dX1_takesWork_96 (by decide) ?_
    exact z_izretM E hr hlocks (m53) rfl rfl ⟨((if_neg s1_111).trans ((if_neg s1_114).trans ((if_neg s1_117).trans (if_pos s1_120)))).symm, (by rw [hm53, hm52, mset_row mem, mset_mrow]; exact congrArg (mrow mem 105) (((if_neg s1_111).trans ((if_neg s1_114).trans ((if_neg s1_117).trans (if_pos s1_120)))).symm))⟩ (Nat.le_of_ble_eq_true rfl) (Nat.le_of_ble_eq_true rfl) dX1_takesWork_97
  refine z_tableD (tgt := 98) E dX1_takesWork_1 (by have q0 := zne (n := 111) (by decide) s1_111; have q1 := zne (n := 114) (by decide) s1_114; have q2 := zne (n := 117) (by decide) s1_117; have q3 := zne (n := 120) (by decide) s1_120; rcases (by omega : (q).toInt < 111 ∨ 120 < (q).toInt ∨ (q).toInt = 112 ∨ (q).toInt = 113 ∨ (q).toInt = 115 ∨ (q).toInt = 116 ∨ (q).toInt = 118 ∨ (q).toInt = 119) with q | q | q | q | q | q | q | q; exact Or.inl q; exact Or.inr (Or.inl q); all_goals (refine Or.inr (Or.inr ⟨by omega, by omega, ?_⟩); rw [q]; decide)) (by decide) ?_
  refine z_iconst (v := 0) E dX1_takesWork_98 (by decide) ?_
  exact z_izretM E hr hlocks (mem) rfl rfl ⟨((if_neg s1_111).trans ((if_neg s1_114).trans ((if_neg s1_117).trans (if_neg s1_120)))).symm, ((mrow_self mem 105).symm.trans (congrArg (mrow mem 105) (((if_neg s1_111).trans ((if_neg s1_114).trans ((if_neg s1_117).trans (if_neg s1_120)))).symm)))⟩ (Nat.le_of_ble_eq_true rfl) (Nat.le_of_ble_eq_true rfl) dX1_takesWork_99
set_option maxHeartbeats 4000000 in
set_option maxRecDepth 100000 in
theorem k_canBecome (l : Launch) (D : va_G) (ad : Nat → Nat) (cI cR cS cL : ClassId) (mem : zM) (q : Int32) : zMi l yX1_canBecomeNumber wsX1_canBecomeNumber ({ frames := 0, cells := 0, slots := 0, locals := 0 }) D (cK cI cR cS cL) [.ref (ad 105), .int q] (cw ad cI cR cS mem) (fun r u => r = fCan (mem 105) q ∧ u = mem) (cw ad cI cR cS) 0 0 := by
  refine zMiM.of (cc := cX1_canBecomeNumber) (maxL := 5) (ret := (some .boolean)) (by decide +kernel) rfl (lv0 := [(0, .ref (ad 105)), (1, .int q)]) (Nat.le_of_ble_eq_true rfl) rfl ?_
  intro p e s m args below meth c E hZ hr hlocks hnm
  refine z_iload_n E dX1_canBecomeNumber_0 rfl 1 rfl ?_
  refine z_istore_n (lv' := [(2, .int q), (0, .ref (ad 105)), (1, .int q)]) E dX1_canBecomeNumber_1 rfl (by decide) rfl ?_
  refine z_iload_n E dX1_canBecomeNumber_2 rfl 2 rfl ?_
  refine z_istore_n (lv' := [(3, .int q), (2, .int q), (0, .ref (ad 105)), (1, .int q)]) E dX1_canBecomeNumber_3 rfl (by decide) rfl ?_
  refine z_iconst (v := 0) E dX1_canBecomeNumber_4 (by decide) ?_
  refine z_istore (lv' := [(4, .int 0), (3, .int q), (2, .int q), (0, .ref (ad 105)), (1, .int q)]) E dX1_canBecomeNumber_5 (by decide) rfl ?_
  refine z_iload E dX1_canBecomeNumber_7 0 rfl ?_
  refine z_iconst (v := 3) E dX1_canBecomeNumber_9 (by decide) ?_
  refine z_icmp_ge_f (tgt := 56) E dX1_canBecomeNumber_10 (by decide) (by decide) ?_
  refine z_iload_n E dX1_canBecomeNumber_13 rfl 2 rfl ?_
  refine z_aload_n E dX1_canBecomeNumber_14 rfl 3 rfl ?_
  refine z_get E 105 cw_read (C := RX1) (T := TX1) (N := 6) rfl (fun _ h => List.mem_cons_of_mem _ (List.mem_append_right _ h)) 2 (by decide) (List.mem_of_getElem? (i := 1) (by decide +kernel)) rfl (v := .int (mem 105 2)) rfl dX1_canBecomeNumber_15 ?_
  refine z_icmp_gt (tgt := 31) E dX1_canBecomeNumber_18 (by decide) (fun c18_13 => ?_) (fun c18_13 => ?_)
  · skip
    refine z_iload_n E dX1_canBecomeNumber_31 rfl 4 rfl ?_
    refine z_if_ne (tgt := 37) E dX1_canBecomeNumber_32 (by decide) (fun c32_15 => ?_) (fun c32_15 => ?_)
    · skip
      refine z_bipush (v := 10) E dX1_canBecomeNumber_37 (by decide) ?_
      refine z_iload_n E dX1_canBecomeNumber_39 rfl 2 rfl ?_
      refine z_imul E dX1_canBecomeNumber_40 ?_
      refine z_istore_n (lv' := [(2, .int (10 * q)), (4, .int 0), (3, .int q), (0, .ref (ad 105)), (1, .int q)]) E dX1_canBecomeNumber_41 rfl (by decide) rfl ?_
      refine z_bipush (v := 10) E dX1_canBecomeNumber_42 (by decide) ?_
      refine z_iload_n E dX1_canBecomeNumber_44 rfl 2 rfl ?_
      refine z_imul E dX1_canBecomeNumber_45 ?_
      refine z_bipush (v := 9) E dX1_canBecomeNumber_46 (by decide) ?_
      refine z_iadd E dX1_canBecomeNumber_48 ?_
      refine z_istore_n (lv' := [(3, .int ((10 * q) + 9)), (2, .int (10 * q)), (4, .int 0), (0, .ref (ad 105)), (1, .int q)]) E dX1_canBecomeNumber_49 rfl (by decide) rfl ?_
      refine z_iinc (v := 1) (lv' := [(4, .int 1), (3, .int ((10 * q) + 9)), (2, .int (10 * q)), (0, .ref (ad 105)), (1, .int q)]) E dX1_canBecomeNumber_50 (q := 2) rfl (by decide) (by decide) rfl ?_
      refine z_goto (tgt := 7) E dX1_canBecomeNumber_53 (by decide) ?_
      refine z_iload E dX1_canBecomeNumber_7 0 rfl ?_
      refine z_iconst (v := 3) E dX1_canBecomeNumber_9 (by decide) ?_
      refine z_icmp_ge_f (tgt := 56) E dX1_canBecomeNumber_10 (by decide) (by decide) ?_
      refine z_iload_n E dX1_canBecomeNumber_13 rfl 2 rfl ?_
      refine z_aload_n E dX1_canBecomeNumber_14 rfl 3 rfl ?_
      refine z_get E 105 cw_read (C := RX1) (T := TX1) (N := 6) rfl (fun _ h => List.mem_cons_of_mem _ (List.mem_append_right _ h)) 2 (by decide) (List.mem_of_getElem? (i := 1) (by decide +kernel)) rfl (v := .int (mem 105 2)) rfl dX1_canBecomeNumber_15 ?_
      refine z_icmp_gt (tgt := 31) E dX1_canBecomeNumber_18 (by decide) (fun c18_34 => ?_) (fun c18_34 => ?_)
      · skip
        refine z_iload_n E dX1_canBecomeNumber_31 rfl 4 rfl ?_
        refine z_if_ne (tgt := 37) E dX1_canBecomeNumber_32 (by decide) (fun c32_36 => ?_) (fun c32_36 => ?_)
        · skip
          refine z_bipush (v := 10) E dX1_canBecomeNumber_37 (by decide) ?_
          refine z_iload_n E dX1_canBecomeNumber_39 rfl 2 rfl ?_
          refine z_imul E dX1_canBecomeNumber_40 ?_
          refine z_istore_n (lv' := [(2, .int (10 * (10 * q))), (4, .int 1), (3, .int ((10 * q) + 9)), (0, .ref (ad 105)), (1, .int q)]) E dX1_canBecomeNumber_41 rfl (by decide) rfl ?_
          refine z_bipush (v := 10) E dX1_canBecomeNumber_42 (by decide) ?_
          refine z_iload_n E dX1_canBecomeNumber_44 rfl 2 rfl ?_
          refine z_imul E dX1_canBecomeNumber_45 ?_
          refine z_bipush (v := 9) E dX1_canBecomeNumber_46 (by decide) ?_
          refine z_iadd E dX1_canBecomeNumber_48 ?_
          refine z_istore_n (lv' := [(3, .int ((10 * ((10 * q) + 9)) + 9)), (2, .int (10 * (10 * q))), (4, .int 1), (0, .ref (ad 105)), (1, .int q)]) E dX1_canBecomeNumber_49 rfl (by decide) rfl ?_
          refine z_iinc (v := 2) (lv' := [(4, .int 2), (3, .int ((10 * ((10 * q) + 9)) + 9)), (2, .int (10 * (10 * q))), (0, .ref (ad 105)), (1, .int q)]) E dX1_canBecomeNumber_50 (q := 2) rfl (by decide) (by decide) rfl ?_
          refine z_goto (tgt := 7) E dX1_canBecomeNumber_53 (by decide) ?_
          refine z_iload E dX1_canBecomeNumber_7 0 rfl ?_
          refine z_iconst (v := 3) E dX1_canBecomeNumber_9 (by decide) ?_
          refine z_icmp_ge_f (tgt := 56) E dX1_canBecomeNumber_10 (by decide) (by decide) ?_
          refine z_iload_n E dX1_canBecomeNumber_13 rfl 2 rfl ?_
          refine z_aload_n E dX1_canBecomeNumber_14 rfl 3 rfl ?_
          refine z_get E 105 cw_read (C := RX1) (T := TX1) (N := 6) rfl (fun _ h => List.mem_cons_of_mem _ (List.mem_append_right _ h)) 2 (by decide) (List.mem_of_getElem? (i := 1) (by decide +kernel)) rfl (v := .int (mem 105 2)) rfl dX1_canBecomeNumber_15 ?_
          refine z_icmp_gt (tgt := 31) E dX1_canBecomeNumber_18 (by decide) (fun c18_55 => ?_) (fun c18_55 => ?_)
          · skip
            refine z_iload_n E dX1_canBecomeNumber_31 rfl 4 rfl ?_
            refine z_if_ne (tgt := 37) E dX1_canBecomeNumber_32 (by decide) (fun c32_57 => ?_) (fun c32_57 => ?_)
            · skip
              refine z_bipush (v := 10) E dX1_canBecomeNumber_37 (by decide) ?_
              refine z_iload_n E dX1_canBecomeNumber_39 rfl 2 rfl ?_
              refine z_imul E dX1_canBecomeNumber_40 ?_
              refine z_istore_n (lv' := [(2, .int (10 * (10 * (10 * q)))), (4, .int 2), (3, .int ((10 * ((10 * q) + 9)) + 9)), (0, .ref (ad 105)), (1, .int q)]) E dX1_canBecomeNumber_41 rfl (by decide) rfl ?_
              refine z_bipush (v := 10) E dX1_canBecomeNumber_42 (by decide) ?_
              refine z_iload_n E dX1_canBecomeNumber_44 rfl 2 rfl ?_
              refine z_imul E dX1_canBecomeNumber_45 ?_
              refine z_bipush (v := 9) E dX1_canBecomeNumber_46 (by decide) ?_
              refine z_iadd E dX1_canBecomeNumber_48 ?_
              refine z_istore_n (lv' := [(3, .int ((10 * ((10 * ((10 * q) + 9)) + 9)) + 9)), (2, .int (10 * (10 * (10 * q)))), (4, .int 2), (0, .ref (ad 105)), (1, .int q)]) E dX1_canBecomeNumber_49 rfl (by decide) rfl ?_
              refine z_iinc (v := 3) (lv' := [(4, .int 3), (3, .int ((10 * ((10 * ((10 * q) + 9)) + 9)) + 9)), (2, .int (10 * (10 * (10 * q)))), (0, .ref (ad 105)), (1, .int q)]) E dX1_canBecomeNumber_50 (q := 2) rfl (by decide) (by decide) rfl ?_
              refine z_goto (tgt := 7) E dX1_canBecomeNumber_53 (by decide) ?_
              refine z_iload E dX1_canBecomeNumber_7 0 rfl ?_
              refine z_iconst (v := 3) E dX1_canBecomeNumber_9 (by decide) ?_
              refine z_icmp_ge_t (tgt := 56) E dX1_canBecomeNumber_10 (by decide) (by decide) ?_
              refine z_iconst (v := 0) E dX1_canBecomeNumber_56 (by decide) ?_
              exact z_izretM E hr hlocks (mem) rfl rfl ⟨((if_pos c18_13).trans ((if_neg c32_15).trans ((if_pos c18_34).trans ((if_neg c32_36).trans ((if_pos c18_55).trans (if_neg c32_57)))))).symm, rfl⟩ (Nat.le_of_ble_eq_true rfl) (Nat.le_of_ble_eq_true rfl) dX1_canBecomeNumber_57
            · skip
              refine z_iconst (v := 0) E dX1_canBecomeNumber_35 (by decide) ?_
              exact z_izretM E hr hlocks (mem) rfl rfl ⟨((if_pos c18_13).trans ((if_neg c32_15).trans ((if_pos c18_34).trans ((if_neg c32_36).trans ((if_pos c18_55).trans (if_pos c32_57)))))).symm, rfl⟩ (Nat.le_of_ble_eq_true rfl) (Nat.le_of_ble_eq_true rfl) dX1_canBecomeNumber_36
          · skip
            refine z_iload_n E dX1_canBecomeNumber_21 rfl 1 rfl ?_
            refine z_aload_n E dX1_canBecomeNumber_22 rfl 3 rfl ?_
            refine z_get E 105 cw_read (C := RX1) (T := TX1) (N := 6) rfl (fun _ h => List.mem_cons_of_mem _ (List.mem_append_right _ h)) 1 (by decide) (List.mem_of_getElem? (i := 2) (by decide +kernel)) rfl (v := .int (mem 105 1)) rfl dX1_canBecomeNumber_23 ?_
            refine z_icmp_lt (tgt := 31) E dX1_canBecomeNumber_26 (by decide) (fun c26_80 => ?_) (fun c26_80 => ?_)
            · skip
              refine z_iload_n E dX1_canBecomeNumber_31 rfl 4 rfl ?_
              refine z_if_ne (tgt := 37) E dX1_canBecomeNumber_32 (by decide) (fun c32_82 => ?_) (fun c32_82 => ?_)
              · skip
                refine z_bipush (v := 10) E dX1_canBecomeNumber_37 (by decide) ?_
                refine z_iload_n E dX1_canBecomeNumber_39 rfl 2 rfl ?_
                refine z_imul E dX1_canBecomeNumber_40 ?_
                refine z_istore_n (lv' := [(2, .int (10 * (10 * (10 * q)))), (4, .int 2), (3, .int ((10 * ((10 * q) + 9)) + 9)), (0, .ref (ad 105)), (1, .int q)]) E dX1_canBecomeNumber_41 rfl (by decide) rfl ?_
                refine z_bipush (v := 10) E dX1_canBecomeNumber_42 (by decide) ?_
                refine z_iload_n E dX1_canBecomeNumber_44 rfl 2 rfl ?_
                refine z_imul E dX1_canBecomeNumber_45 ?_
                refine z_bipush (v := 9) E dX1_canBecomeNumber_46 (by decide) ?_
                refine z_iadd E dX1_canBecomeNumber_48 ?_
                refine z_istore_n (lv' := [(3, .int ((10 * ((10 * ((10 * q) + 9)) + 9)) + 9)), (2, .int (10 * (10 * (10 * q)))), (4, .int 2), (0, .ref (ad 105)), (1, .int q)]) E dX1_canBecomeNumber_49 rfl (by decide) rfl ?_
                refine z_iinc (v := 3) (lv' := [(4, .int 3), (3, .int ((10 * ((10 * ((10 * q) + 9)) + 9)) + 9)), (2, .int (10 * (10 * (10 * q)))), (0, .ref (ad 105)), (1, .int q)]) E dX1_canBecomeNumber_50 (q := 2) rfl (by decide) (by decide) rfl ?_
                refine z_goto (tgt := 7) E dX1_canBecomeNumber_53 (by decide) ?_
                refine z_iload E dX1_canBecomeNumber_7 0 rfl ?_
                refine z_iconst (v := 3) E dX1_canBecomeNumber_9 (by decide) ?_
                refine z_icmp_ge_t (tgt := 56) E dX1_canBecomeNumber_10 (by decide) (by decide) ?_
                refine z_iconst (v := 0) E dX1_canBecomeNumber_56 (by decide) ?_
                exact z_izretM E hr hlocks (mem) rfl rfl ⟨((if_pos c18_13).trans ((if_neg c32_15).trans ((if_pos c18_34).trans ((if_neg c32_36).trans ((if_neg c18_55).trans ((if_pos c26_80).trans (if_neg c32_82))))))).symm, rfl⟩ (Nat.le_of_ble_eq_true rfl) (Nat.le_of_ble_eq_true rfl) dX1_canBecomeNumber_57
              · skip
                refine z_iconst (v := 0) E dX1_canBecomeNumber_35 (by decide) ?_
                exact z_izretM E hr hlocks (mem) rfl rfl ⟨((if_pos c18_13).trans ((if_neg c32_15).trans ((if_pos c18_34).trans ((if_neg c32_36).trans ((if_neg c18_55).trans ((if_pos c26_80).trans (if_pos c32_82))))))).symm, rfl⟩ (Nat.le_of_ble_eq_true rfl) (Nat.le_of_ble_eq_true rfl) dX1_canBecomeNumber_36
            · skip
              refine z_iconst (v := 1) E dX1_canBecomeNumber_29 (by decide) ?_
              exact z_izretM E hr hlocks (mem) rfl rfl ⟨((if_pos c18_13).trans ((if_neg c32_15).trans ((if_pos c18_34).trans ((if_neg c32_36).trans ((if_neg c18_55).trans (if_neg c26_80)))))).symm, rfl⟩ (Nat.le_of_ble_eq_true rfl) (Nat.le_of_ble_eq_true rfl) dX1_canBecomeNumber_30
        · skip
          refine z_iconst (v := 0) E dX1_canBecomeNumber_35 (by decide) ?_
          exact z_izretM E hr hlocks (mem) rfl rfl ⟨((if_pos c18_13).trans ((if_neg c32_15).trans ((if_pos c18_34).trans (if_pos c32_36)))).symm, rfl⟩ (Nat.le_of_ble_eq_true rfl) (Nat.le_of_ble_eq_true rfl) dX1_canBecomeNumber_36
      · skip
        refine z_iload_n E dX1_canBecomeNumber_21 rfl 1 rfl ?_
        refine z_aload_n E dX1_canBecomeNumber_22 rfl 3 rfl ?_
        refine z_get E 105 cw_read (C := RX1) (T := TX1) (N := 6) rfl (fun _ h => List.mem_cons_of_mem _ (List.mem_append_right _ h)) 1 (by decide) (List.mem_of_getElem? (i := 2) (by decide +kernel)) rfl (v := .int (mem 105 1)) rfl dX1_canBecomeNumber_23 ?_
        refine z_icmp_lt (tgt := 31) E dX1_canBecomeNumber_26 (by decide) (fun c26_109 => ?_) (fun c26_109 => ?_)
        · skip
          refine z_iload_n E dX1_canBecomeNumber_31 rfl 4 rfl ?_
          refine z_if_ne (tgt := 37) E dX1_canBecomeNumber_32 (by decide) (fun c32_111 => ?_) (fun c32_111 => ?_)
          · skip
            refine z_bipush (v := 10) E dX1_canBecomeNumber_37 (by decide) ?_
            refine z_iload_n E dX1_canBecomeNumber_39 rfl 2 rfl ?_
            refine z_imul E dX1_canBecomeNumber_40 ?_
            refine z_istore_n (lv' := [(2, .int (10 * (10 * q))), (4, .int 1), (3, .int ((10 * q) + 9)), (0, .ref (ad 105)), (1, .int q)]) E dX1_canBecomeNumber_41 rfl (by decide) rfl ?_
            refine z_bipush (v := 10) E dX1_canBecomeNumber_42 (by decide) ?_
            refine z_iload_n E dX1_canBecomeNumber_44 rfl 2 rfl ?_
            refine z_imul E dX1_canBecomeNumber_45 ?_
            refine z_bipush (v := 9) E dX1_canBecomeNumber_46 (by decide) ?_
            refine z_iadd E dX1_canBecomeNumber_48 ?_
            refine z_istore_n (lv' := [(3, .int ((10 * ((10 * q) + 9)) + 9)), (2, .int (10 * (10 * q))), (4, .int 1), (0, .ref (ad 105)), (1, .int q)]) E dX1_canBecomeNumber_49 rfl (by decide) rfl ?_
            refine z_iinc (v := 2) (lv' := [(4, .int 2), (3, .int ((10 * ((10 * q) + 9)) + 9)), (2, .int (10 * (10 * q))), (0, .ref (ad 105)), (1, .int q)]) E dX1_canBecomeNumber_50 (q := 2) rfl (by decide) (by decide) rfl ?_
            refine z_goto (tgt := 7) E dX1_canBecomeNumber_53 (by decide) ?_
            refine z_iload E dX1_canBecomeNumber_7 0 rfl ?_
            refine z_iconst (v := 3) E dX1_canBecomeNumber_9 (by decide) ?_
            refine z_icmp_ge_f (tgt := 56) E dX1_canBecomeNumber_10 (by decide) (by decide) ?_
            refine z_iload_n E dX1_canBecomeNumber_13 rfl 2 rfl ?_
            refine z_aload_n E dX1_canBecomeNumber_14 rfl 3 rfl ?_
            refine z_get E 105 cw_read (C := RX1) (T := TX1) (N := 6) rfl (fun _ h => List.mem_cons_of_mem _ (List.mem_append_right _ h)) 2 (by decide) (List.mem_of_getElem? (i := 1) (by decide +kernel)) rfl (v := .int (mem 105 2)) rfl dX1_canBecomeNumber_15 ?_
            refine z_icmp_gt (tgt := 31) E dX1_canBecomeNumber_18 (by decide) (fun c18_130 => ?_) (fun c18_130 => ?_)
            · skip
              refine z_iload_n E dX1_canBecomeNumber_31 rfl 4 rfl ?_
              refine z_if_ne (tgt := 37) E dX1_canBecomeNumber_32 (by decide) (fun c32_132 => ?_) (fun c32_132 => ?_)
              · skip
                refine z_bipush (v := 10) E dX1_canBecomeNumber_37 (by decide) ?_
                refine z_iload_n E dX1_canBecomeNumber_39 rfl 2 rfl ?_
                refine z_imul E dX1_canBecomeNumber_40 ?_
                refine z_istore_n (lv' := [(2, .int (10 * (10 * (10 * q)))), (4, .int 2), (3, .int ((10 * ((10 * q) + 9)) + 9)), (0, .ref (ad 105)), (1, .int q)]) E dX1_canBecomeNumber_41 rfl (by decide) rfl ?_
                refine z_bipush (v := 10) E dX1_canBecomeNumber_42 (by decide) ?_
                refine z_iload_n E dX1_canBecomeNumber_44 rfl 2 rfl ?_
                refine z_imul E dX1_canBecomeNumber_45 ?_
                refine z_bipush (v := 9) E dX1_canBecomeNumber_46 (by decide) ?_
                refine z_iadd E dX1_canBecomeNumber_48 ?_
                refine z_istore_n (lv' := [(3, .int ((10 * ((10 * ((10 * q) + 9)) + 9)) + 9)), (2, .int (10 * (10 * (10 * q)))), (4, .int 2), (0, .ref (ad 105)), (1, .int q)]) E dX1_canBecomeNumber_49 rfl (by decide) rfl ?_
                refine z_iinc (v := 3) (lv' := [(4, .int 3), (3, .int ((10 * ((10 * ((10 * q) + 9)) + 9)) + 9)), (2, .int (10 * (10 * (10 * q)))), (0, .ref (ad 105)), (1, .int q)]) E dX1_canBecomeNumber_50 (q := 2) rfl (by decide) (by decide) rfl ?_
                refine z_goto (tgt := 7) E dX1_canBecomeNumber_53 (by decide) ?_
                refine z_iload E dX1_canBecomeNumber_7 0 rfl ?_
                refine z_iconst (v := 3) E dX1_canBecomeNumber_9 (by decide) ?_
                refine z_icmp_ge_t (tgt := 56) E dX1_canBecomeNumber_10 (by decide) (by decide) ?_
                refine z_iconst (v := 0) E dX1_canBecomeNumber_56 (by decide) ?_
                exact z_izretM E hr hlocks (mem) rfl rfl ⟨((if_pos c18_13).trans ((if_neg c32_15).trans ((if_neg c18_34).trans ((if_pos c26_109).trans ((if_neg c32_111).trans ((if_pos c18_130).trans (if_neg c32_132))))))).symm, rfl⟩ (Nat.le_of_ble_eq_true rfl) (Nat.le_of_ble_eq_true rfl) dX1_canBecomeNumber_57
              · skip
                refine z_iconst (v := 0) E dX1_canBecomeNumber_35 (by decide) ?_
                exact z_izretM E hr hlocks (mem) rfl rfl ⟨((if_pos c18_13).trans ((if_neg c32_15).trans ((if_neg c18_34).trans ((if_pos c26_109).trans ((if_neg c32_111).trans ((if_pos c18_130).trans (if_pos c32_132))))))).symm, rfl⟩ (Nat.le_of_ble_eq_true rfl) (Nat.le_of_ble_eq_true rfl) dX1_canBecomeNumber_36
            · skip
              refine z_iload_n E dX1_canBecomeNumber_21 rfl 1 rfl ?_
              refine z_aload_n E dX1_canBecomeNumber_22 rfl 3 rfl ?_
              refine z_get E 105 cw_read (C := RX1) (T := TX1) (N := 6) rfl (fun _ h => List.mem_cons_of_mem _ (List.mem_append_right _ h)) 1 (by decide) (List.mem_of_getElem? (i := 2) (by decide +kernel)) rfl (v := .int (mem 105 1)) rfl dX1_canBecomeNumber_23 ?_
              refine z_icmp_lt (tgt := 31) E dX1_canBecomeNumber_26 (by decide) (fun c26_155 => ?_) (fun c26_155 => ?_)
              · skip
                refine z_iload_n E dX1_canBecomeNumber_31 rfl 4 rfl ?_
                refine z_if_ne (tgt := 37) E dX1_canBecomeNumber_32 (by decide) (fun c32_157 => ?_) (fun c32_157 => ?_)
                · skip
                  refine z_bipush (v := 10) E dX1_canBecomeNumber_37 (by decide) ?_
                  refine z_iload_n E dX1_canBecomeNumber_39 rfl 2 rfl ?_
                  refine z_imul E dX1_canBecomeNumber_40 ?_
                  refine z_istore_n (lv' := [(2, .int (10 * (10 * (10 * q)))), (4, .int 2), (3, .int ((10 * ((10 * q) + 9)) + 9)), (0, .ref (ad 105)), (1, .int q)]) E dX1_canBecomeNumber_41 rfl (by decide) rfl ?_
                  refine z_bipush (v := 10) E dX1_canBecomeNumber_42 (by decide) ?_
                  refine z_iload_n E dX1_canBecomeNumber_44 rfl 2 rfl ?_
                  refine z_imul E dX1_canBecomeNumber_45 ?_
                  refine z_bipush (v := 9) E dX1_canBecomeNumber_46 (by decide) ?_
                  refine z_iadd E dX1_canBecomeNumber_48 ?_
                  refine z_istore_n (lv' := [(3, .int ((10 * ((10 * ((10 * q) + 9)) + 9)) + 9)), (2, .int (10 * (10 * (10 * q)))), (4, .int 2), (0, .ref (ad 105)), (1, .int q)]) E dX1_canBecomeNumber_49 rfl (by decide) rfl ?_
                  refine z_iinc (v := 3) (lv' := [(4, .int 3), (3, .int ((10 * ((10 * ((10 * q) + 9)) + 9)) + 9)), (2, .int (10 * (10 * (10 * q)))), (0, .ref (ad 105)), (1, .int q)]) E dX1_canBecomeNumber_50 (q := 2) rfl (by decide) (by decide) rfl ?_
                  refine z_goto (tgt := 7) E dX1_canBecomeNumber_53 (by decide) ?_
                  refine z_iload E dX1_canBecomeNumber_7 0 rfl ?_
                  refine z_iconst (v := 3) E dX1_canBecomeNumber_9 (by decide) ?_
                  refine z_icmp_ge_t (tgt := 56) E dX1_canBecomeNumber_10 (by decide) (by decide) ?_
                  refine z_iconst (v := 0) E dX1_canBecomeNumber_56 (by decide) ?_
                  exact z_izretM E hr hlocks (mem) rfl rfl ⟨((if_pos c18_13).trans ((if_neg c32_15).trans ((if_neg c18_34).trans ((if_pos c26_109).trans ((if_neg c32_111).trans ((if_neg c18_130).trans ((if_pos c26_155).trans (if_neg c32_157)))))))).symm, rfl⟩ (Nat.le_of_ble_eq_true rfl) (Nat.le_of_ble_eq_true rfl) dX1_canBecomeNumber_57
                · skip
                  refine z_iconst (v := 0) E dX1_canBecomeNumber_35 (by decide) ?_
                  exact z_izretM E hr hlocks (mem) rfl rfl ⟨((if_pos c18_13).trans ((if_neg c32_15).trans ((if_neg c18_34).trans ((if_pos c26_109).trans ((if_neg c32_111).trans ((if_neg c18_130).trans ((if_pos c26_155).trans (if_pos c32_157)))))))).symm, rfl⟩ (Nat.le_of_ble_eq_true rfl) (Nat.le_of_ble_eq_true rfl) dX1_canBecomeNumber_36
              · skip
                refine z_iconst (v := 1) E dX1_canBecomeNumber_29 (by decide) ?_
                exact z_izretM E hr hlocks (mem) rfl rfl ⟨((if_pos c18_13).trans ((if_neg c32_15).trans ((if_neg c18_34).trans ((if_pos c26_109).trans ((if_neg c32_111).trans ((if_neg c18_130).trans (if_neg c26_155))))))).symm, rfl⟩ (Nat.le_of_ble_eq_true rfl) (Nat.le_of_ble_eq_true rfl) dX1_canBecomeNumber_30
          · skip
            refine z_iconst (v := 0) E dX1_canBecomeNumber_35 (by decide) ?_
            exact z_izretM E hr hlocks (mem) rfl rfl ⟨((if_pos c18_13).trans ((if_neg c32_15).trans ((if_neg c18_34).trans ((if_pos c26_109).trans (if_pos c32_111))))).symm, rfl⟩ (Nat.le_of_ble_eq_true rfl) (Nat.le_of_ble_eq_true rfl) dX1_canBecomeNumber_36
        · skip
          refine z_iconst (v := 1) E dX1_canBecomeNumber_29 (by decide) ?_
          exact z_izretM E hr hlocks (mem) rfl rfl ⟨((if_pos c18_13).trans ((if_neg c32_15).trans ((if_neg c18_34).trans (if_neg c26_109)))).symm, rfl⟩ (Nat.le_of_ble_eq_true rfl) (Nat.le_of_ble_eq_true rfl) dX1_canBecomeNumber_30
    · skip
      refine z_iconst (v := 0) E dX1_canBecomeNumber_35 (by decide) ?_
      exact z_izretM E hr hlocks (mem) rfl rfl ⟨((if_pos c18_13).trans (if_pos c32_15)).symm, rfl⟩ (Nat.le_of_ble_eq_true rfl) (Nat.le_of_ble_eq_true rfl) dX1_canBecomeNumber_36
  · skip
    refine z_iload_n E dX1_canBecomeNumber_21 rfl 1 rfl ?_
    refine z_aload_n E dX1_canBecomeNumber_22 rfl 3 rfl ?_
    refine z_get E 105 cw_read (C := RX1) (T := TX1) (N := 6) rfl (fun _ h => List.mem_cons_of_mem _ (List.mem_append_right _ h)) 1 (by decide) (List.mem_of_getElem? (i := 2) (by decide +kernel)) rfl (v := .int (mem 105 1)) rfl dX1_canBecomeNumber_23 ?_
    refine z_icmp_lt (tgt := 31) E dX1_canBecomeNumber_26 (by decide) (fun c26_188 => ?_) (fun c26_188 => ?_)
    · skip
      refine z_iload_n E dX1_canBecomeNumber_31 rfl 4 rfl ?_
      refine z_if_ne (tgt := 37) E dX1_canBecomeNumber_32 (by decide) (fun c32_190 => ?_) (fun c32_190 => ?_)
      · skip
        refine z_bipush (v := 10) E dX1_canBecomeNumber_37 (by decide) ?_
        refine z_iload_n E dX1_canBecomeNumber_39 rfl 2 rfl ?_
        refine z_imul E dX1_canBecomeNumber_40 ?_
        refine z_istore_n (lv' := [(2, .int (10 * q)), (4, .int 0), (3, .int q), (0, .ref (ad 105)), (1, .int q)]) E dX1_canBecomeNumber_41 rfl (by decide) rfl ?_
        refine z_bipush (v := 10) E dX1_canBecomeNumber_42 (by decide) ?_
        refine z_iload_n E dX1_canBecomeNumber_44 rfl 2 rfl ?_
        refine z_imul E dX1_canBecomeNumber_45 ?_
        refine z_bipush (v := 9) E dX1_canBecomeNumber_46 (by decide) ?_
        refine z_iadd E dX1_canBecomeNumber_48 ?_
        refine z_istore_n (lv' := [(3, .int ((10 * q) + 9)), (2, .int (10 * q)), (4, .int 0), (0, .ref (ad 105)), (1, .int q)]) E dX1_canBecomeNumber_49 rfl (by decide) rfl ?_
        refine z_iinc (v := 1) (lv' := [(4, .int 1), (3, .int ((10 * q) + 9)), (2, .int (10 * q)), (0, .ref (ad 105)), (1, .int q)]) E dX1_canBecomeNumber_50 (q := 2) rfl (by decide) (by decide) rfl ?_
        refine z_goto (tgt := 7) E dX1_canBecomeNumber_53 (by decide) ?_
        refine z_iload E dX1_canBecomeNumber_7 0 rfl ?_
        refine z_iconst (v := 3) E dX1_canBecomeNumber_9 (by decide) ?_
        refine z_icmp_ge_f (tgt := 56) E dX1_canBecomeNumber_10 (by decide) (by decide) ?_
        refine z_iload_n E dX1_canBecomeNumber_13 rfl 2 rfl ?_
        refine z_aload_n E dX1_canBecomeNumber_14 rfl 3 rfl ?_
        refine z_get E 105 cw_read (C := RX1) (T := TX1) (N := 6) rfl (fun _ h => List.mem_cons_of_mem _ (List.mem_append_right _ h)) 2 (by decide) (List.mem_of_getElem? (i := 1) (by decide +kernel)) rfl (v := .int (mem 105 2)) rfl dX1_canBecomeNumber_15 ?_
        refine z_icmp_gt (tgt := 31) E dX1_canBecomeNumber_18 (by decide) (fun c18_209 => ?_) (fun c18_209 => ?_)
        · skip
          refine z_iload_n E dX1_canBecomeNumber_31 rfl 4 rfl ?_
          refine z_if_ne (tgt := 37) E dX1_canBecomeNumber_32 (by decide) (fun c32_211 => ?_) (fun c32_211 => ?_)
          · skip
            refine z_bipush (v := 10) E dX1_canBecomeNumber_37 (by decide) ?_
            refine z_iload_n E dX1_canBecomeNumber_39 rfl 2 rfl ?_
            refine z_imul E dX1_canBecomeNumber_40 ?_
            refine z_istore_n (lv' := [(2, .int (10 * (10 * q))), (4, .int 1), (3, .int ((10 * q) + 9)), (0, .ref (ad 105)), (1, .int q)]) E dX1_canBecomeNumber_41 rfl (by decide) rfl ?_
            refine z_bipush (v := 10) E dX1_canBecomeNumber_42 (by decide) ?_
            refine z_iload_n E dX1_canBecomeNumber_44 rfl 2 rfl ?_
            refine z_imul E dX1_canBecomeNumber_45 ?_
            refine z_bipush (v := 9) E dX1_canBecomeNumber_46 (by decide) ?_
            refine z_iadd E dX1_canBecomeNumber_48 ?_
            refine z_istore_n (lv' := [(3, .int ((10 * ((10 * q) + 9)) + 9)), (2, .int (10 * (10 * q))), (4, .int 1), (0, .ref (ad 105)), (1, .int q)]) E dX1_canBecomeNumber_49 rfl (by decide) rfl ?_
            refine z_iinc (v := 2) (lv' := [(4, .int 2), (3, .int ((10 * ((10 * q) + 9)) + 9)), (2, .int (10 * (10 * q))), (0, .ref (ad 105)), (1, .int q)]) E dX1_canBecomeNumber_50 (q := 2) rfl (by decide) (by decide) rfl ?_
            refine z_goto (tgt := 7) E dX1_canBecomeNumber_53 (by decide) ?_
            refine z_iload E dX1_canBecomeNumber_7 0 rfl ?_
            refine z_iconst (v := 3) E dX1_canBecomeNumber_9 (by decide) ?_
            refine z_icmp_ge_f (tgt := 56) E dX1_canBecomeNumber_10 (by decide) (by decide) ?_
            refine z_iload_n E dX1_canBecomeNumber_13 rfl 2 rfl ?_
            refine z_aload_n E dX1_canBecomeNumber_14 rfl 3 rfl ?_
            refine z_get E 105 cw_read (C := RX1) (T := TX1) (N := 6) rfl (fun _ h => List.mem_cons_of_mem _ (List.mem_append_right _ h)) 2 (by decide) (List.mem_of_getElem? (i := 1) (by decide +kernel)) rfl (v := .int (mem 105 2)) rfl dX1_canBecomeNumber_15 ?_
            refine z_icmp_gt (tgt := 31) E dX1_canBecomeNumber_18 (by decide) (fun c18_230 => ?_) (fun c18_230 => ?_)
            · skip
              refine z_iload_n E dX1_canBecomeNumber_31 rfl 4 rfl ?_
              refine z_if_ne (tgt := 37) E dX1_canBecomeNumber_32 (by decide) (fun c32_232 => ?_) (fun c32_232 => ?_)
              · skip
                refine z_bipush (v := 10) E dX1_canBecomeNumber_37 (by decide) ?_
                refine z_iload_n E dX1_canBecomeNumber_39 rfl 2 rfl ?_
                refine z_imul E dX1_canBecomeNumber_40 ?_
                refine z_istore_n (lv' := [(2, .int (10 * (10 * (10 * q)))), (4, .int 2), (3, .int ((10 * ((10 * q) + 9)) + 9)), (0, .ref (ad 105)), (1, .int q)]) E dX1_canBecomeNumber_41 rfl (by decide) rfl ?_
                refine z_bipush (v := 10) E dX1_canBecomeNumber_42 (by decide) ?_
                refine z_iload_n E dX1_canBecomeNumber_44 rfl 2 rfl ?_
                refine z_imul E dX1_canBecomeNumber_45 ?_
                refine z_bipush (v := 9) E dX1_canBecomeNumber_46 (by decide) ?_
                refine z_iadd E dX1_canBecomeNumber_48 ?_
                refine z_istore_n (lv' := [(3, .int ((10 * ((10 * ((10 * q) + 9)) + 9)) + 9)), (2, .int (10 * (10 * (10 * q)))), (4, .int 2), (0, .ref (ad 105)), (1, .int q)]) E dX1_canBecomeNumber_49 rfl (by decide) rfl ?_
                refine z_iinc (v := 3) (lv' := [(4, .int 3), (3, .int ((10 * ((10 * ((10 * q) + 9)) + 9)) + 9)), (2, .int (10 * (10 * (10 * q)))), (0, .ref (ad 105)), (1, .int q)]) E dX1_canBecomeNumber_50 (q := 2) rfl (by decide) (by decide) rfl ?_
                refine z_goto (tgt := 7) E dX1_canBecomeNumber_53 (by decide) ?_
                refine z_iload E dX1_canBecomeNumber_7 0 rfl ?_
                refine z_iconst (v := 3) E dX1_canBecomeNumber_9 (by decide) ?_
                refine z_icmp_ge_t (tgt := 56) E dX1_canBecomeNumber_10 (by decide) (by decide) ?_
                refine z_iconst (v := 0) E dX1_canBecomeNumber_56 (by decide) ?_
                exact z_izretM E hr hlocks (mem) rfl rfl ⟨((if_neg c18_13).trans ((if_pos c26_188).trans ((if_neg c32_190).trans ((if_pos c18_209).trans ((if_neg c32_211).trans ((if_pos c18_230).trans (if_neg c32_232))))))).symm, rfl⟩ (Nat.le_of_ble_eq_true rfl) (Nat.le_of_ble_eq_true rfl) dX1_canBecomeNumber_57
              · skip
                refine z_iconst (v := 0) E dX1_canBecomeNumber_35 (by decide) ?_
                exact z_izretM E hr hlocks (mem) rfl rfl ⟨((if_neg c18_13).trans ((if_pos c26_188).trans ((if_neg c32_190).trans ((if_pos c18_209).trans ((if_neg c32_211).trans ((if_pos c18_230).trans (if_pos c32_232))))))).symm, rfl⟩ (Nat.le_of_ble_eq_true rfl) (Nat.le_of_ble_eq_true rfl) dX1_canBecomeNumber_36
            · skip
              refine z_iload_n E dX1_canBecomeNumber_21 rfl 1 rfl ?_
              refine z_aload_n E dX1_canBecomeNumber_22 rfl 3 rfl ?_
              refine z_get E 105 cw_read (C := RX1) (T := TX1) (N := 6) rfl (fun _ h => List.mem_cons_of_mem _ (List.mem_append_right _ h)) 1 (by decide) (List.mem_of_getElem? (i := 2) (by decide +kernel)) rfl (v := .int (mem 105 1)) rfl dX1_canBecomeNumber_23 ?_
              refine z_icmp_lt (tgt := 31) E dX1_canBecomeNumber_26 (by decide) (fun c26_255 => ?_) (fun c26_255 => ?_)
              · skip
                refine z_iload_n E dX1_canBecomeNumber_31 rfl 4 rfl ?_
                refine z_if_ne (tgt := 37) E dX1_canBecomeNumber_32 (by decide) (fun c32_257 => ?_) (fun c32_257 => ?_)
                · skip
                  refine z_bipush (v := 10) E dX1_canBecomeNumber_37 (by decide) ?_
                  refine z_iload_n E dX1_canBecomeNumber_39 rfl 2 rfl ?_
                  refine z_imul E dX1_canBecomeNumber_40 ?_
                  refine z_istore_n (lv' := [(2, .int (10 * (10 * (10 * q)))), (4, .int 2), (3, .int ((10 * ((10 * q) + 9)) + 9)), (0, .ref (ad 105)), (1, .int q)]) E dX1_canBecomeNumber_41 rfl (by decide) rfl ?_
                  refine z_bipush (v := 10) E dX1_canBecomeNumber_42 (by decide) ?_
                  refine z_iload_n E dX1_canBecomeNumber_44 rfl 2 rfl ?_
                  refine z_imul E dX1_canBecomeNumber_45 ?_
                  refine z_bipush (v := 9) E dX1_canBecomeNumber_46 (by decide) ?_
                  refine z_iadd E dX1_canBecomeNumber_48 ?_
                  refine z_istore_n (lv' := [(3, .int ((10 * ((10 * ((10 * q) + 9)) + 9)) + 9)), (2, .int (10 * (10 * (10 * q)))), (4, .int 2), (0, .ref (ad 105)), (1, .int q)]) E dX1_canBecomeNumber_49 rfl (by decide) rfl ?_
                  refine z_iinc (v := 3) (lv' := [(4, .int 3), (3, .int ((10 * ((10 * ((10 * q) + 9)) + 9)) + 9)), (2, .int (10 * (10 * (10 * q)))), (0, .ref (ad 105)), (1, .int q)]) E dX1_canBecomeNumber_50 (q := 2) rfl (by decide) (by decide) rfl ?_
                  refine z_goto (tgt := 7) E dX1_canBecomeNumber_53 (by decide) ?_
                  refine z_iload E dX1_canBecomeNumber_7 0 rfl ?_
                  refine z_iconst (v := 3) E dX1_canBecomeNumber_9 (by decide) ?_
                  refine z_icmp_ge_t (tgt := 56) E dX1_canBecomeNumber_10 (by decide) (by decide) ?_
                  refine z_iconst (v := 0) E dX1_canBecomeNumber_56 (by decide) ?_
                  exact z_izretM E hr hlocks (mem) rfl rfl ⟨((if_neg c18_13).trans ((if_pos c26_188).trans ((if_neg c32_190).trans ((if_pos c18_209).trans ((if_neg c32_211).trans ((if_neg c18_230).trans ((if_pos c26_255).trans (if_neg c32_257)))))))).symm, rfl⟩ (Nat.le_of_ble_eq_true rfl) (Nat.le_of_ble_eq_true rfl) dX1_canBecomeNumber_57
                · skip
                  refine z_iconst (v := 0) E dX1_canBecomeNumber_35 (by decide) ?_
                  exact z_izretM E hr hlocks (mem) rfl rfl ⟨((if_neg c18_13).trans ((if_pos c26_188).trans ((if_neg c32_190).trans ((if_pos c18_209).trans ((if_neg c32_211).trans ((if_neg c18_230).trans ((if_pos c26_255).trans (if_pos c32_257)))))))).symm, rfl⟩ (Nat.le_of_ble_eq_true rfl) (Nat.le_of_ble_eq_true rfl) dX1_canBecomeNumber_36
              · skip
                refine z_iconst (v := 1) E dX1_canBecomeNumber_29 (by decide) ?_
                exact z_izretM E hr hlocks (mem) rfl rfl ⟨((if_neg c18_13).trans ((if_pos c26_188).trans ((if_neg c32_190).trans ((if_pos c18_209).trans ((if_neg c32_211).trans ((if_neg c18_230).trans (if_neg c26_255))))))).symm, rfl⟩ (Nat.le_of_ble_eq_true rfl) (Nat.le_of_ble_eq_true rfl) dX1_canBecomeNumber_30
          · skip
            refine z_iconst (v := 0) E dX1_canBecomeNumber_35 (by decide) ?_
            exact z_izretM E hr hlocks (mem) rfl rfl ⟨((if_neg c18_13).trans ((if_pos c26_188).trans ((if_neg c32_190).trans ((if_pos c18_209).trans (if_pos c32_211))))).symm, rfl⟩ (Nat.le_of_ble_eq_true rfl) (Nat.le_of_ble_eq_true rfl) dX1_canBecomeNumber_36
        · skip
          refine z_iload_n E dX1_canBecomeNumber_21 rfl 1 rfl ?_
          refine z_aload_n E dX1_canBecomeNumber_22 rfl 3 rfl ?_
          refine z_get E 105 cw_read (C := RX1) (T := TX1) (N := 6) rfl (fun _ h => List.mem_cons_of_mem _ (List.mem_append_right _ h)) 1 (by decide) (List.mem_of_getElem? (i := 2) (by decide +kernel)) rfl (v := .int (mem 105 1)) rfl dX1_canBecomeNumber_23 ?_
          refine z_icmp_lt (tgt := 31) E dX1_canBecomeNumber_26 (by decide) (fun c26_284 => ?_) (fun c26_284 => ?_)
          · skip
            refine z_iload_n E dX1_canBecomeNumber_31 rfl 4 rfl ?_
            refine z_if_ne (tgt := 37) E dX1_canBecomeNumber_32 (by decide) (fun c32_286 => ?_) (fun c32_286 => ?_)
            · skip
              refine z_bipush (v := 10) E dX1_canBecomeNumber_37 (by decide) ?_
              refine z_iload_n E dX1_canBecomeNumber_39 rfl 2 rfl ?_
              refine z_imul E dX1_canBecomeNumber_40 ?_
              refine z_istore_n (lv' := [(2, .int (10 * (10 * q))), (4, .int 1), (3, .int ((10 * q) + 9)), (0, .ref (ad 105)), (1, .int q)]) E dX1_canBecomeNumber_41 rfl (by decide) rfl ?_
              refine z_bipush (v := 10) E dX1_canBecomeNumber_42 (by decide) ?_
              refine z_iload_n E dX1_canBecomeNumber_44 rfl 2 rfl ?_
              refine z_imul E dX1_canBecomeNumber_45 ?_
              refine z_bipush (v := 9) E dX1_canBecomeNumber_46 (by decide) ?_
              refine z_iadd E dX1_canBecomeNumber_48 ?_
              refine z_istore_n (lv' := [(3, .int ((10 * ((10 * q) + 9)) + 9)), (2, .int (10 * (10 * q))), (4, .int 1), (0, .ref (ad 105)), (1, .int q)]) E dX1_canBecomeNumber_49 rfl (by decide) rfl ?_
              refine z_iinc (v := 2) (lv' := [(4, .int 2), (3, .int ((10 * ((10 * q) + 9)) + 9)), (2, .int (10 * (10 * q))), (0, .ref (ad 105)), (1, .int q)]) E dX1_canBecomeNumber_50 (q := 2) rfl (by decide) (by decide) rfl ?_
              refine z_goto (tgt := 7) E dX1_canBecomeNumber_53 (by decide) ?_
              refine z_iload E dX1_canBecomeNumber_7 0 rfl ?_
              refine z_iconst (v := 3) E dX1_canBecomeNumber_9 (by decide) ?_
              refine z_icmp_ge_f (tgt := 56) E dX1_canBecomeNumber_10 (by decide) (by decide) ?_
              refine z_iload_n E dX1_canBecomeNumber_13 rfl 2 rfl ?_
              refine z_aload_n E dX1_canBecomeNumber_14 rfl 3 rfl ?_
              refine z_get E 105 cw_read (C := RX1) (T := TX1) (N := 6) rfl (fun _ h => List.mem_cons_of_mem _ (List.mem_append_right _ h)) 2 (by decide) (List.mem_of_getElem? (i := 1) (by decide +kernel)) rfl (v := .int (mem 105 2)) rfl dX1_canBecomeNumber_15 ?_
              refine z_icmp_gt (tgt := 31) E dX1_canBecomeNumber_18 (by decide) (fun c18_305 => ?_) (fun c18_305 => ?_)
              · skip
                refine z_iload_n E dX1_canBecomeNumber_31 rfl 4 rfl ?_
                refine z_if_ne (tgt := 37) E dX1_canBecomeNumber_32 (by decide) (fun c32_307 => ?_) (fun c32_307 => ?_)
                · skip
                  refine z_bipush (v := 10) E dX1_canBecomeNumber_37 (by decide) ?_
                  refine z_iload_n E dX1_canBecomeNumber_39 rfl 2 rfl ?_
                  refine z_imul E dX1_canBecomeNumber_40 ?_
                  refine z_istore_n (lv' := [(2, .int (10 * (10 * (10 * q)))), (4, .int 2), (3, .int ((10 * ((10 * q) + 9)) + 9)), (0, .ref (ad 105)), (1, .int q)]) E dX1_canBecomeNumber_41 rfl (by decide) rfl ?_
                  refine z_bipush (v := 10) E dX1_canBecomeNumber_42 (by decide) ?_
                  refine z_iload_n E dX1_canBecomeNumber_44 rfl 2 rfl ?_
                  refine z_imul E dX1_canBecomeNumber_45 ?_
                  refine z_bipush (v := 9) E dX1_canBecomeNumber_46 (by decide) ?_
                  refine z_iadd E dX1_canBecomeNumber_48 ?_
                  refine z_istore_n (lv' := [(3, .int ((10 * ((10 * ((10 * q) + 9)) + 9)) + 9)), (2, .int (10 * (10 * (10 * q)))), (4, .int 2), (0, .ref (ad 105)), (1, .int q)]) E dX1_canBecomeNumber_49 rfl (by decide) rfl ?_
                  refine z_iinc (v := 3) (lv' := [(4, .int 3), (3, .int ((10 * ((10 * ((10 * q) + 9)) + 9)) + 9)), (2, .int (10 * (10 * (10 * q)))), (0, .ref (ad 105)), (1, .int q)]) E dX1_canBecomeNumber_50 (q := 2) rfl (by decide) (by decide) rfl ?_
                  refine z_goto (tgt := 7) E dX1_canBecomeNumber_53 (by decide) ?_
                  refine z_iload E dX1_canBecomeNumber_7 0 rfl ?_
                  refine z_iconst (v := 3) E dX1_canBecomeNumber_9 (by decide) ?_
                  refine z_icmp_ge_t (tgt := 56) E dX1_canBecomeNumber_10 (by decide) (by decide) ?_
                  refine z_iconst (v := 0) E dX1_canBecomeNumber_56 (by decide) ?_
                  exact z_izretM E hr hlocks (mem) rfl rfl ⟨((if_neg c18_13).trans ((if_pos c26_188).trans ((if_neg c32_190).trans ((if_neg c18_209).trans ((if_pos c26_284).trans ((if_neg c32_286).trans ((if_pos c18_305).trans (if_neg c32_307)))))))).symm, rfl⟩ (Nat.le_of_ble_eq_true rfl) (Nat.le_of_ble_eq_true rfl) dX1_canBecomeNumber_57
                · skip
                  refine z_iconst (v := 0) E dX1_canBecomeNumber_35 (by decide) ?_
                  exact z_izretM E hr hlocks (mem) rfl rfl ⟨((if_neg c18_13).trans ((if_pos c26_188).trans ((if_neg c32_190).trans ((if_neg c18_209).trans ((if_pos c26_284).trans ((if_neg c32_286).trans ((if_pos c18_305).trans (if_pos c32_307)))))))).symm, rfl⟩ (Nat.le_of_ble_eq_true rfl) (Nat.le_of_ble_eq_true rfl) dX1_canBecomeNumber_36
              · skip
                refine z_iload_n E dX1_canBecomeNumber_21 rfl 1 rfl ?_
                refine z_aload_n E dX1_canBecomeNumber_22 rfl 3 rfl ?_
                refine z_get E 105 cw_read (C := RX1) (T := TX1) (N := 6) rfl (fun _ h => List.mem_cons_of_mem _ (List.mem_append_right _ h)) 1 (by decide) (List.mem_of_getElem? (i := 2) (by decide +kernel)) rfl (v := .int (mem 105 1)) rfl dX1_canBecomeNumber_23 ?_
                refine z_icmp_lt (tgt := 31) E dX1_canBecomeNumber_26 (by decide) (fun c26_330 => ?_) (fun c26_330 => ?_)
                · skip
                  refine z_iload_n E dX1_canBecomeNumber_31 rfl 4 rfl ?_
                  refine z_if_ne (tgt := 37) E dX1_canBecomeNumber_32 (by decide) (fun c32_332 => ?_) (fun c32_332 => ?_)
                  · skip
                    refine z_bipush (v := 10) E dX1_canBecomeNumber_37 (by decide) ?_
                    refine z_iload_n E dX1_canBecomeNumber_39 rfl 2 rfl ?_
                    refine z_imul E dX1_canBecomeNumber_40 ?_
                    refine z_istore_n (lv' := [(2, .int (10 * (10 * (10 * q)))), (4, .int 2), (3, .int ((10 * ((10 * q) + 9)) + 9)), (0, .ref (ad 105)), (1, .int q)]) E dX1_canBecomeNumber_41 rfl (by decide) rfl ?_
                    refine z_bipush (v := 10) E dX1_canBecomeNumber_42 (by decide) ?_
                    refine z_iload_n E dX1_canBecomeNumber_44 rfl 2 rfl ?_
                    refine z_imul E dX1_canBecomeNumber_45 ?_
                    refine z_bipush (v := 9) E dX1_canBecomeNumber_46 (by decide) ?_
                    refine z_iadd E dX1_canBecomeNumber_48 ?_
                    refine z_istore_n (lv' := [(3, .int ((10 * ((10 * ((10 * q) + 9)) + 9)) + 9)), (2, .int (10 * (10 * (10 * q)))), (4, .int 2), (0, .ref (ad 105)), (1, .int q)]) E dX1_canBecomeNumber_49 rfl (by decide) rfl ?_
                    refine z_iinc (v := 3) (lv' := [(4, .int 3), (3, .int ((10 * ((10 * ((10 * q) + 9)) + 9)) + 9)), (2, .int (10 * (10 * (10 * q)))), (0, .ref (ad 105)), (1, .int q)]) E dX1_canBecomeNumber_50 (q := 2) rfl (by decide) (by decide) rfl ?_
                    refine z_goto (tgt := 7) E dX1_canBecomeNumber_53 (by decide) ?_
                    refine z_iload E dX1_canBecomeNumber_7 0 rfl ?_
                    refine z_iconst (v := 3) E dX1_canBecomeNumber_9 (by decide) ?_
                    refine z_icmp_ge_t (tgt := 56) E dX1_canBecomeNumber_10 (by decide) (by decide) ?_
                    refine z_iconst (v := 0) E dX1_canBecomeNumber_56 (by decide) ?_
                    exact z_izretM E hr hlocks (mem) rfl rfl ⟨((if_neg c18_13).trans ((if_pos c26_188).trans ((if_neg c32_190).trans ((if_neg c18_209).trans ((if_pos c26_284).trans ((if_neg c32_286).trans ((if_neg c18_305).trans ((if_pos c26_330).trans (if_neg c32_332))))))))).symm, rfl⟩ (Nat.le_of_ble_eq_true rfl) (Nat.le_of_ble_eq_true rfl) dX1_canBecomeNumber_57
                  · skip
                    refine z_iconst (v := 0) E dX1_canBecomeNumber_35 (by decide) ?_
                    exact z_izretM E hr hlocks (mem) rfl rfl ⟨((if_neg c18_13).trans ((if_pos c26_188).trans ((if_neg c32_190).trans ((if_neg c18_209).trans ((if_pos c26_284).trans ((if_neg c32_286).trans ((if_neg c18_305).trans ((if_pos c26_330).trans (if_pos c32_332))))))))).symm, rfl⟩ (Nat.le_of_ble_eq_true rfl) (Nat.le_of_ble_eq_true rfl) dX1_canBecomeNumber_36
                · skip
                  refine z_iconst (v := 1) E dX1_canBecomeNumber_29 (by decide) ?_
                  exact z_izretM E hr hlocks (mem) rfl rfl ⟨((if_neg c18_13).trans ((if_pos c26_188).trans ((if_neg c32_190).trans ((if_neg c18_209).trans ((if_pos c26_284).trans ((if_neg c32_286).trans ((if_neg c18_305).trans (if_neg c26_330)))))))).symm, rfl⟩ (Nat.le_of_ble_eq_true rfl) (Nat.le_of_ble_eq_true rfl) dX1_canBecomeNumber_30
            · skip
              refine z_iconst (v := 0) E dX1_canBecomeNumber_35 (by decide) ?_
              exact z_izretM E hr hlocks (mem) rfl rfl ⟨((if_neg c18_13).trans ((if_pos c26_188).trans ((if_neg c32_190).trans ((if_neg c18_209).trans ((if_pos c26_284).trans (if_pos c32_286)))))).symm, rfl⟩ (Nat.le_of_ble_eq_true rfl) (Nat.le_of_ble_eq_true rfl) dX1_canBecomeNumber_36
          · skip
            refine z_iconst (v := 1) E dX1_canBecomeNumber_29 (by decide) ?_
            exact z_izretM E hr hlocks (mem) rfl rfl ⟨((if_neg c18_13).trans ((if_pos c26_188).trans ((if_neg c32_190).trans ((if_neg c18_209).trans (if_neg c26_284))))).symm, rfl⟩ (Nat.le_of_ble_eq_true rfl) (Nat.le_of_ble_eq_true rfl) dX1_canBecomeNumber_30
      · skip
        refine z_iconst (v := 0) E dX1_canBecomeNumber_35 (by decide) ?_
        exact z_izretM E hr hlocks (mem) rfl rfl ⟨((if_neg c18_13).trans ((if_pos c26_188).trans (if_pos c32_190))).symm, rfl⟩ (Nat.le_of_ble_eq_true rfl) (Nat.le_of_ble_eq_true rfl) dX1_canBecomeNumber_36
    · skip
      refine z_iconst (v := 1) E dX1_canBecomeNumber_29 (by decide) ?_
      exact z_izretM E hr hlocks (mem) rfl rfl ⟨((if_neg c18_13).trans (if_neg c26_188)).symm, rfl⟩ (Nat.le_of_ble_eq_true rfl) (Nat.le_of_ble_eq_true rfl) dX1_canBecomeNumber_30
set_option maxHeartbeats 4000000 in
set_option maxRecDepth 100000 in
theorem k_takesDigit (l : Launch) (D : va_G) (ad : Nat → Nat) (cI cR cS cL : ClassId) (mem : zM) (q : Int32) : zMi l yX1_takesDigit wsX1_takesDigit ({ frames := 1, cells := 0, slots := 0, locals := 24 }) D (cK cI cR cS cL) [.ref (ad 105), .int q] (cw ad cI cR cS mem) (fun r u => r = fTD (mem 105) q ∧ u = mrow mem 105 (rTD (mem 105) q)) (cw ad cI cR cS) 0 0 := by
  refine zMiM.of (cc := cX1_takesDigit) (maxL := 3) (ret := (some .boolean)) (by decide +kernel) rfl (lv0 := [(0, .ref (ad 105)), (1, .int q)]) (Nat.le_of_ble_eq_true rfl) rfl ?_
  intro p e s m args below meth c E hZ hr hlocks hnm
  refine z_iload_n E dX1_takesDigit_0 rfl 1 rfl ?_
  refine z_bipush (v := 48) E dX1_takesDigit_1 (by decide) ?_
  refine z_icmp_lt (tgt := 12) E dX1_takesDigit_3 (by decide) (fun c3 => ?_) (fun c3 => ?_)
  · skip
    refine z_iconst (v := 0) E dX1_takesDigit_12 (by decide) ?_
    exact z_izretM E hr hlocks (mem) rfl rfl ⟨(if_pos c3).symm, ((mrow_self mem 105).symm.trans (congrArg (mrow mem 105) ((if_pos c3).symm)))⟩ (Nat.le_of_ble_eq_true rfl) (Nat.le_of_ble_eq_true rfl) dX1_takesDigit_13
  · skip
    refine z_iload_n E dX1_takesDigit_6 rfl 1 rfl ?_
    refine z_bipush (v := 57) E dX1_takesDigit_7 (by decide) ?_
    refine z_icmp_le (tgt := 14) E dX1_takesDigit_9 (by decide) (fun c9 => ?_) (fun c9 => ?_)
    · skip
      refine z_bipush (v := 10) E dX1_takesDigit_14 (by decide) ?_
      refine z_aload_n E dX1_takesDigit_16 rfl 0 rfl ?_
      refine z_get E 105 cw_read (C := RX1) (T := TX1) (N := 6) rfl (fun _ h => List.mem_cons_of_mem _ (List.mem_append_right _ h)) 5 (by decide) (List.mem_of_getElem? (i := 1) (by decide +kernel)) rfl (v := .int (mem 105 5)) rfl dX1_takesDigit_17 ?_
      refine z_imul E dX1_takesDigit_20 ?_
      refine z_iload_n E dX1_takesDigit_21 rfl 1 rfl ?_
      refine z_iadd E dX1_takesDigit_22 ?_
      refine z_bipush (v := 48) E dX1_takesDigit_23 (by decide) ?_
      refine z_isub E dX1_takesDigit_25 ?_
      refine z_istore_n (lv' := [(2, .int (((10 * (mem 105 5)) + q) - 48)), (0, .ref (ad 105)), (1, .int q)]) E dX1_takesDigit_26 rfl (by decide) rfl ?_
      refine z_aload_n E dX1_takesDigit_27 rfl 1 rfl ?_
      refine z_iload_n E dX1_takesDigit_28 rfl 0 rfl ?_
      refine z_callVi E hZ (k_canBecome l D ad cI cR cS cL mem (((10 * (mem 105 5)) + q) - 48)) gX1_takesDigit_X1_canBecomeNumber (n := 1) rfl rfl rfl (by decide +kernel) rfl ⟨Nat.le_of_ble_eq_true rfl, Nat.le_of_ble_eq_true rfl⟩  (C := RX1) rfl 105 cw_read (As := [.int (((10 * (mem 105 5)) + q) - 48)]) (rest := []) rfl (Nat.le_of_ble_eq_true rfl) ⟨Nat.le_of_ble_eq_true rfl, Nat.le_of_ble_eq_true rfl⟩ dX1_takesDigit_29 (fun r u hp => ?_)
      rw [hp.1, hp.2]
      refine z_if_ne (tgt := 37) E dX1_takesDigit_32 (by decide) (fun c32 => ?_) (fun c32 => ?_)
      · skip
        refine z_aload_n E dX1_takesDigit_37 rfl 1 rfl ?_
        refine z_iload_n E dX1_takesDigit_38 rfl 0 rfl ?_
        refine z_put E 105 cw_read (C := RX1) (T := TX1) (N := 6) rfl (fun _ h => List.mem_cons_of_mem _ (List.mem_append_right _ h)) tyX1 tyX1_ok nmX1 5 (by decide) (List.mem_of_getElem? (i := 1) (by decide +kernel)) rfl rfl rfl rfl (Nat.le_of_ble_eq_true rfl) (ws' := cw ad cI cR cS (mset mem 105 5 (((10 * (mem 105 5)) + q) - 48))) (cs_read 5 (by decide) rfl) dX1_takesDigit_39 ?_
        refine z_gm (fun m54 hm54 => ?_)
        refine z_aload_n E dX1_takesDigit_42 rfl 1 rfl ?_
        refine z_iconst (v := 3) E dX1_takesDigit_43 (by decide) ?_
        refine z_put E 105 cw_read (C := RX1) (T := TX1) (N := 6) rfl (fun _ h => List.mem_cons_of_mem _ (List.mem_append_right _ h)) tyX1 tyX1_ok nmX1 0 (by decide) (List.mem_of_getElem? (i := 2) (by decide +kernel)) rfl rfl rfl rfl (Nat.le_of_ble_eq_true rfl) (ws' := cw ad cI cR cS (mset m54 105 0 3)) (cs_read 0 (by decide) rfl) dX1_takesDigit_44 ?_
        refine z_gm (fun m55 hm55 => ?_)
        refine z_iconst (v := 1) E dX1_takesDigit_47 (by decide) ?_
        exact z_izretM E hr hlocks (m55) rfl rfl ⟨((if_neg c3).trans ((if_pos c9).trans (if_neg c32))).symm, (by rw [hm55, hm54, mset_row mem, mset_mrow]; exact congrArg (mrow mem 105) (((if_neg c3).trans ((if_pos c9).trans (if_neg c32))).symm))⟩ (Nat.le_of_ble_eq_true rfl) (Nat.le_of_ble_eq_true rfl) dX1_takesDigit_48
      · skip
        refine z_iconst (v := 0) E dX1_takesDigit_35 (by decide) ?_
        exact z_izretM E hr hlocks (mem) rfl rfl ⟨((if_neg c3).trans ((if_pos c9).trans (if_pos c32))).symm, ((mrow_self mem 105).symm.trans (congrArg (mrow mem 105) (((if_neg c3).trans ((if_pos c9).trans (if_pos c32))).symm)))⟩ (Nat.le_of_ble_eq_true rfl) (Nat.le_of_ble_eq_true rfl) dX1_takesDigit_36
    · skip
      refine z_iconst (v := 0) E dX1_takesDigit_12 (by decide) ?_
      exact z_izretM E hr hlocks (mem) rfl rfl ⟨((if_neg c3).trans (if_neg c9)).symm, ((mrow_self mem 105).symm.trans (congrArg (mrow mem 105) (((if_neg c3).trans (if_neg c9)).symm)))⟩ (Nat.le_of_ble_eq_true rfl) (Nat.le_of_ble_eq_true rfl) dX1_takesDigit_13
set_option maxHeartbeats 4000000 in
set_option maxRecDepth 100000 in
theorem k_takesSemicolon (l : Launch) (D : va_G) (ad : Nat → Nat) (cI cR cS cL : ClassId) (mem : zM)  : zMi l yX1_takesSemicolon wsX1_takesSemicolon ({ frames := 1, cells := 0, slots := 0, locals := 20 }) D (cK cI cR cS cL) [.ref (ad 105)] (cw ad cI cR cS mem) (fun r u => r = fTS (mem 105) ∧ u = mrow mem 105 (rTS (mem 105))) (cw ad cI cR cS) 0 0 := by
  refine zMiM.of (cc := cX1_takesSemicolon) (maxL := 1) (ret := (some .boolean)) (by decide +kernel) rfl (lv0 := [(0, .ref (ad 105))]) (Nat.le_of_ble_eq_true rfl) rfl ?_
  intro p e s m args below meth c E hZ hr hlocks hnm
  refine z_aload_n E dX1_takesSemicolon_0 rfl 0 rfl ?_
  refine z_callVi E hZ (k_isPartWhole l D ad cI cR cS cL mem ) gX1_takesSemicolon_X1_isPartWhole (n := 0) rfl rfl rfl (by decide +kernel) rfl ⟨Nat.le_of_ble_eq_true rfl, Nat.le_of_ble_eq_true rfl⟩  (C := RX1) rfl 105 cw_read (As := []) (rest := []) rfl (Nat.le_of_ble_eq_true rfl) ⟨Nat.le_of_ble_eq_true rfl, Nat.le_of_ble_eq_true rfl⟩ dX1_takesSemicolon_1 (fun r u hp => ?_)
  rw [hp.1, hp.2]
  refine z_if_ne (tgt := 9) E dX1_takesSemicolon_4 (by decide) (fun c4 => ?_) (fun c4 => ?_)
  · skip
    refine z_aload_n E dX1_takesSemicolon_9 rfl 0 rfl ?_
    refine z_callVv E hZ (k_startPart l D ad cI cR cS cL mem ) gX1_takesSemicolon_X1_startPart (n := 0) rfl rfl rfl (by decide +kernel) rfl ⟨Nat.le_of_ble_eq_true rfl, Nat.le_of_ble_eq_true rfl⟩ (C := RX1) rfl 105 cw_read (As := []) (rest := []) rfl (Nat.le_of_ble_eq_true rfl) ⟨Nat.le_of_ble_eq_true rfl, Nat.le_of_ble_eq_true rfl⟩ dX1_takesSemicolon_10 (fun u hp => ?_)
    rw [hp]
    refine z_gm (fun m56 hm56 => ?_)
    refine z_iconst (v := 1) E dX1_takesSemicolon_13 (by decide) ?_
    exact z_izretM E hr hlocks (m56) rfl rfl ⟨(if_neg c4).symm, by rw [hm56]; exact congrArg (mrow mem 105) ((if_neg c4).symm)⟩ (Nat.le_of_ble_eq_true rfl) (Nat.le_of_ble_eq_true rfl) dX1_takesSemicolon_14
  · skip
    refine z_iconst (v := 0) E dX1_takesSemicolon_7 (by decide) ?_
    exact z_izretM E hr hlocks (mem) rfl rfl ⟨(if_pos c4).symm, ((mrow_self mem 105).symm.trans (congrArg (mrow mem 105) ((if_pos c4).symm)))⟩ (Nat.le_of_ble_eq_true rfl) (Nat.le_of_ble_eq_true rfl) dX1_takesSemicolon_8
set_option maxHeartbeats 4000000 in
set_option maxRecDepth 100000 in
theorem k_takes (l : Launch) (D : va_G) (ad : Nat → Nat) (cI cR cS cL : ClassId) (mem : zM) (q : Int32) : zMi l yX1_takes wsX1_takes ({ frames := 2, cells := 0, slots := 0, locals := 46 }) D (cK cI cR cS cL) [.ref (ad 105), .int q] (cw ad cI cR cS mem) (fun r u => r = fTk (mem 105) q ∧ u = mrow mem 105 (rTk (mem 105) q)) (cw ad cI cR cS) 0 0 := by
  refine zMiM.of (cc := cX1_takes) (maxL := 2) (ret := (some .boolean)) (by decide +kernel) rfl (lv0 := [(0, .ref (ad 105)), (1, .int q)]) (Nat.le_of_ble_eq_true rfl) rfl ?_
  intro p e s m args below meth c E hZ hr hlocks hnm
  refine z_aload_n E dX1_takes_0 rfl 0 rfl ?_
  refine z_get E 105 cw_read (C := RX1) (T := TX1) (N := 6) rfl (fun _ h => List.mem_cons_of_mem _ (List.mem_append_right _ h)) 0 (by decide) (List.mem_of_getElem? (i := 1) (by decide +kernel)) rfl (v := .int (mem 105 0)) rfl dX1_takes_1 ?_
  by_cases s4_0 : mem 105 0 = 0
  · skip
    refine z_tableIn (tgt := 36) (off := 32) E dX1_takes_4 (by rw [s4_0]; decide) (by rw [s4_0]; decide) (by rw [s4_0]; decide) (by decide) ?_
    refine z_aload_n E dX1_takes_36 rfl 0 rfl ?_
    refine z_iload_n E dX1_takes_37 rfl 1 rfl ?_
    refine z_callVi E hZ (k_takesLadder l D ad cI cR cS cL mem q) gX1_takes_X1_takesLadder (n := 1) rfl rfl rfl (by decide +kernel) rfl ⟨Nat.le_of_ble_eq_true rfl, Nat.le_of_ble_eq_true rfl⟩ (C := RX1) rfl 105 cw_read (As := [.int q]) (rest := []) rfl (Nat.le_of_ble_eq_true rfl) ⟨Nat.le_of_ble_eq_true rfl, Nat.le_of_ble_eq_true rfl⟩ dX1_takes_38 (fun r u hp => ?_)
    rw [hp.1, hp.2]
    refine z_gm (fun m57 hm57 => ?_)
    exact z_izretM E hr hlocks (m57) (znb (fTL_01  q)) rfl ⟨(if_pos s4_0).symm, by rw [hm57]; exact congrArg (mrow mem 105) ((if_pos s4_0).symm)⟩ (Nat.le_of_ble_eq_true rfl) (Nat.le_of_ble_eq_true rfl) dX1_takes_41
  by_cases s4_1 : mem 105 0 = 1
  · skip
    refine z_tableIn (tgt := 42) (off := 38) E dX1_takes_4 (by rw [s4_1]; decide) (by rw [s4_1]; decide) (by rw [s4_1]; decide) (by decide) ?_
    refine z_aload_n E dX1_takes_42 rfl 0 rfl ?_
    refine z_iload_n E dX1_takes_43 rfl 1 rfl ?_
    refine z_callVi E hZ (k_takesWork l D ad cI cR cS cL mem q) gX1_takes_X1_takesWork (n := 1) rfl rfl rfl (by decide +kernel) rfl ⟨Nat.le_of_ble_eq_true rfl, Nat.le_of_ble_eq_true rfl⟩ (C := RX1) rfl 105 cw_read (As := [.int q]) (rest := []) rfl (Nat.le_of_ble_eq_true rfl) ⟨Nat.le_of_ble_eq_true rfl, Nat.le_of_ble_eq_true rfl⟩ dX1_takes_44 (fun r u hp => ?_)
    rw [hp.1, hp.2]
    refine z_gm (fun m58 hm58 => ?_)
    exact z_izretM E hr hlocks (m58) (znb (fTW_01  q)) rfl ⟨((if_neg s4_0).trans (if_pos s4_1)).symm, by rw [hm58]; exact congrArg (mrow mem 105) (((if_neg s4_0).trans (if_pos s4_1)).symm)⟩ (Nat.le_of_ble_eq_true rfl) (Nat.le_of_ble_eq_true rfl) dX1_takes_47
  by_cases s4_2 : mem 105 0 = 2
  · skip
    refine z_tableIn (tgt := 48) (off := 44) E dX1_takes_4 (by rw [s4_2]; decide) (by rw [s4_2]; decide) (by rw [s4_2]; decide) (by decide) ?_
    refine z_aload_n E dX1_takes_48 rfl 0 rfl ?_
    refine z_iload_n E dX1_takes_49 rfl 1 rfl ?_
    refine z_callVi E hZ (k_takesDigit l D ad cI cR cS cL mem q) gX1_takes_X1_takesDigit (n := 1) rfl rfl rfl (by decide +kernel) rfl ⟨Nat.le_of_ble_eq_true rfl, Nat.le_of_ble_eq_true rfl⟩ (C := RX1) rfl 105 cw_read (As := [.int q]) (rest := []) rfl (Nat.le_of_ble_eq_true rfl) ⟨Nat.le_of_ble_eq_true rfl, Nat.le_of_ble_eq_true rfl⟩ dX1_takes_50 (fun r u hp => ?_)
    rw [hp.1, hp.2]
    refine z_gm (fun m59 hm59 => ?_)
    exact z_izretM E hr hlocks (m59) (znb (fTD_01  (mem 105) q)) rfl ⟨((if_neg s4_0).trans ((if_neg s4_1).trans (if_pos s4_2))).symm, by rw [hm59]; exact congrArg (mrow mem 105) (((if_neg s4_0).trans ((if_neg s4_1).trans (if_pos s4_2))).symm)⟩ (Nat.le_of_ble_eq_true rfl) (Nat.le_of_ble_eq_true rfl) dX1_takes_53
  by_cases s4_3 : mem 105 0 = 3
  · skip
    refine z_tableIn (tgt := 54) (off := 50) E dX1_takes_4 (by rw [s4_3]; decide) (by rw [s4_3]; decide) (by rw [s4_3]; decide) (by decide) ?_
    refine z_iload_n E dX1_takes_54 rfl 1 rfl ?_
    refine z_bipush (v := 59) E dX1_takes_55 (by decide) ?_
    refine z_icmp_ne (tgt := 67) E dX1_takes_57 (by decide) (fun c57 => ?_) (fun c57 => ?_)
    · skip
      refine z_aload_n E dX1_takes_67 rfl 0 rfl ?_
      refine z_get E 105 cw_read (C := RX1) (T := TX1) (N := 6) rfl (fun _ h => List.mem_cons_of_mem _ (List.mem_append_right _ h)) 5 (by decide) (List.mem_of_getElem? (i := 2) (by decide +kernel)) rfl (v := .int (mem 105 5)) rfl dX1_takes_68 ?_
      refine z_if_eq (tgt := 86) E dX1_takes_71 (by decide) (fun c71 => ?_) (fun c71 => ?_)
      · skip
        refine z_iconst (v := 0) E dX1_takes_86 (by decide) ?_
        exact z_izretM E hr hlocks (mem) rfl rfl ⟨((if_neg s4_0).trans ((if_neg s4_1).trans ((if_neg s4_2).trans ((if_pos s4_3).trans ((if_neg c57).trans (if_pos c71)))))).symm, (mrow_self mem 105).symm.trans (congrArg (mrow mem 105) (((if_neg s4_0).trans ((if_neg s4_1).trans ((if_neg s4_2).trans ((if_pos s4_3).trans ((if_neg c57).trans (if_pos c71)))))).symm))⟩ (Nat.le_of_ble_eq_true rfl) (Nat.le_of_ble_eq_true rfl) dX1_takes_87
      · skip
        refine z_aload_n E dX1_takes_74 rfl 0 rfl ?_
        refine z_iload_n E dX1_takes_75 rfl 1 rfl ?_
        refine z_callVi E hZ (k_takesDigit l D ad cI cR cS cL mem q) gX1_takes_X1_takesDigit (n := 1) rfl rfl rfl (by decide +kernel) rfl ⟨Nat.le_of_ble_eq_true rfl, Nat.le_of_ble_eq_true rfl⟩ (C := RX1) rfl 105 cw_read (As := [.int q]) (rest := []) rfl (Nat.le_of_ble_eq_true rfl) ⟨Nat.le_of_ble_eq_true rfl, Nat.le_of_ble_eq_true rfl⟩ dX1_takes_76 (fun r u hp => ?_)
        rw [hp.1, hp.2]
        refine z_gm (fun m60 hm60 => ?_)
        refine z_if_eq (tgt := 86) E dX1_takes_79 (by decide) (fun c79 => ?_) (fun c79 => ?_)
        · skip
          refine z_iconst (v := 0) E dX1_takes_86 (by decide) ?_
          exact z_izretM E hr hlocks (m60) rfl rfl ⟨((if_neg s4_0).trans ((if_neg s4_1).trans ((if_neg s4_2).trans ((if_pos s4_3).trans ((if_neg c57).trans ((if_neg c71).trans (if_pos c79))))))).symm, by rw [hm60]; exact congrArg (mrow mem 105) (((if_neg s4_0).trans ((if_neg s4_1).trans ((if_neg s4_2).trans ((if_pos s4_3).trans ((if_neg c57).trans (if_neg c71)))))).symm)⟩ (Nat.le_of_ble_eq_true rfl) (Nat.le_of_ble_eq_true rfl) dX1_takes_87
        · skip
          refine z_iconst (v := 1) E dX1_takes_82 (by decide) ?_
          refine z_goto (tgt := 87) E dX1_takes_83 (by decide) ?_
          exact z_izretM E hr hlocks (m60) rfl rfl ⟨((if_neg s4_0).trans ((if_neg s4_1).trans ((if_neg s4_2).trans ((if_pos s4_3).trans ((if_neg c57).trans ((if_neg c71).trans (if_neg c79))))))).symm, by rw [hm60]; exact congrArg (mrow mem 105) (((if_neg s4_0).trans ((if_neg s4_1).trans ((if_neg s4_2).trans ((if_pos s4_3).trans ((if_neg c57).trans (if_neg c71)))))).symm)⟩ (Nat.le_of_ble_eq_true rfl) (Nat.le_of_ble_eq_true rfl) dX1_takes_87
    · skip
      refine z_aload_n E dX1_takes_60 rfl 0 rfl ?_
      refine z_callVi E hZ (k_takesSemicolon l D ad cI cR cS cL mem ) gX1_takes_X1_takesSemicolon (n := 0) rfl rfl rfl (by decide +kernel) rfl ⟨Nat.le_of_ble_eq_true rfl, Nat.le_of_ble_eq_true rfl⟩ (C := RX1) rfl 105 cw_read (As := []) (rest := []) rfl (Nat.le_of_ble_eq_true rfl) ⟨Nat.le_of_ble_eq_true rfl, Nat.le_of_ble_eq_true rfl⟩ dX1_takes_61 (fun r u hp => ?_)
      rw [hp.1, hp.2]
      refine z_gm (fun m61 hm61 => ?_)
      refine z_goto (tgt := 87) E dX1_takes_64 (by decide) ?_
      exact z_izretM E hr hlocks (m61) (znb (fTS_01  (mem 105))) rfl ⟨((if_neg s4_0).trans ((if_neg s4_1).trans ((if_neg s4_2).trans ((if_pos s4_3).trans (if_pos c57))))).symm, by rw [hm61]; exact congrArg (mrow mem 105) (((if_neg s4_0).trans ((if_neg s4_1).trans ((if_neg s4_2).trans ((if_pos s4_3).trans (if_pos c57))))).symm)⟩ (Nat.le_of_ble_eq_true rfl) (Nat.le_of_ble_eq_true rfl) dX1_takes_87
  refine z_tableD (tgt := 88) E dX1_takes_4 (by have q0 := zne (n := 0) (by decide) s4_0; have q1 := zne (n := 1) (by decide) s4_1; have q2 := zne (n := 2) (by decide) s4_2; have q3 := zne (n := 3) (by decide) s4_3; rcases (by omega : ((mem 105 0)).toInt < 0 ∨ 3 < ((mem 105 0)).toInt) with q | q; exact Or.inl q; exact Or.inr (Or.inl q)) (by decide) ?_
  refine z_iload_n E dX1_takes_88 rfl 1 rfl ?_
  refine z_bipush (v := 59) E dX1_takes_89 (by decide) ?_
  refine z_icmp_ne (tgt := 105) E dX1_takes_91 (by decide) (fun c91 => ?_) (fun c91 => ?_)
  · skip
    refine z_iconst (v := 0) E dX1_takes_105 (by decide) ?_
    exact z_izretM E hr hlocks (mem) rfl rfl ⟨((if_neg s4_0).trans ((if_neg s4_1).trans ((if_neg s4_2).trans ((if_neg s4_3).trans (if_neg c91))))).symm, (mrow_self mem 105).symm.trans (congrArg (mrow mem 105) (((if_neg s4_0).trans ((if_neg s4_1).trans ((if_neg s4_2).trans ((if_neg s4_3).trans (if_neg c91))))).symm))⟩ (Nat.le_of_ble_eq_true rfl) (Nat.le_of_ble_eq_true rfl) dX1_takes_106
  · skip
    refine z_aload_n E dX1_takes_94 rfl 0 rfl ?_
    refine z_callVi E hZ (k_takesSemicolon l D ad cI cR cS cL mem ) gX1_takes_X1_takesSemicolon (n := 0) rfl rfl rfl (by decide +kernel) rfl ⟨Nat.le_of_ble_eq_true rfl, Nat.le_of_ble_eq_true rfl⟩ (C := RX1) rfl 105 cw_read (As := []) (rest := []) rfl (Nat.le_of_ble_eq_true rfl) ⟨Nat.le_of_ble_eq_true rfl, Nat.le_of_ble_eq_true rfl⟩ dX1_takes_95 (fun r u hp => ?_)
    rw [hp.1, hp.2]
    refine z_gm (fun m62 hm62 => ?_)
    refine z_if_eq (tgt := 105) E dX1_takes_98 (by decide) (fun c98 => ?_) (fun c98 => ?_)
    · skip
      refine z_iconst (v := 0) E dX1_takes_105 (by decide) ?_
      exact z_izretM E hr hlocks (m62) rfl rfl ⟨((if_neg s4_0).trans ((if_neg s4_1).trans ((if_neg s4_2).trans ((if_neg s4_3).trans ((if_pos c91).trans (if_pos c98)))))).symm, by rw [hm62]; exact congrArg (mrow mem 105) (((if_neg s4_0).trans ((if_neg s4_1).trans ((if_neg s4_2).trans ((if_neg s4_3).trans (if_pos c91))))).symm)⟩ (Nat.le_of_ble_eq_true rfl) (Nat.le_of_ble_eq_true rfl) dX1_takes_106
    · skip
      refine z_iconst (v := 1) E dX1_takes_101 (by decide) ?_
      refine z_goto (tgt := 106) E dX1_takes_102 (by decide) ?_
      exact z_izretM E hr hlocks (m62) rfl rfl ⟨((if_neg s4_0).trans ((if_neg s4_1).trans ((if_neg s4_2).trans ((if_neg s4_3).trans ((if_pos c91).trans (if_neg c98)))))).symm, by rw [hm62]; exact congrArg (mrow mem 105) (((if_neg s4_0).trans ((if_neg s4_1).trans ((if_neg s4_2).trans ((if_neg s4_3).trans (if_pos c91))))).symm)⟩ (Nat.le_of_ble_eq_true rfl) (Nat.le_of_ble_eq_true rfl) dX1_takes_106
/-- the reader's row after k characters; after n from the q-th on -/
def rdN (cs r0 : Nat → Int32) : Nat → Nat → Int32
  | 0 => rStart r0
  | k + 1 => rTk (rdN cs r0 k) (cs k)
def rdS (cs r0 : Nat → Int32) (q : Nat) : Nat → Nat → Int32
  | 0 => rStart r0
  | k + 1 => rTk (rdS cs r0 q k) (cs (q + k))
def fCodeAt (mem : zM) (i : Int32) : Int32 := if i < 0 then 0 else if mem 103 1 ≤ i then 0 else if 60 ≤ i then 0 else mem 104 i.toNatClampNeg
theorem fCodeAt_of {mem : zM} {k L : Nat} (hL : L ≤ 60) (hl : mem 103 1 = nI L) (hk : k < L) : fCodeAt mem (nI k) = mem 104 k := by
  unfold fCodeAt
  rw [if_neg (nI_pos (by omega)), hl, if_neg (fun h => absurd ((nI_leI (by omega) (by omega)).mp h) (by omega)), if_neg (show ¬ (60 : Int32) ≤ nI k from fun h => absurd ((nI_leI (a := 60) (b := k) (by omega) (by omega)).mp h) (by omega)), nI_clamp (by omega)]
theorem zklt {k L : Nat} (hk : k < 2 ^ 31) (hL : L < 2 ^ 31) (c : ¬ nI L ≤ nI k) : k < L := Nat.lt_of_not_le (fun h => c ((nI_leI hL hk).mpr h))
def fWFull (mem : zM) : Int32 := if mem 103 1 < 60 then 0 else 1
def sWAdd (mem : zM) (v : Int32) : zM := if mem 103 1 < 0 then mem else if 60 ≤ mem 103 1 then mem else mset (mset mem 104 (mem 103 1).toNatClampNeg v) 103 1 (mem 103 1 + 1)
/-- what firstFault finds: the place k of the first character that the reader does not take -/
def pFF (mem : zM) (L k : Nat) : Prop := k ≤ L ∧ (∀ i, i < k → ¬ fTk (rdN (mem 104) (mem 105) i) (mem 104 i) = 0) ∧ (k < L → fTk (rdN (mem 104) (mem 105) k) (mem 104 k) = 0)
def sFF (mem : zM) (L k : Nat) : zM := mrow mem 105 (if k < L then rTk (rdN (mem 104) (mem 105) k) (mem 104 k) else rdN (mem 104) (mem 105) k)
theorem zvin60 {x : Int32} (h0 : ¬ x < 0) (h1 : ¬ 60 ≤ x) : vp_in x 60 := zvinN (by decide) h0 h1
/-- what nextPart finds -/
def pNP (mem : zM) (L q n : Nat) (u : zM) : Prop := q + n ≤ L ∧ (∀ i, i < n → ¬ mem 104 (q + i) = 59) ∧ ((q + n < L ∧ mem 104 (q + n) = 59 ∧ u = mset (mrow mem 105 (rdS (mem 104) (mem 105) q n)) 103 2 (nI (q + n + 1))) ∨ (q + n = L ∧ u = mset (mrow mem 105 (rdS (mem 104) (mem 105) q n)) 103 2 (nI (q + n))))
set_option maxHeartbeats 4000000 in
set_option maxRecDepth 100000 in
theorem k_wFull (l : Launch) (D : va_G) (ad : Nat → Nat) (cI cR cS cL : ClassId) (mem : zM)  : zMi l yX4_isFull wsX4_isFull ({ frames := 0, cells := 0, slots := 0, locals := 0 }) D (cK cI cR cS cL) [.ref (ad 103)] (cw ad cI cR cS mem) (fun r u => r = fWFull mem ∧ u = mem) (cw ad cI cR cS) 0 0 := by
  refine zMiM.of (cc := cX4_isFull) (maxL := 1) (ret := (some .boolean)) (by decide +kernel) rfl (lv0 := [(0, .ref (ad 103))]) (Nat.le_of_ble_eq_true rfl) rfl ?_
  intro p e s m args below meth c E hZ hr hlocks hnm
  refine z_aload_n E dX4_isFull_0 rfl 0 rfl ?_
  refine z_get E 103 cw_works (C := RX4) (T := TX4) (N := 4) rfl (fun _ h => List.mem_cons_of_mem _ (List.mem_append_right _ h)) 1 (by decide) (List.mem_of_getElem? (i := 1) (by decide +kernel)) rfl (v := .int (mem 103 1)) rfl dX4_isFull_1 ?_
  refine z_bipush (v := 60) E dX4_isFull_4 (by decide) ?_
  refine z_icmp_lt (tgt := 13) E dX4_isFull_6 (by decide) (fun c6 => ?_) (fun c6 => ?_)
  · skip
    refine z_iconst (v := 0) E dX4_isFull_13 (by decide) ?_
    exact z_izretM E hr hlocks (mem) rfl rfl ⟨(if_pos c6).symm, rfl⟩ (Nat.le_of_ble_eq_true rfl) (Nat.le_of_ble_eq_true rfl) dX4_isFull_14
  · skip
    refine z_iconst (v := 1) E dX4_isFull_9 (by decide) ?_
    refine z_goto (tgt := 14) E dX4_isFull_10 (by decide) ?_
    exact z_izretM E hr hlocks (mem) rfl rfl ⟨(if_neg c6).symm, rfl⟩ (Nat.le_of_ble_eq_true rfl) (Nat.le_of_ble_eq_true rfl) dX4_isFull_14
set_option maxHeartbeats 4000000 in
set_option maxRecDepth 100000 in
theorem k_wAdd (l : Launch) (D : va_G) (ad : Nat → Nat) (cI cR cS cL : ClassId) (mem : zM) (q : Int32) : zMv l yX4_add wsX4_add ({ frames := 0, cells := 0, slots := 0, locals := 0 }) D (cK cI cR cS cL) [.ref (ad 103), .int q] (cw ad cI cR cS mem) (fun u => u = sWAdd mem q) (cw ad cI cR cS) 0 0 := by
  refine zMvM.of (cc := cX4_add) (maxL := 2) (ret := none) (by decide +kernel) rfl (lv0 := [(0, .ref (ad 103)), (1, .int q)]) (Nat.le_of_ble_eq_true rfl) rfl ?_
  intro p e s m args below meth c E hZ hr hlocks hnm
  refine z_aload_n E dX4_add_0 rfl 0 rfl ?_
  refine z_get E 103 cw_works (C := RX4) (T := TX4) (N := 4) rfl (fun _ h => List.mem_cons_of_mem _ (List.mem_append_right _ h)) 1 (by decide) (List.mem_of_getElem? (i := 1) (by decide +kernel)) rfl (v := .int (mem 103 1)) rfl dX4_add_1 ?_
  refine z_if_lt (tgt := 36) E dX4_add_4 (by decide) (fun c4 => ?_) (fun c4 => ?_)
  · skip
    exact z_vretM E hr hlocks (mem) rfl ((if_pos c4).symm) (Nat.le_of_ble_eq_true rfl) (Nat.le_of_ble_eq_true rfl) dX4_add_36
  · skip
    refine z_aload_n E dX4_add_7 rfl 0 rfl ?_
    refine z_get E 103 cw_works (C := RX4) (T := TX4) (N := 4) rfl (fun _ h => List.mem_cons_of_mem _ (List.mem_append_right _ h)) 1 (by decide) (List.mem_of_getElem? (i := 1) (by decide +kernel)) rfl (v := .int (mem 103 1)) rfl dX4_add_8 ?_
    refine z_bipush (v := 60) E dX4_add_11 (by decide) ?_
    refine z_icmp_ge (tgt := 36) E dX4_add_13 (by decide) (fun c13 => ?_) (fun c13 => ?_)
    · skip
      exact z_vretM E hr hlocks (mem) rfl (((if_neg c4).trans (if_pos c13)).symm) (Nat.le_of_ble_eq_true rfl) (Nat.le_of_ble_eq_true rfl) dX4_add_36
    · skip
      refine z_aload_n E dX4_add_16 rfl 0 rfl ?_
      refine z_get E 103 cw_works (C := RX4) (T := TX4) (N := 4) rfl (fun _ h => List.mem_cons_of_mem _ (List.mem_append_right _ h)) 0 (by decide) (List.mem_of_getElem? (i := 2) (by decide +kernel)) rfl (v := .ref (ad 104)) rfl dX4_add_17 ?_
      refine z_aload_n E dX4_add_20 rfl 0 rfl ?_
      refine z_get E 103 cw_works (C := RX4) (T := TX4) (N := 4) rfl (fun _ h => List.mem_cons_of_mem _ (List.mem_append_right _ h)) 1 (by decide) (List.mem_of_getElem? (i := 1) (by decide +kernel)) rfl (v := .int (mem 103 1)) rfl dX4_add_21 ?_
      refine z_iload_n E dX4_add_24 rfl 1 rfl ?_
      refine z_iast E 104 0 cw_codes rfl (zvin60 c4 c13) (ws' := cw ad cI cR cS (mset mem 104 ((mem 103 1).toNatClampNeg) q)) (cs_codes ((mem 103 1).toNatClampNeg) q) dX4_add_25 ?_
      refine z_gm (fun m63 hm63 => ?_)
      have Fm63_0 : m63 103 = mem 103 := by rw [hm63, mset_ne _ _ _ (by omega)]
      refine z_aload_n E dX4_add_26 rfl 0 rfl ?_
      refine z_dup E dX4_add_27 rfl ?_
      refine z_get E 103 cw_works (C := RX4) (T := TX4) (N := 4) rfl (fun _ h => List.mem_cons_of_mem _ (List.mem_append_right _ h)) 1 (by decide) (List.mem_of_getElem? (i := 1) (by decide +kernel)) rfl (v := .int (mem 103 1)) (congrArg (fun z : Nat → Int32 => some (Value.int (z 1))) Fm63_0) dX4_add_28 ?_
      refine z_iconst (v := 1) E dX4_add_31 (by decide) ?_
      refine z_iadd E dX4_add_32 ?_
      refine z_put E 103 cw_works (C := RX4) (T := TX4) (N := 4) rfl (fun _ h => List.mem_cons_of_mem _ (List.mem_append_right _ h)) tyX4 tyX4_ok nmX4 1 (by decide) (List.mem_of_getElem? (i := 1) (by decide +kernel)) rfl rfl rfl rfl (Nat.le_of_ble_eq_true rfl) (ws' := cw ad cI cR cS (mset m63 103 1 ((mem 103 1) + 1))) (cs_works 1 (by decide) (by decide) rfl) dX4_add_33 ?_
      refine z_gm (fun m64 hm64 => ?_)
      exact z_vretM E hr hlocks (m64) rfl (by rw [hm64, hm63]; exact ((if_neg c4).trans (if_neg c13)).symm) (Nat.le_of_ble_eq_true rfl) (Nat.le_of_ble_eq_true rfl) dX4_add_36
set_option maxHeartbeats 4000000 in
set_option maxRecDepth 100000 in
theorem k_wClear (l : Launch) (D : va_G) (ad : Nat → Nat) (cI cR cS cL : ClassId) (mem : zM)  : zMv l yX4_clear wsX4_clear ({ frames := 0, cells := 0, slots := 0, locals := 0 }) D (cK cI cR cS cL) [.ref (ad 103)] (cw ad cI cR cS mem) (fun u => u = mset mem 103 1 0) (cw ad cI cR cS) 0 0 := by
  refine zMvM.of (cc := cX4_clear) (maxL := 1) (ret := none) (by decide +kernel) rfl (lv0 := [(0, .ref (ad 103))]) (Nat.le_of_ble_eq_true rfl) rfl ?_
  intro p e s m args below meth c E hZ hr hlocks hnm
  refine z_aload_n E dX4_clear_0 rfl 0 rfl ?_
  refine z_iconst (v := 0) E dX4_clear_1 (by decide) ?_
  refine z_put E 103 cw_works (C := RX4) (T := TX4) (N := 4) rfl (fun _ h => List.mem_cons_of_mem _ (List.mem_append_right _ h)) tyX4 tyX4_ok nmX4 1 (by decide) (List.mem_of_getElem? (i := 1) (by decide +kernel)) rfl rfl rfl rfl (Nat.le_of_ble_eq_true rfl) (ws' := cw ad cI cR cS (mset mem 103 1 0)) (cs_works 1 (by decide) (by decide) rfl) dX4_clear_2 ?_
  refine z_gm (fun m65 hm65 => ?_)
  exact z_vretM E hr hlocks (m65) rfl (by rw [hm65]) (Nat.le_of_ble_eq_true rfl) (Nat.le_of_ble_eq_true rfl) dX4_clear_5
set_option maxHeartbeats 4000000 in
set_option maxRecDepth 100000 in
theorem k_wRewind (l : Launch) (D : va_G) (ad : Nat → Nat) (cI cR cS cL : ClassId) (mem : zM)  : zMv l yX4_rewind wsX4_rewind ({ frames := 0, cells := 0, slots := 0, locals := 0 }) D (cK cI cR cS cL) [.ref (ad 103)] (cw ad cI cR cS mem) (fun u => u = mset mem 103 2 0) (cw ad cI cR cS) 0 0 := by
  refine zMvM.of (cc := cX4_rewind) (maxL := 1) (ret := none) (by decide +kernel) rfl (lv0 := [(0, .ref (ad 103))]) (Nat.le_of_ble_eq_true rfl) rfl ?_
  intro p e s m args below meth c E hZ hr hlocks hnm
  refine z_aload_n E dX4_rewind_0 rfl 0 rfl ?_
  refine z_iconst (v := 0) E dX4_rewind_1 (by decide) ?_
  refine z_put E 103 cw_works (C := RX4) (T := TX4) (N := 4) rfl (fun _ h => List.mem_cons_of_mem _ (List.mem_append_right _ h)) tyX4 tyX4_ok nmX4 2 (by decide) (List.mem_of_getElem? (i := 1) (by decide +kernel)) rfl rfl rfl rfl (Nat.le_of_ble_eq_true rfl) (ws' := cw ad cI cR cS (mset mem 103 2 0)) (cs_works 2 (by decide) (by decide) rfl) dX4_rewind_2 ?_
  refine z_gm (fun m66 hm66 => ?_)
  exact z_vretM E hr hlocks (m66) rfl (by rw [hm66]) (Nat.le_of_ble_eq_true rfl) (Nat.le_of_ble_eq_true rfl) dX4_rewind_5
set_option maxHeartbeats 4000000 in
set_option maxRecDepth 100000 in
theorem k_codeAt (l : Launch) (D : va_G) (ad : Nat → Nat) (cI cR cS cL : ClassId) (mem : zM) (q : Int32) : zMi l yX4_codeAt wsX4_codeAt ({ frames := 0, cells := 0, slots := 0, locals := 0 }) D (cK cI cR cS cL) [.ref (ad 103), .int q] (cw ad cI cR cS mem) (fun r u => r = fCodeAt mem q ∧ u = mem) (cw ad cI cR cS) 0 0 := by
  refine zMiM.of (cc := cX4_codeAt) (maxL := 2) (ret := (some .int)) (by decide +kernel) rfl (lv0 := [(0, .ref (ad 103)), (1, .int q)]) (Nat.le_of_ble_eq_true rfl) rfl ?_
  intro p e s m args below meth c E hZ hr hlocks hnm
  refine z_iload_n E dX4_codeAt_0 rfl 1 rfl ?_
  refine z_if_lt (tgt := 27) E dX4_codeAt_1 (by decide) (fun c1 => ?_) (fun c1 => ?_)
  · skip
    refine z_iconst (v := 0) E dX4_codeAt_27 (by decide) ?_
    exact z_iretM E hr hlocks (mem) rfl ⟨(if_pos c1).symm, rfl⟩ (Nat.le_of_ble_eq_true rfl) (Nat.le_of_ble_eq_true rfl) dX4_codeAt_28
  · skip
    refine z_iload_n E dX4_codeAt_4 rfl 1 rfl ?_
    refine z_aload_n E dX4_codeAt_5 rfl 0 rfl ?_
    refine z_get E 103 cw_works (C := RX4) (T := TX4) (N := 4) rfl (fun _ h => List.mem_cons_of_mem _ (List.mem_append_right _ h)) 1 (by decide) (List.mem_of_getElem? (i := 1) (by decide +kernel)) rfl (v := .int (mem 103 1)) rfl dX4_codeAt_6 ?_
    refine z_icmp_ge (tgt := 27) E dX4_codeAt_9 (by decide) (fun c9 => ?_) (fun c9 => ?_)
    · skip
      refine z_iconst (v := 0) E dX4_codeAt_27 (by decide) ?_
      exact z_iretM E hr hlocks (mem) rfl ⟨((if_neg c1).trans (if_pos c9)).symm, rfl⟩ (Nat.le_of_ble_eq_true rfl) (Nat.le_of_ble_eq_true rfl) dX4_codeAt_28
    · skip
      refine z_iload_n E dX4_codeAt_12 rfl 1 rfl ?_
      refine z_bipush (v := 60) E dX4_codeAt_13 (by decide) ?_
      refine z_icmp_ge (tgt := 27) E dX4_codeAt_15 (by decide) (fun c15 => ?_) (fun c15 => ?_)
      · skip
        refine z_iconst (v := 0) E dX4_codeAt_27 (by decide) ?_
        exact z_iretM E hr hlocks (mem) rfl ⟨((if_neg c1).trans ((if_neg c9).trans (if_pos c15))).symm, rfl⟩ (Nat.le_of_ble_eq_true rfl) (Nat.le_of_ble_eq_true rfl) dX4_codeAt_28
      · skip
        refine z_aload_n E dX4_codeAt_18 rfl 0 rfl ?_
        refine z_get E 103 cw_works (C := RX4) (T := TX4) (N := 4) rfl (fun _ h => List.mem_cons_of_mem _ (List.mem_append_right _ h)) 0 (by decide) (List.mem_of_getElem? (i := 2) (by decide +kernel)) rfl (v := .ref (ad 104)) rfl dX4_codeAt_19 ?_
        refine z_iload_n E dX4_codeAt_22 rfl 1 rfl ?_
        refine z_iald E 104 0 cw_codes rfl (zvin60 c1 c15) (v := mem 104 q.toNatClampNeg) rfl dX4_codeAt_23 ?_
        refine z_goto (tgt := 28) E dX4_codeAt_24 (by decide) ?_
        exact z_iretM E hr hlocks (mem) rfl ⟨((if_neg c1).trans ((if_neg c9).trans (if_neg c15))).symm, rfl⟩ (Nat.le_of_ble_eq_true rfl) (Nat.le_of_ble_eq_true rfl) dX4_codeAt_28
set_option maxHeartbeats 4000000 in
set_option maxRecDepth 100000 in
theorem k_firstFault (l : Launch) (D : va_G) (ad : Nat → Nat) (cI cR cS cL : ClassId) (mem : zM) {L : Nat} (hL : L ≤ 60) (hlen : mem 103 1 = nI L) : zMi l yX4_firstFault wsX4_firstFault ({ frames := 3, cells := 0, slots := 0, locals := 67 }) D (cK cI cR cS cL) [.ref (ad 103)] (cw ad cI cR cS mem) (fun r u => ∃ k, pFF mem L k ∧ r = nI k ∧ u = sFF mem L k) (cw ad cI cR cS) 0 0 := by
  refine zMiM.of (cc := cX4_firstFault) (maxL := 2) (ret := (some .int)) (by decide +kernel) rfl (lv0 := [(0, .ref (ad 103))]) (Nat.le_of_ble_eq_true rfl) rfl ?_
  intro p e s m args below meth c E hZ hr hlocks hnm
  refine z_aload_n E dX4_firstFault_0 rfl 0 rfl ?_
  refine z_get E 103 cw_works (C := RX4) (T := TX4) (N := 4) rfl (fun _ h => List.mem_cons_of_mem _ (List.mem_append_left _ (List.mem_append_right _ h))) 3 (by decide) (List.mem_of_getElem? (i := 1) (by decide +kernel)) rfl (v := .ref (ad 105)) rfl dX4_firstFault_1 ?_
  refine z_callVv E hZ (k_startPart l D ad cI cR cS cL mem ) gX4_firstFault_X1_startPart (n := 0) rfl rfl rfl (by decide +kernel) rfl ⟨Nat.le_of_ble_eq_true rfl, Nat.le_of_ble_eq_true rfl⟩ (C := RX1) rfl 105 cw_read (As := []) (rest := []) rfl (Nat.le_of_ble_eq_true rfl) ⟨Nat.le_of_ble_eq_true rfl, Nat.le_of_ble_eq_true rfl⟩ dX4_firstFault_4 (fun u hp => ?_)
  rw [hp]
  refine z_gm (fun m67 hm67 => ?_)
  refine z_iconst (v := 0) E dX4_firstFault_7 (by decide) ?_
  refine z_istore_n (lv' := [(1, .int 0), (0, .ref (ad 103))]) E dX4_firstFault_8 rfl (by decide) rfl ?_
  refine z_loop (σ := Nat) (fun n k => k + n = L ∧ ∀ i, i < k → ¬ fTk (rdN (mem 104) (mem 105) i) (mem 104 i) = 0) (fun k => cw ad cI cR cS (mrow mem 105 (rdN (mem 104) (mem 105) k))) (fun k => [(1, .int (nI k)), (0, .ref (ad 103))]) 9 0 0 ?_ L 0 ⟨by omega, fun i h => absurd h (by omega)⟩ (by rw [hm67]; rfl) rfl rfl rfl rfl
  intro n k hI ih
  refine z_gm (fun m hm => ?_)
  have hl0 : m 103 1 = nI L := by rw [hm, mrow_ne _ _ (by decide)]; exact hlen
  have hcs : m 104 = mem 104 := by rw [hm, mrow_ne _ _ (by decide)]
  have hR : m 105 = rdN (mem 104) (mem 105) k := by rw [hm, mrow_at]
  refine z_iload_n E dX4_firstFault_9 rfl 0 rfl ?_
  refine z_aload_n E dX4_firstFault_10 rfl 1 rfl ?_
  refine z_get E 103 cw_works (C := RX4) (T := TX4) (N := 4) rfl (fun _ h => List.mem_cons_of_mem _ (List.mem_append_left _ (List.mem_append_right _ h))) 1 (by decide) (List.mem_of_getElem? (i := 2) (by decide +kernel)) rfl (v := .int (nI L)) (congrArg (fun z : Int32 => some (Value.int z)) hl0) dX4_firstFault_11 ?_
  refine z_icmp_ge (tgt := 40) E dX4_firstFault_14 (by decide) (fun c14 => ?_) (fun c14 => ?_)
  · skip
    refine z_aload_n E dX4_firstFault_40 rfl 1 rfl ?_
    refine z_get E 103 cw_works (C := RX4) (T := TX4) (N := 4) rfl (fun _ h => List.mem_cons_of_mem _ (List.mem_append_left _ (List.mem_append_right _ h))) 1 (by decide) (List.mem_of_getElem? (i := 2) (by decide +kernel)) rfl (v := .int (nI L)) (congrArg (fun z : Int32 => some (Value.int z)) hl0) dX4_firstFault_41 ?_
    exact z_iretM E hr hlocks (m) rfl ⟨k, ⟨by omega, hI.2, fun h => absurd h (by have := (nI_leI (by omega) (by omega)).mp c14; omega)⟩, congrArg nI (by have := (nI_leI (by omega) (by omega)).mp c14; omega), by rw [hm]; unfold sFF; rw [if_neg (by have := (nI_leI (by omega) (by omega)).mp c14; omega)]⟩ (Nat.le_of_ble_eq_true rfl) (Nat.le_of_ble_eq_true rfl) dX4_firstFault_44
  · skip
    have hkL : k < L := zklt (by omega) (by omega) c14
    refine z_aload_n E dX4_firstFault_17 rfl 1 rfl ?_
    refine z_get E 103 cw_works (C := RX4) (T := TX4) (N := 4) rfl (fun _ h => List.mem_cons_of_mem _ (List.mem_append_left _ (List.mem_append_right _ h))) 3 (by decide) (List.mem_of_getElem? (i := 1) (by decide +kernel)) rfl (v := .ref (ad 105)) rfl dX4_firstFault_18 ?_
    refine z_aload_n E dX4_firstFault_21 rfl 1 rfl ?_
    refine z_iload_n E dX4_firstFault_22 rfl 0 rfl ?_
    refine z_callVi E hZ (k_codeAt l D ad cI cR cS cL m (nI k)) gX4_firstFault_X4_codeAt (n := 1) rfl rfl rfl (by decide +kernel) rfl ⟨Nat.le_of_ble_eq_true rfl, Nat.le_of_ble_eq_true rfl⟩  (C := RX4) rfl 103 cw_works (As := [.int (nI k)]) (rest := [.ref (ad 105)]) rfl (Nat.le_of_ble_eq_true rfl) ⟨Nat.le_of_ble_eq_true rfl, Nat.le_of_ble_eq_true rfl⟩ dX4_firstFault_23 (fun r u hp => ?_)
    rw [hp.1, hp.2]
    rw [show fCodeAt m (nI k) = mem 104 k from (fCodeAt_of hL hl0 hkL).trans (congrFun hcs _)]
    refine z_callVi E hZ (k_takes l D ad cI cR cS cL m (mem 104 k)) gX4_firstFault_X1_takes (n := 1) rfl rfl rfl (by decide +kernel) rfl ⟨Nat.le_of_ble_eq_true rfl, Nat.le_of_ble_eq_true rfl⟩ (C := RX1) rfl 105 cw_read (As := [.int (mem 104 k)]) (rest := []) rfl (Nat.le_of_ble_eq_true rfl) ⟨Nat.le_of_ble_eq_true rfl, Nat.le_of_ble_eq_true rfl⟩ dX4_firstFault_26 (fun r u hp => ?_)
    rw [hp.1, hp.2, hR]
    refine z_gm (fun m68 hm68 => ?_)
    have xm68_0 : m68 103 1 = nI L := by rw [hm68, mrow_ne _ _ (by omega)]; exact hl0
    refine z_if_ne (tgt := 34) E dX4_firstFault_29 (by decide) (fun c29 => ?_) (fun c29 => ?_)
    · skip
      refine z_iinc (v := nI k + 1) (lv' := [(1, .int (nI k + 1)), (0, .ref (ad 103))]) E dX4_firstFault_34 (q := 0) rfl rfl (by decide) rfl ?_
      refine z_goto (tgt := 9) E dX4_firstFault_37 (by decide) ?_
      refine z_eq (ws' := cw ad cI cR cS (mrow mem 105 (rdN (mem 104) (mem 105) (k + 1)))) (lv' := [(1, .int (nI (k + 1))), (0, .ref (ad 103))]) (st' := []) (congrArg (cw ad cI cR cS) (by rw [hm68, hm, mrow_mrow]; rfl)) (by rw [← nI_1]) rfl ?_
      exact ih (n - 1) (k + 1) (by omega) ⟨by omega, fun i hi => by rcases Nat.lt_succ_iff_lt_or_eq.mp hi with q | q; exact hI.2 i q; rw [q]; exact c29⟩
    · skip
      refine z_iload_n E dX4_firstFault_32 rfl 0 rfl ?_
      exact z_iretM E hr hlocks (m68) rfl ⟨k, ⟨by omega, hI.2, fun _ => c29⟩, rfl, by rw [hm68, hm, mrow_mrow]; unfold sFF; rw [if_pos hkL]⟩ (Nat.le_of_ble_eq_true rfl) (Nat.le_of_ble_eq_true rfl) dX4_firstFault_33
set_option maxHeartbeats 4000000 in
set_option maxRecDepth 100000 in
theorem k_isWhole (l : Launch) (D : va_G) (ad : Nat → Nat) (cI cR cS cL : ClassId) (mem : zM) {L : Nat} (hL : L ≤ 60) (hlen : mem 103 1 = nI L) : zMi l yX4_isWhole wsX4_isWhole ({ frames := 4, cells := 0, slots := 0, locals := 88 }) D (cK cI cR cS cL) [.ref (ad 103)] (cw ad cI cR cS mem) (fun r u => ∃ k, pFF mem L k ∧ r = (if k < L then 0 else if fPW (rdN (mem 104) (mem 105) L) = 0 then 0 else 1) ∧ u = sFF mem L k) (cw ad cI cR cS) 0 0 := by
  refine zMiM.of (cc := cX4_isWhole) (maxL := 1) (ret := (some .boolean)) (by decide +kernel) rfl (lv0 := [(0, .ref (ad 103))]) (Nat.le_of_ble_eq_true rfl) rfl ?_
  intro p e s m args below meth c E hZ hr hlocks hnm
  refine z_aload_n E dX4_isWhole_0 rfl 0 rfl ?_
  refine z_callVi E hZ (k_firstFault l D ad cI cR cS cL mem hL hlen) gX4_isWhole_X4_firstFault (n := 0) rfl rfl rfl (by decide +kernel) rfl ⟨Nat.le_of_ble_eq_true rfl, Nat.le_of_ble_eq_true rfl⟩ (C := RX4) rfl 103 cw_works (As := []) (rest := []) rfl (Nat.le_of_ble_eq_true rfl) ⟨Nat.le_of_ble_eq_true rfl, Nat.le_of_ble_eq_true rfl⟩ dX4_isWhole_1 (fun r u hp => ?_)
  obtain ⟨k, hk, hr1, hu1⟩ := hp
  rw [hr1, hu1]
  refine z_gm (fun m69 hm69 => ?_)
  have xm69_0 : m69 103 1 = nI L := by rw [hm69]; unfold sFF; rw [mrow_ne _ _ (by decide)]; exact hlen
  refine z_aload_n E dX4_isWhole_4 rfl 0 rfl ?_
  refine z_get E 103 cw_works (C := RX4) (T := TX4) (N := 4) rfl (fun _ h => List.mem_cons_of_mem _ (List.mem_append_left _ (List.mem_append_right _ h))) 1 (by decide) (List.mem_of_getElem? (i := 1) (by decide +kernel)) rfl (v := .int (nI L)) (congrArg (fun z : Int32 => some (Value.int z)) xm69_0) dX4_isWhole_5 ?_
  refine z_icmp_ne (tgt := 25) E dX4_isWhole_8 (by decide) (fun c8 => ?_) (fun c8 => ?_)
  · skip
    refine z_iconst (v := 0) E dX4_isWhole_25 (by decide) ?_
    exact z_izretM E hr hlocks (m69) rfl rfl ⟨k, hk, (if_pos (by rcases Nat.lt_or_ge k L with q | q; exact q; exact absurd (congrArg nI (by have := hk.1; omega)) c8)).symm, hm69⟩ (Nat.le_of_ble_eq_true rfl) (Nat.le_of_ble_eq_true rfl) dX4_isWhole_26
  · skip
    refine z_aload_n E dX4_isWhole_11 rfl 0 rfl ?_
    refine z_get E 103 cw_works (C := RX4) (T := TX4) (N := 4) rfl (fun _ h => List.mem_cons_of_mem _ (List.mem_append_left _ (List.mem_append_right _ h))) 3 (by decide) (List.mem_of_getElem? (i := 2) (by decide +kernel)) rfl (v := .ref (ad 105)) rfl dX4_isWhole_12 ?_
    refine z_callVi E hZ (k_isPartWhole l D ad cI cR cS cL m69 ) gX4_isWhole_X1_isPartWhole (n := 0) rfl rfl rfl (by decide +kernel) rfl ⟨Nat.le_of_ble_eq_true rfl, Nat.le_of_ble_eq_true rfl⟩  (C := RX1) rfl 105 cw_read (As := []) (rest := []) rfl (Nat.le_of_ble_eq_true rfl) ⟨Nat.le_of_ble_eq_true rfl, Nat.le_of_ble_eq_true rfl⟩ dX4_isWhole_15 (fun r u hp => ?_)
    rw [hp.1, hp.2]
    refine z_if_eq (tgt := 25) E dX4_isWhole_18 (by decide) (fun c18 => ?_) (fun c18 => ?_)
    · skip
      refine z_iconst (v := 0) E dX4_isWhole_25 (by decide) ?_
      exact z_izretM E hr hlocks (m69) rfl rfl ⟨k, hk, ((if_neg (by have := (nI_eq (by have := hk.1; omega) (by omega)).mp c8; omega)).trans (if_pos ((show fPW (rdN (mem 104) (mem 105) L) = fPW (m69 105) by rw [hm69]; unfold sFF; rw [mrow_at, if_neg (by have := (nI_eq (by have := hk.1; omega) (by omega)).mp c8; omega), (nI_eq (by have := hk.1; omega) (by omega)).mp c8]).trans c18))).symm, hm69⟩ (Nat.le_of_ble_eq_true rfl) (Nat.le_of_ble_eq_true rfl) dX4_isWhole_26
    · skip
      refine z_iconst (v := 1) E dX4_isWhole_21 (by decide) ?_
      refine z_goto (tgt := 26) E dX4_isWhole_22 (by decide) ?_
      exact z_izretM E hr hlocks (m69) rfl rfl ⟨k, hk, ((if_neg (by have := (nI_eq (by have := hk.1; omega) (by omega)).mp c8; omega)).trans (if_neg (fun z => c18 ((show fPW (rdN (mem 104) (mem 105) L) = fPW (m69 105) by rw [hm69]; unfold sFF; rw [mrow_at, if_neg (by have := (nI_eq (by have := hk.1; omega) (by omega)).mp c8; omega), (nI_eq (by have := hk.1; omega) (by omega)).mp c8]).symm.trans z)))).symm, hm69⟩ (Nat.le_of_ble_eq_true rfl) (Nat.le_of_ble_eq_true rfl) dX4_isWhole_26
theorem mrow_mset (mem : zM) {i a : Nat} (k : Nat) (v : Int32) (r : Nat → Int32) (h : i ≠ a) : mrow (mset mem i k v) a r = mset (mrow mem a r) i k v := by
  funext x y
  by_cases q : x = a
  · subst q
    simp [mrow, mset, show ¬ x = i from fun z => h z.symm]
  · simp [mrow, mset, q]
set_option maxHeartbeats 4000000 in
set_option maxRecDepth 100000 in
theorem k_nextPart (l : Launch) (D : va_G) (ad : Nat → Nat) (cI cR cS cL : ClassId) (mem : zM) {L : Nat} (hL : L ≤ 60) (hlen : mem 103 1 = nI L) {q : Nat} (hq : q ≤ 60) (hcur : mem 103 2 = nI q) : zMi l yX4_nextPart wsX4_nextPart ({ frames := 3, cells := 0, slots := 0, locals := 67 }) D (cK cI cR cS cL) [.ref (ad 103)] (cw ad cI cR cS mem) (fun r u => (r = 0 ∧ L ≤ q ∧ u = mem) ∨ (r = 1 ∧ q < L ∧ ∃ n, pNP mem L q n u)) (cw ad cI cR cS) 0 0 := by
  refine zMiM.of (cc := cX4_nextPart) (maxL := 2) (ret := (some .boolean)) (by decide +kernel) rfl (lv0 := [(0, .ref (ad 103))]) (Nat.le_of_ble_eq_true rfl) rfl ?_
  intro p e s m args below meth c E hZ hr hlocks hnm
  refine z_aload_n E dX4_nextPart_0 rfl 0 rfl ?_
  refine z_get E 103 cw_works (C := RX4) (T := TX4) (N := 4) rfl (fun _ h => List.mem_cons_of_mem _ (List.mem_append_left _ (List.mem_append_right _ h))) 2 (by decide) (List.mem_of_getElem? (i := 1) (by decide +kernel)) rfl (v := .int (nI q)) (congrArg (fun z : Int32 => some (Value.int z)) hcur) dX4_nextPart_1 ?_
  refine z_aload_n E dX4_nextPart_4 rfl 0 rfl ?_
  refine z_get E 103 cw_works (C := RX4) (T := TX4) (N := 4) rfl (fun _ h => List.mem_cons_of_mem _ (List.mem_append_left _ (List.mem_append_right _ h))) 1 (by decide) (List.mem_of_getElem? (i := 2) (by decide +kernel)) rfl (v := .int (nI L)) (congrArg (fun z : Int32 => some (Value.int z)) hlen) dX4_nextPart_5 ?_
  refine z_icmp_lt (tgt := 13) E dX4_nextPart_8 (by decide) (fun c8 => ?_) (fun c8 => ?_)
  · skip
    refine z_aload_n E dX4_nextPart_13 rfl 0 rfl ?_
    refine z_get E 103 cw_works (C := RX4) (T := TX4) (N := 4) rfl (fun _ h => List.mem_cons_of_mem _ (List.mem_append_left _ (List.mem_append_right _ h))) 3 (by decide) (List.mem_of_getElem? (i := 3) (by decide +kernel)) rfl (v := .ref (ad 105)) rfl dX4_nextPart_14 ?_
    refine z_callVv E hZ (k_startPart l D ad cI cR cS cL mem ) gX4_nextPart_X1_startPart (n := 0) rfl rfl rfl (by decide +kernel) rfl ⟨Nat.le_of_ble_eq_true rfl, Nat.le_of_ble_eq_true rfl⟩ (C := RX1) rfl 105 cw_read (As := []) (rest := []) rfl (Nat.le_of_ble_eq_true rfl) ⟨Nat.le_of_ble_eq_true rfl, Nat.le_of_ble_eq_true rfl⟩ dX4_nextPart_17 (fun u hp => ?_)
    rw [hp]
    refine z_gm (fun m70 hm70 => ?_)
    have xm70_0 : m70 103 1 = nI L := by rw [hm70, mrow_ne _ _ (by omega)]; exact hlen
    have xm70_1 : m70 103 2 = nI q := by rw [hm70, mrow_ne _ _ (by omega)]; exact hcur
    have hqL : q < L := (nI_ltI (by omega) (by omega)).mp c8
    refine z_loop (σ := Nat) (fun N n => q + n + N = L ∧ ∀ i, i < n → ¬ mem 104 (q + i) = 59) (fun n => cw ad cI cR cS (mset (mrow mem 105 (rdS (mem 104) (mem 105) q n)) 103 2 (nI (q + n)))) (fun _ => [(0, .ref (ad 103))]) 20 0 0 ?_ (L - q) 0 ⟨by omega, fun i h => absurd h (by omega)⟩ (congrArg (cw ad cI cR cS) (by rw [hm70]; exact (mset_same (by rw [mrow_ne _ _ (by decide)]; exact hcur)).symm)) rfl rfl rfl rfl
    intro N n hI ih
    refine z_gm (fun m hm => ?_)
    have hl0 : m 103 1 = nI L := by rw [hm, mset_ne2 _ _ (by decide), mrow_ne _ _ (by decide)]; exact hlen
    have hc0 : m 103 2 = nI (q + n) := by rw [hm, mset_at]
    have hcs : m 104 = mem 104 := by rw [hm, mset_ne _ _ _ (by decide), mrow_ne _ _ (by decide)]
    have hR : m 105 = rdS (mem 104) (mem 105) q n := by rw [hm, mset_ne _ _ _ (by decide), mrow_at]
    refine z_aload_n E dX4_nextPart_20 rfl 0 rfl ?_
    refine z_get E 103 cw_works (C := RX4) (T := TX4) (N := 4) rfl (fun _ h => List.mem_cons_of_mem _ (List.mem_append_left _ (List.mem_append_right _ h))) 2 (by decide) (List.mem_of_getElem? (i := 1) (by decide +kernel)) rfl (v := .int (nI (q + n))) (congrArg (fun z : Int32 => some (Value.int z)) hc0) dX4_nextPart_21 ?_
    refine z_aload_n E dX4_nextPart_24 rfl 0 rfl ?_
    refine z_get E 103 cw_works (C := RX4) (T := TX4) (N := 4) rfl (fun _ h => List.mem_cons_of_mem _ (List.mem_append_left _ (List.mem_append_right _ h))) 1 (by decide) (List.mem_of_getElem? (i := 2) (by decide +kernel)) rfl (v := .int (nI L)) (congrArg (fun z : Int32 => some (Value.int z)) hl0) dX4_nextPart_25 ?_
    refine z_icmp_ge (tgt := 70) E dX4_nextPart_28 (by decide) (fun c28 => ?_) (fun c28 => ?_)
    · skip
      refine z_iconst (v := 1) E dX4_nextPart_70 (by decide) ?_
      exact z_izretM E hr hlocks (m) rfl rfl (Or.inr ⟨rfl, hqL, n, by omega, hI.2, Or.inr ⟨by have := (nI_leI (by omega) (by omega)).mp c28; omega, hm⟩⟩) (Nat.le_of_ble_eq_true rfl) (Nat.le_of_ble_eq_true rfl) dX4_nextPart_71
    · skip
      have hnL : q + n < L := zklt (by omega) (by omega) c28
      refine z_aload_n E dX4_nextPart_31 rfl 0 rfl ?_
      refine z_aload_n E dX4_nextPart_32 rfl 0 rfl ?_
      refine z_get E 103 cw_works (C := RX4) (T := TX4) (N := 4) rfl (fun _ h => List.mem_cons_of_mem _ (List.mem_append_left _ (List.mem_append_right _ h))) 2 (by decide) (List.mem_of_getElem? (i := 1) (by decide +kernel)) rfl (v := .int (nI (q + n))) (congrArg (fun z : Int32 => some (Value.int z)) hc0) dX4_nextPart_33 ?_
      refine z_callVi E hZ (k_codeAt l D ad cI cR cS cL m (nI (q + n))) gX4_nextPart_X4_codeAt (n := 1) rfl rfl rfl (by decide +kernel) rfl ⟨Nat.le_of_ble_eq_true rfl, Nat.le_of_ble_eq_true rfl⟩  (C := RX4) rfl 103 cw_works (As := [.int (nI (q + n))]) (rest := []) rfl (Nat.le_of_ble_eq_true rfl) ⟨Nat.le_of_ble_eq_true rfl, Nat.le_of_ble_eq_true rfl⟩ dX4_nextPart_36 (fun r u hp => ?_)
      rw [hp.1, hp.2]
      rw [show fCodeAt m (nI (q + n)) = mem 104 (q + n) from (fCodeAt_of hL hl0 hnL).trans (congrFun hcs _)]
      refine z_istore_n (lv' := [(1, .int (mem 104 (q + n))), (0, .ref (ad 103))]) E dX4_nextPart_39 rfl (by decide) rfl ?_
      refine z_aload_n E dX4_nextPart_40 rfl 1 rfl ?_
      refine z_dup E dX4_nextPart_41 rfl ?_
      refine z_get E 103 cw_works (C := RX4) (T := TX4) (N := 4) rfl (fun _ h => List.mem_cons_of_mem _ (List.mem_append_left _ (List.mem_append_right _ h))) 2 (by decide) (List.mem_of_getElem? (i := 1) (by decide +kernel)) rfl (v := .int (nI (q + n))) (congrArg (fun z : Int32 => some (Value.int z)) hc0) dX4_nextPart_42 ?_
      refine z_iconst (v := 1) E dX4_nextPart_45 (by decide) ?_
      refine z_iadd E dX4_nextPart_46 ?_
      refine z_put E 103 cw_works (C := RX4) (T := TX4) (N := 4) rfl (fun _ h => List.mem_cons_of_mem _ (List.mem_append_left _ (List.mem_append_right _ h))) tyX4 tyX4_ok nmX4 2 (by decide) (List.mem_of_getElem? (i := 1) (by decide +kernel)) rfl rfl rfl rfl (Nat.le_of_ble_eq_true rfl) (ws' := cw ad cI cR cS (mset m 103 2 ((nI (q + n)) + 1))) (cs_works 2 (by decide) (by decide) rfl) dX4_nextPart_47 ?_
      refine z_gm (fun m71 hm71 => ?_)
      have xm71_0 : m71 103 1 = nI L := by rw [hm71, mset_ne2 _ _ (by decide)]; exact hl0
      refine z_iload_n E dX4_nextPart_50 rfl 0 rfl ?_
      refine z_bipush (v := 59) E dX4_nextPart_51 (by decide) ?_
      refine z_icmp_ne (tgt := 58) E dX4_nextPart_53 (by decide) (fun c53 => ?_) (fun c53 => ?_)
      · skip
        refine z_aload_n E dX4_nextPart_58 rfl 1 rfl ?_
        refine z_get E 103 cw_works (C := RX4) (T := TX4) (N := 4) rfl (fun _ h => List.mem_cons_of_mem _ (List.mem_append_left _ (List.mem_append_right _ h))) 3 (by decide) (List.mem_of_getElem? (i := 3) (by decide +kernel)) rfl (v := .ref (ad 105)) rfl dX4_nextPart_59 ?_
        refine z_iload_n E dX4_nextPart_62 rfl 0 rfl ?_
        refine z_callVi E hZ (k_takes l D ad cI cR cS cL m71 (mem 104 (q + n))) gX4_nextPart_X1_takes (n := 1) rfl rfl rfl (by decide +kernel) rfl ⟨Nat.le_of_ble_eq_true rfl, Nat.le_of_ble_eq_true rfl⟩ (C := RX1) rfl 105 cw_read (As := [.int (mem 104 (q + n))]) (rest := []) rfl (Nat.le_of_ble_eq_true rfl) ⟨Nat.le_of_ble_eq_true rfl, Nat.le_of_ble_eq_true rfl⟩ dX4_nextPart_63 (fun r u hp => ?_)
        rw [hp.1, hp.2, (show m71 105 = rdS (mem 104) (mem 105) q n by rw [hm71, mset_ne _ _ _ (by decide)]; exact hR)]
        refine z_gm (fun m72 hm72 => ?_)
        have xm72_0 : m72 103 1 = nI L := by rw [hm72, mrow_ne _ _ (by omega)]; exact xm71_0
        refine z_pop E dX4_nextPart_66 rfl ?_
        refine z_goto (tgt := 20) E dX4_nextPart_67 (by decide) ?_
        refine z_lv [1] (lv' := [(0, .ref (ad 103))]) rfl ?_
        refine z_eq (ws' := cw ad cI cR cS (mset (mrow mem 105 (rdS (mem 104) (mem 105) q (n + 1))) 103 2 (nI (q + (n + 1))))) (lv' := [(0, .ref (ad 103))]) (st' := []) (congrArg (cw ad cI cR cS) (by rw [hm72, hm71, hm, mset_over, mrow_mset _ _ _ _ (by decide), mrow_mrow, nI_1]; rfl)) rfl rfl ?_
        exact ih (N - 1) (n + 1) (by omega) ⟨by omega, fun i hi => by rcases Nat.lt_succ_iff_lt_or_eq.mp hi with z | z; exact hI.2 i z; rw [z]; exact c53⟩
      · skip
        refine z_iconst (v := 1) E dX4_nextPart_56 (by decide) ?_
        exact z_izretM E hr hlocks (m71) rfl rfl (Or.inr ⟨rfl, hqL, n, by omega, hI.2, Or.inl ⟨hnL, c53, by rw [hm71, hm, mset_over, nI_1]⟩⟩) (Nat.le_of_ble_eq_true rfl) (Nat.le_of_ble_eq_true rfl) dX4_nextPart_57
  · skip
    refine z_iconst (v := 0) E dX4_nextPart_11 (by decide) ?_
    exact z_izretM E hr hlocks (mem) rfl rfl (Or.inl ⟨rfl, Nat.not_lt.mp (fun h => c8 ((nI_ltI (by omega) (by omega)).mpr h)), rfl⟩) (Nat.le_of_ble_eq_true rfl) (Nat.le_of_ble_eq_true rfl) dX4_nextPart_12
