/-! the law's own methods -/
theorem x_put {mem : zM} {q z : Nat} {x b h g : Int32} {E : String} {u : zM} (hS : sPut mem q z x b h g = (.inl E, u)) : E = "java/lang/IndexOutOfBoundsException" ∨ E = "java/lang/IllegalArgumentException" := by
  unfold sPut at hS
  repeat' split at hS
  all_goals (cases hS; try first | exact Or.inl rfl | exact Or.inr (rfl))
theorem x_kinds {mem : zM} {q z : Nat} {x b h : Int32} {E : String} {u : zM} (hS : sKinds mem q z x b h = (.inl E, u)) : E = "java/lang/IndexOutOfBoundsException" ∨ E = "java/lang/IllegalArgumentException" := by
  unfold sKinds at hS
  repeat' split at hS
  all_goals (cases hS; try first | exact Or.inl rfl | exact Or.inr (rfl))
theorem x_rope {mem : zM} {q z : Nat} {x b : Int32} {E : String} {u : zM} (hS : sRope mem q z x b = (.inl E, u)) : E = "java/lang/IndexOutOfBoundsException" ∨ E = "java/lang/IllegalArgumentException" := by
  unfold sRope at hS
  repeat' split at hS
  all_goals (cases hS; try first | exact Or.inl rfl | exact Or.inr (rfl))
theorem x_on {mem : zM} {q z : Nat} {x b : Int32} {E : String} {u : zM} (hS : sOn mem q z x b = (.inl E, u)) : E = "java/lang/IndexOutOfBoundsException" ∨ E = "java/lang/IllegalArgumentException" ∨ E = "java/lang/IllegalStateException" := by
  unfold sOn at hS
  repeat' split at hS
  all_goals (cases hS; try first | exact Or.inl rfl | exact Or.inr (Or.inl rfl) | exact Or.inr (Or.inr (rfl)))
theorem x_off {mem : zM} {q z : Nat} {x b : Int32} {E : String} {u : zM} (hS : sOff mem q z x b = (.inl E, u)) : E = "java/lang/IndexOutOfBoundsException" := by
  unfold sOff at hS
  repeat' split at hS
  all_goals (cases hS; try first | exact rfl)
theorem x_climb {mem : zM} {q z : Nat} {x b g : Int32} {E : String} {u : zM} (hS : sClimb mem q z x b g = (.inl E, u)) : E = "java/lang/IndexOutOfBoundsException" ∨ E = "java/lang/IllegalArgumentException" := by
  unfold sClimb at hS
  repeat' split at hS
  all_goals (cases hS; try first | exact Or.inl rfl | exact Or.inr (rfl))
theorem x_append {mem : zM} {x : Int32} {E : String} {u : zM} (hS : sAppend mem x = (.inl E, u)) : E = "java/lang/IllegalArgumentException" ∨ E = "java/lang/IllegalStateException" := by
  unfold sAppend at hS
  repeat' split at hS
  all_goals (cases hS; try first | exact Or.inl rfl | exact Or.inr (rfl))
theorem x_undo {mem : zM} {q z : Nat} {E : String} {u : zM} (hS : sUndo mem q z = (.inl E, u)) : E = "java/lang/IllegalStateException" := by
  unfold sUndo at hS
  repeat' split at hS
  all_goals (cases hS; try first | exact rfl)
theorem x_ladder {mem : zM} {x g : Int32} {E : String} {u : zM} (hS : sLadder mem x g = (.inl E, u)) : E = "java/lang/IndexOutOfBoundsException" ∨ E = "java/lang/IllegalArgumentException" := by
  unfold sLadder at hS
  by_cases c0 : x < 0 ∨ 4 ≤ x
  · rw [if_pos c0] at hS; cases hS; exact Or.inl rfl
  rw [if_neg c0] at hS
  by_cases c1 : g = 0
  · rw [if_pos c1] at hS; cases hS
  rw [if_neg c1] at hS
  by_cases c2 : g = 1
  · rw [if_pos c2] at hS; cases hS
  rw [if_neg c2] at hS
  by_cases c3 : g = 2
  · rw [if_pos c3] at hS; cases hS
  rw [if_neg c3] at hS
  by_cases c4 : g = 3
  · rw [if_pos c4] at hS; cases hS
  rw [if_neg c4] at hS
  by_cases c5 : g = 4
  · rw [if_pos c5] at hS; cases hS
  rw [if_neg c5] at hS
  by_cases c6 : g = 5
  · rw [if_pos c6] at hS; cases hS
  rw [if_neg c6] at hS
  by_cases c7 : g = 6
  · rw [if_pos c7] at hS; cases hS
  rw [if_neg c7] at hS
  by_cases c8 : g = 7
  · rw [if_pos c8] at hS; cases hS
  rw [if_neg c8] at hS
  by_cases c9 : g = 8
  · rw [if_pos c9] at hS; cases hS
  rw [if_neg c9] at hS
  by_cases c10 : g = 9
  · rw [if_pos c10] at hS; cases hS
  rw [if_neg c10] at hS
  by_cases c11 : g = 10
  · rw [if_pos c11] at hS; cases hS
  rw [if_neg c11] at hS
  cases hS; exact Or.inr rfl
theorem x_person {mem : zM} {x b g : Int32} {E : String} {u : zM} (hS : sPerson mem x b g = (.inl E, u)) : E = "java/lang/IndexOutOfBoundsException" ∨ E = "java/lang/IllegalArgumentException" := by
  unfold sPerson at hS
  repeat' split at hS
  all_goals (cases hS; try first | exact Or.inl rfl | exact Or.inr (rfl))
theorem x_force {mem : zM} {x g : Int32} {E : String} {u : zM} (hS : sForce mem x g = (.inl E, u)) : E = "java/lang/IndexOutOfBoundsException" ∨ E = "java/lang/IllegalArgumentException" := by
  unfold sForce at hS
  repeat' split at hS
  all_goals (cases hS; try first | exact Or.inl rfl | exact Or.inr (rfl))
theorem x_held {mem : zM} {x g : Int32} {E : String} {u : zM} (hS : sHeld mem x g = (.inl E, u)) : E = "java/lang/IndexOutOfBoundsException" ∨ E = "java/lang/IllegalArgumentException" := by
  unfold sHeld at hS
  repeat' split at hS
  all_goals (cases hS; try first | exact Or.inl rfl | exact Or.inr (rfl))
theorem x_count {mem : zM} {x : Int32} {E : String} {u : zM} (hS : sCount mem x = (.inl E, u)) : E = "java/lang/IllegalArgumentException" := by
  unfold sCount at hS
  repeat' split at hS
  all_goals (cases hS; try first | exact rfl)
theorem x_highest {mem : zM} {x b : Int32} {E : String} (hS : sHigh mem x b = .inl E) : E = "java/lang/IndexOutOfBoundsException" := by
  unfold sHigh at hS
  repeat' split at hS
  all_goals (cases hS; try first | exact rfl)
theorem x_neededRope {mem : zM} {x : Int32} {E : String} (hS : sNeeded mem x = .inl E) : E = "java/lang/IndexOutOfBoundsException" := by
  unfold sNeeded at hS
  repeat' split at hS
  all_goals (cases hS; try first | exact rfl)
theorem x_bestBase {mem : zM} {x : Int32} {E : String} (hS : sBest mem x = .inl E) : E = "java/lang/IndexOutOfBoundsException" := by
  unfold sBest at hS
  repeat' split at hS
  all_goals (cases hS; try first | exact rfl)
theorem x_riskiest {mem : zM} {x : Int32} {E : String} (hS : sRisk mem x = .inl E) : E = "java/lang/IndexOutOfBoundsException" := by
  unfold sRisk at hS
  repeat' split at hS
  all_goals (cases hS; try first | exact rfl)
theorem x_walls {mem : zM} {x : Int32} {E : String} (hS : sWalls mem x = .inl E) : E = "java/lang/IndexOutOfBoundsException" := by
  unfold sWalls at hS
  repeat' split at hS
  all_goals (cases hS; try first | exact rfl)
set_option maxHeartbeats 1000000 in
set_option maxRecDepth 100000 in
theorem w_put (l : Launch) (D : va_G) (ad : Nat → Nat) (cI cR cS cL : ClassId) (mem : zM) (hl : l.stackTraces = false) (o : Nat) (f : Nat → Int64) (x b h g : Int32) {q : Nat} (hq : q < 6) (hn : mem 101 1 = nI q) {z : Nat} (hz : z ≤ 6) (hs : mem 101 2 = nI z) : zMT l yL_put wsL_put ({ frames := 8, cells := 1, slots := 6, locals := 137 }) D (cK cI cR cS cL) [.ref (ad 106), .int x, .int b, .int h, .int g, .ref o] (cw ad cI cR cS mem ++ [oE cL o f]) (pWr cdL (sPut mem q z x b h g)) (fun u : zM × (Nat → Int64) => cw ad cI cR cS u.1 ++ [oE cL o u.2]) 1 6 := by
  refine zMT.of (cc := cL_put) (maxL := 7) (ret := (some .int)) (hh := [(0, 14, 17, 13), (0, 14, 21, 15)]) (by decide +kernel) rfl (lv0 := [(0, .ref (ad 106)), (1, .int x), (2, .int b), (3, .int h), (4, .int g), (5, .ref o)]) (Nat.le_of_ble_eq_true rfl) rfl ?_
  intro p e s m args below meth c E hZ hN hr hlocks htab
  refine z_aload E dL_put_0 5 rfl ?_
  refine z_iconst (v := 0) E dL_put_2 (by decide) ?_
  refine z_aload_n E dL_put_3 rfl 0 rfl ?_
  refine z_iload_n E dL_put_4 rfl 1 rfl ?_
  refine z_iload_n E dL_put_5 rfl 2 rfl ?_
  refine z_iload_n E dL_put_6 rfl 3 rfl ?_
  refine z_iload E dL_put_7 4 rfl ?_
  refine z_callViX E hZ ((k_put l D ad cI cR cS cL mem (c0 := 1) (s0 := 6) hl x b h g hq hn hz hs (fun _ _ _ => ⟨Nat.le_refl 1, Nat.le_refl 6⟩)).fr [] [oE cL o f]) gL_put_X5_put (n := 4) rfl rfl rfl (by decide +kernel) rfl ⟨(Nat.le_of_ble_eq_true rfl), (Nat.le_of_ble_eq_true rfl)⟩ (C := RX5) rfl 106 ow_lad (As := [.int x, .int b, .int h, .int g]) (rest := [.int 0, .ref o]) rfl (Nat.le_of_ble_eq_true rfl) ⟨(Nat.le_of_ble_eq_true rfl), (Nat.le_of_ble_eq_true rfl)⟩ dL_put_9 (fun E0 u0 q9 ce H locs ls hpx hP hD hS hl1 h1 h2 h3q => ?_) (fun r u hp => ?_)
  · skip
    rcases x_put hpx with rfl | rfl
    · skip
      refine z_catch E htab (name := "java/lang/IndexOutOfBoundsException") [] (⟨0, 14, 17, 13⟩ : ExceptionTableEntry) [(⟨0, 14, 21, 15⟩ : ExceptionTableEntry)] rfl (fun z hz => absurd hz List.not_mem_nil) (by decide) (by decide) (List.mem_of_getElem? (i := 1) (by decide +kernel)) (hZ.2.2.2.2.2.2.2.2.2.2.2.2.2.2.2.2.2.2.2.2 _ (List.mem_of_getElem? (i := 0) rfl)) hP hD hS hl1 h1 h2 h3q ?_
      refine z_eq (ws' := cw ad cI cR cS u0 ++ [oE cL o f]) (lv' := [(0, .ref (ad 106)), (1, .int x), (2, .int b), (3, .int h), (4, .int g), (5, .ref o)]) (st' := [.ref q9]) rfl rfl rfl ?_
      refine z_astore (lv' := [(6, .ref q9), (0, .ref (ad 106)), (1, .int x), (2, .int b), (3, .int h), (4, .int g), (5, .ref o)]) E dL_put_17 (by decide) rfl ?_
      refine z_iconst (v := 1) E dL_put_19 (by decide) ?_
      exact z_iretM E hr hlocks (u0, f) rfl (Or.inl ⟨_, hpx, rfl⟩) (Nat.le_of_ble_eq_true rfl) (Nat.le_of_ble_eq_true rfl) dL_put_20
    · skip
      refine z_catch E htab (name := "java/lang/IllegalArgumentException") [(⟨0, 14, 17, 13⟩ : ExceptionTableEntry)] (⟨0, 14, 21, 15⟩ : ExceptionTableEntry) [] rfl (List.forall_mem_cons.mpr ⟨⟨by decide, "java/lang/IndexOutOfBoundsException", (List.mem_of_getElem? (i := 1) (by decide +kernel)), hN.1⟩, (fun _ h => absurd h List.not_mem_nil)⟩) (by decide) (by decide) (List.mem_of_getElem? (i := 2) (by decide +kernel)) (hZ.2.2.2.2.2.2.2.2.2.2.2.2.2.2.2.2.2.2.2.2 _ (List.mem_of_getElem? (i := 1) rfl)) hP hD hS hl1 h1 h2 h3q ?_
      refine z_eq (ws' := cw ad cI cR cS u0 ++ [oE cL o f]) (lv' := [(0, .ref (ad 106)), (1, .int x), (2, .int b), (3, .int h), (4, .int g), (5, .ref o)]) (st' := [.ref q9]) rfl rfl rfl ?_
      refine z_astore (lv' := [(6, .ref q9), (0, .ref (ad 106)), (1, .int x), (2, .int b), (3, .int h), (4, .int g), (5, .ref o)]) E dL_put_21 (by decide) rfl ?_
      refine z_iconst (v := 2) E dL_put_23 (by decide) ?_
      exact z_iretM E hr hlocks (u0, f) rfl (Or.inl ⟨_, hpx, rfl⟩) (Nat.le_of_ble_eq_true rfl) (Nat.le_of_ble_eq_true rfl) dL_put_24
  · skip
    refine z_eq (ws' := cw ad cI cR cS u ++ [oE cL o f]) (lv' := [(0, .ref (ad 106)), (1, .int x), (2, .int b), (3, .int h), (4, .int g), (5, .ref o)]) (st' := [.int r, .int 0, .ref o]) rfl rfl rfl ?_
    refine z_i2l (v := r.toInt64) E dL_put_12 rfl ?_
    refine z_last E 107 3 (f := f) ow_at rfl (zvin rfl) (ws' := cw ad cI cR cS u ++ [oE cL o (vp_updL f 0 r.toInt64)]) (ow_set (y := oE cL o (vp_updL f 0 r.toInt64))) dL_put_13 ?_
    refine z_goto (tgt := 25) E dL_put_14 (by decide) ?_
    refine z_iconst (v := 0) E dL_put_25 (by decide) ?_
    exact z_iretM E hr hlocks (u, vp_updL f 0 r.toInt64) rfl (Or.inr ⟨r, hp, rfl, rfl⟩) (Nat.le_of_ble_eq_true rfl) (Nat.le_of_ble_eq_true rfl) dL_put_26
set_option maxHeartbeats 1000000 in
set_option maxRecDepth 100000 in
theorem w_kinds (l : Launch) (D : va_G) (ad : Nat → Nat) (cI cR cS cL : ClassId) (mem : zM) (hl : l.stackTraces = false) (o : Nat) (f : Nat → Int64) (x b h : Int32) {q : Nat} (hq : q < 6) (hn : mem 101 1 = nI q) {z : Nat} (hz : z ≤ 6) (hs : mem 101 2 = nI z) : zMT l yL_kinds wsL_kinds ({ frames := 8, cells := 1, slots := 6, locals := 136 }) D (cK cI cR cS cL) [.ref (ad 106), .int x, .int b, .int h, .ref o] (cw ad cI cR cS mem ++ [oE cL o f]) (pWr cdL (sKinds mem q z x b h)) (fun u : zM × (Nat → Int64) => cw ad cI cR cS u.1 ++ [oE cL o u.2]) 1 6 := by
  refine zMT.of (cc := cL_kinds) (maxL := 6) (ret := (some .int)) (hh := [(0, 12, 15, 13), (0, 12, 19, 15)]) (by decide +kernel) rfl (lv0 := [(0, .ref (ad 106)), (1, .int x), (2, .int b), (3, .int h), (4, .ref o)]) (Nat.le_of_ble_eq_true rfl) rfl ?_
  intro p e s m args below meth c E hZ hN hr hlocks htab
  refine z_aload E dL_kinds_0 4 rfl ?_
  refine z_iconst (v := 0) E dL_kinds_2 (by decide) ?_
  refine z_aload_n E dL_kinds_3 rfl 0 rfl ?_
  refine z_iload_n E dL_kinds_4 rfl 1 rfl ?_
  refine z_iload_n E dL_kinds_5 rfl 2 rfl ?_
  refine z_iload_n E dL_kinds_6 rfl 3 rfl ?_
  refine z_callViX E hZ ((k_kinds l D ad cI cR cS cL mem (c0 := 1) (s0 := 6) hl x b h hq hn hz hs (fun _ _ _ => ⟨Nat.le_refl 1, Nat.le_refl 6⟩)).fr [] [oE cL o f]) gL_kinds_X5_kinds (n := 3) rfl rfl rfl (by decide +kernel) rfl ⟨(Nat.le_of_ble_eq_true rfl), (Nat.le_of_ble_eq_true rfl)⟩ (C := RX5) rfl 106 ow_lad (As := [.int x, .int b, .int h]) (rest := [.int 0, .ref o]) rfl (Nat.le_of_ble_eq_true rfl) ⟨(Nat.le_of_ble_eq_true rfl), (Nat.le_of_ble_eq_true rfl)⟩ dL_kinds_7 (fun E0 u0 q9 ce H locs ls hpx hP hD hS hl1 h1 h2 h3q => ?_) (fun r u hp => ?_)
  · skip
    rcases x_kinds hpx with rfl | rfl
    · skip
      refine z_catch E htab (name := "java/lang/IndexOutOfBoundsException") [] (⟨0, 12, 15, 13⟩ : ExceptionTableEntry) [(⟨0, 12, 19, 15⟩ : ExceptionTableEntry)] rfl (fun z hz => absurd hz List.not_mem_nil) (by decide) (by decide) (List.mem_of_getElem? (i := 1) (by decide +kernel)) (hZ.2.2.2.2.2.2.2.2.2.2.2.2.2.2.2.2.2.2.2.2 _ (List.mem_of_getElem? (i := 0) rfl)) hP hD hS hl1 h1 h2 h3q ?_
      refine z_eq (ws' := cw ad cI cR cS u0 ++ [oE cL o f]) (lv' := [(0, .ref (ad 106)), (1, .int x), (2, .int b), (3, .int h), (4, .ref o)]) (st' := [.ref q9]) rfl rfl rfl ?_
      refine z_astore (lv' := [(5, .ref q9), (0, .ref (ad 106)), (1, .int x), (2, .int b), (3, .int h), (4, .ref o)]) E dL_kinds_15 (by decide) rfl ?_
      refine z_iconst (v := 1) E dL_kinds_17 (by decide) ?_
      exact z_iretM E hr hlocks (u0, f) rfl (Or.inl ⟨_, hpx, rfl⟩) (Nat.le_of_ble_eq_true rfl) (Nat.le_of_ble_eq_true rfl) dL_kinds_18
    · skip
      refine z_catch E htab (name := "java/lang/IllegalArgumentException") [(⟨0, 12, 15, 13⟩ : ExceptionTableEntry)] (⟨0, 12, 19, 15⟩ : ExceptionTableEntry) [] rfl (List.forall_mem_cons.mpr ⟨⟨by decide, "java/lang/IndexOutOfBoundsException", (List.mem_of_getElem? (i := 1) (by decide +kernel)), hN.1⟩, (fun _ h => absurd h List.not_mem_nil)⟩) (by decide) (by decide) (List.mem_of_getElem? (i := 2) (by decide +kernel)) (hZ.2.2.2.2.2.2.2.2.2.2.2.2.2.2.2.2.2.2.2.2 _ (List.mem_of_getElem? (i := 1) rfl)) hP hD hS hl1 h1 h2 h3q ?_
      refine z_eq (ws' := cw ad cI cR cS u0 ++ [oE cL o f]) (lv' := [(0, .ref (ad 106)), (1, .int x), (2, .int b), (3, .int h), (4, .ref o)]) (st' := [.ref q9]) rfl rfl rfl ?_
      refine z_astore (lv' := [(5, .ref q9), (0, .ref (ad 106)), (1, .int x), (2, .int b), (3, .int h), (4, .ref o)]) E dL_kinds_19 (by decide) rfl ?_
      refine z_iconst (v := 2) E dL_kinds_21 (by decide) ?_
      exact z_iretM E hr hlocks (u0, f) rfl (Or.inl ⟨_, hpx, rfl⟩) (Nat.le_of_ble_eq_true rfl) (Nat.le_of_ble_eq_true rfl) dL_kinds_22
  · skip
    refine z_eq (ws' := cw ad cI cR cS u ++ [oE cL o f]) (lv' := [(0, .ref (ad 106)), (1, .int x), (2, .int b), (3, .int h), (4, .ref o)]) (st' := [.int r, .int 0, .ref o]) rfl rfl rfl ?_
    refine z_i2l (v := r.toInt64) E dL_kinds_10 rfl ?_
    refine z_last E 107 3 (f := f) ow_at rfl (zvin rfl) (ws' := cw ad cI cR cS u ++ [oE cL o (vp_updL f 0 r.toInt64)]) (ow_set (y := oE cL o (vp_updL f 0 r.toInt64))) dL_kinds_11 ?_
    refine z_goto (tgt := 23) E dL_kinds_12 (by decide) ?_
    refine z_iconst (v := 0) E dL_kinds_23 (by decide) ?_
    exact z_iretM E hr hlocks (u, vp_updL f 0 r.toInt64) rfl (Or.inr ⟨r, hp, rfl, rfl⟩) (Nat.le_of_ble_eq_true rfl) (Nat.le_of_ble_eq_true rfl) dL_kinds_24
set_option maxHeartbeats 1000000 in
set_option maxRecDepth 100000 in
theorem w_rope (l : Launch) (D : va_G) (ad : Nat → Nat) (cI cR cS cL : ClassId) (mem : zM) (hl : l.stackTraces = false) (o : Nat) (f : Nat → Int64) (x b : Int32) {q : Nat} (hq : q < 6) (hn : mem 101 1 = nI q) {z : Nat} (hz : z ≤ 6) (hs : mem 101 2 = nI z) : zMT l yL_rope wsL_rope ({ frames := 8, cells := 1, slots := 6, locals := 135 }) D (cK cI cR cS cL) [.ref (ad 106), .int x, .int b, .ref o] (cw ad cI cR cS mem ++ [oE cL o f]) (pWr cdL (sRope mem q z x b)) (fun u : zM × (Nat → Int64) => cw ad cI cR cS u.1 ++ [oE cL o u.2]) 1 6 := by
  refine zMT.of (cc := cL_rope) (maxL := 5) (ret := (some .int)) (hh := [(0, 10, 13, 13), (0, 10, 17, 15)]) (by decide +kernel) rfl (lv0 := [(0, .ref (ad 106)), (1, .int x), (2, .int b), (3, .ref o)]) (Nat.le_of_ble_eq_true rfl) rfl ?_
  intro p e s m args below meth c E hZ hN hr hlocks htab
  refine z_aload_n E dL_rope_0 rfl 3 rfl ?_
  refine z_iconst (v := 0) E dL_rope_1 (by decide) ?_
  refine z_aload_n E dL_rope_2 rfl 0 rfl ?_
  refine z_iload_n E dL_rope_3 rfl 1 rfl ?_
  refine z_iload_n E dL_rope_4 rfl 2 rfl ?_
  refine z_callViX E hZ ((k_rope l D ad cI cR cS cL mem (c0 := 1) (s0 := 6) hl x b hq hn hz hs (fun _ _ _ => ⟨Nat.le_refl 1, Nat.le_refl 6⟩)).fr [] [oE cL o f]) gL_rope_X5_rope (n := 2) rfl rfl rfl (by decide +kernel) rfl ⟨(Nat.le_of_ble_eq_true rfl), (Nat.le_of_ble_eq_true rfl)⟩ (C := RX5) rfl 106 ow_lad (As := [.int x, .int b]) (rest := [.int 0, .ref o]) rfl (Nat.le_of_ble_eq_true rfl) ⟨(Nat.le_of_ble_eq_true rfl), (Nat.le_of_ble_eq_true rfl)⟩ dL_rope_5 (fun E0 u0 q9 ce H locs ls hpx hP hD hS hl1 h1 h2 h3q => ?_) (fun r u hp => ?_)
  · skip
    rcases x_rope hpx with rfl | rfl
    · skip
      refine z_catch E htab (name := "java/lang/IndexOutOfBoundsException") [] (⟨0, 10, 13, 13⟩ : ExceptionTableEntry) [(⟨0, 10, 17, 15⟩ : ExceptionTableEntry)] rfl (fun z hz => absurd hz List.not_mem_nil) (by decide) (by decide) (List.mem_of_getElem? (i := 1) (by decide +kernel)) (hZ.2.2.2.2.2.2.2.2.2.2.2.2.2.2.2.2.2.2.2.2 _ (List.mem_of_getElem? (i := 0) rfl)) hP hD hS hl1 h1 h2 h3q ?_
      refine z_eq (ws' := cw ad cI cR cS u0 ++ [oE cL o f]) (lv' := [(0, .ref (ad 106)), (1, .int x), (2, .int b), (3, .ref o)]) (st' := [.ref q9]) rfl rfl rfl ?_
      refine z_astore (lv' := [(4, .ref q9), (0, .ref (ad 106)), (1, .int x), (2, .int b), (3, .ref o)]) E dL_rope_13 (by decide) rfl ?_
      refine z_iconst (v := 1) E dL_rope_15 (by decide) ?_
      exact z_iretM E hr hlocks (u0, f) rfl (Or.inl ⟨_, hpx, rfl⟩) (Nat.le_of_ble_eq_true rfl) (Nat.le_of_ble_eq_true rfl) dL_rope_16
    · skip
      refine z_catch E htab (name := "java/lang/IllegalArgumentException") [(⟨0, 10, 13, 13⟩ : ExceptionTableEntry)] (⟨0, 10, 17, 15⟩ : ExceptionTableEntry) [] rfl (List.forall_mem_cons.mpr ⟨⟨by decide, "java/lang/IndexOutOfBoundsException", (List.mem_of_getElem? (i := 1) (by decide +kernel)), hN.1⟩, (fun _ h => absurd h List.not_mem_nil)⟩) (by decide) (by decide) (List.mem_of_getElem? (i := 2) (by decide +kernel)) (hZ.2.2.2.2.2.2.2.2.2.2.2.2.2.2.2.2.2.2.2.2 _ (List.mem_of_getElem? (i := 1) rfl)) hP hD hS hl1 h1 h2 h3q ?_
      refine z_eq (ws' := cw ad cI cR cS u0 ++ [oE cL o f]) (lv' := [(0, .ref (ad 106)), (1, .int x), (2, .int b), (3, .ref o)]) (st' := [.ref q9]) rfl rfl rfl ?_
      refine z_astore (lv' := [(4, .ref q9), (0, .ref (ad 106)), (1, .int x), (2, .int b), (3, .ref o)]) E dL_rope_17 (by decide) rfl ?_
      refine z_iconst (v := 2) E dL_rope_19 (by decide) ?_
      exact z_iretM E hr hlocks (u0, f) rfl (Or.inl ⟨_, hpx, rfl⟩) (Nat.le_of_ble_eq_true rfl) (Nat.le_of_ble_eq_true rfl) dL_rope_20
  · skip
    refine z_eq (ws' := cw ad cI cR cS u ++ [oE cL o f]) (lv' := [(0, .ref (ad 106)), (1, .int x), (2, .int b), (3, .ref o)]) (st' := [.int r, .int 0, .ref o]) rfl rfl rfl ?_
    refine z_i2l (v := r.toInt64) E dL_rope_8 rfl ?_
    refine z_last E 107 3 (f := f) ow_at rfl (zvin rfl) (ws' := cw ad cI cR cS u ++ [oE cL o (vp_updL f 0 r.toInt64)]) (ow_set (y := oE cL o (vp_updL f 0 r.toInt64))) dL_rope_9 ?_
    refine z_goto (tgt := 21) E dL_rope_10 (by decide) ?_
    refine z_iconst (v := 0) E dL_rope_21 (by decide) ?_
    exact z_iretM E hr hlocks (u, vp_updL f 0 r.toInt64) rfl (Or.inr ⟨r, hp, rfl, rfl⟩) (Nat.le_of_ble_eq_true rfl) (Nat.le_of_ble_eq_true rfl) dL_rope_22
set_option maxHeartbeats 1000000 in
set_option maxRecDepth 100000 in
theorem w_on (l : Launch) (D : va_G) (ad : Nat → Nat) (cI cR cS cL : ClassId) (mem : zM) (hl : l.stackTraces = false) (o : Nat) (f : Nat → Int64) (x b : Int32) {q : Nat} (hq : q < 6) (hn : mem 101 1 = nI q) {z : Nat} (hz : z ≤ 6) (hs : mem 101 2 = nI z) : zMT l yL_on wsL_on ({ frames := 8, cells := 1, slots := 6, locals := 135 }) D (cK cI cR cS cL) [.ref (ad 106), .int x, .int b, .ref o] (cw ad cI cR cS mem ++ [oE cL o f]) (pWr cdL (sOn mem q z x b)) (fun u : zM × (Nat → Int64) => cw ad cI cR cS u.1 ++ [oE cL o u.2]) 1 6 := by
  refine zMT.of (cc := cL_on) (maxL := 5) (ret := (some .int)) (hh := [(0, 10, 13, 13), (0, 10, 17, 15), (0, 10, 21, 28)]) (by decide +kernel) rfl (lv0 := [(0, .ref (ad 106)), (1, .int x), (2, .int b), (3, .ref o)]) (Nat.le_of_ble_eq_true rfl) rfl ?_
  intro p e s m args below meth c E hZ hN hr hlocks htab
  refine z_aload_n E dL_on_0 rfl 3 rfl ?_
  refine z_iconst (v := 0) E dL_on_1 (by decide) ?_
  refine z_aload_n E dL_on_2 rfl 0 rfl ?_
  refine z_iload_n E dL_on_3 rfl 1 rfl ?_
  refine z_iload_n E dL_on_4 rfl 2 rfl ?_
  refine z_callViX E hZ ((k_on l D ad cI cR cS cL mem (c0 := 1) (s0 := 6) hl x b hq hn hz hs (fun _ _ _ => ⟨Nat.le_refl 1, Nat.le_refl 6⟩)).fr [] [oE cL o f]) gL_on_X5_on (n := 2) rfl rfl rfl (by decide +kernel) rfl ⟨(Nat.le_of_ble_eq_true rfl), (Nat.le_of_ble_eq_true rfl)⟩ (C := RX5) rfl 106 ow_lad (As := [.int x, .int b]) (rest := [.int 0, .ref o]) rfl (Nat.le_of_ble_eq_true rfl) ⟨(Nat.le_of_ble_eq_true rfl), (Nat.le_of_ble_eq_true rfl)⟩ dL_on_5 (fun E0 u0 q9 ce H locs ls hpx hP hD hS hl1 h1 h2 h3q => ?_) (fun r u hp => ?_)
  · skip
    rcases x_on hpx with rfl | rfl | rfl
    · skip
      refine z_catch E htab (name := "java/lang/IndexOutOfBoundsException") [] (⟨0, 10, 13, 13⟩ : ExceptionTableEntry) [(⟨0, 10, 17, 15⟩ : ExceptionTableEntry), (⟨0, 10, 21, 28⟩ : ExceptionTableEntry)] rfl (fun z hz => absurd hz List.not_mem_nil) (by decide) (by decide) (List.mem_of_getElem? (i := 1) (by decide +kernel)) (hZ.2.2.2.2.2.2.2.2.2.2.2.2.2.2.2.2.2.2.2.2 _ (List.mem_of_getElem? (i := 0) rfl)) hP hD hS hl1 h1 h2 h3q ?_
      refine z_eq (ws' := cw ad cI cR cS u0 ++ [oE cL o f]) (lv' := [(0, .ref (ad 106)), (1, .int x), (2, .int b), (3, .ref o)]) (st' := [.ref q9]) rfl rfl rfl ?_
      refine z_astore (lv' := [(4, .ref q9), (0, .ref (ad 106)), (1, .int x), (2, .int b), (3, .ref o)]) E dL_on_13 (by decide) rfl ?_
      refine z_iconst (v := 1) E dL_on_15 (by decide) ?_
      exact z_iretM E hr hlocks (u0, f) rfl (Or.inl ⟨_, hpx, rfl⟩) (Nat.le_of_ble_eq_true rfl) (Nat.le_of_ble_eq_true rfl) dL_on_16
    · skip
      refine z_catch E htab (name := "java/lang/IllegalArgumentException") [(⟨0, 10, 13, 13⟩ : ExceptionTableEntry)] (⟨0, 10, 17, 15⟩ : ExceptionTableEntry) [(⟨0, 10, 21, 28⟩ : ExceptionTableEntry)] rfl (List.forall_mem_cons.mpr ⟨⟨by decide, "java/lang/IndexOutOfBoundsException", (List.mem_of_getElem? (i := 1) (by decide +kernel)), hN.1⟩, (fun _ h => absurd h List.not_mem_nil)⟩) (by decide) (by decide) (List.mem_of_getElem? (i := 2) (by decide +kernel)) (hZ.2.2.2.2.2.2.2.2.2.2.2.2.2.2.2.2.2.2.2.2 _ (List.mem_of_getElem? (i := 1) rfl)) hP hD hS hl1 h1 h2 h3q ?_
      refine z_eq (ws' := cw ad cI cR cS u0 ++ [oE cL o f]) (lv' := [(0, .ref (ad 106)), (1, .int x), (2, .int b), (3, .ref o)]) (st' := [.ref q9]) rfl rfl rfl ?_
      refine z_astore (lv' := [(4, .ref q9), (0, .ref (ad 106)), (1, .int x), (2, .int b), (3, .ref o)]) E dL_on_17 (by decide) rfl ?_
      refine z_iconst (v := 2) E dL_on_19 (by decide) ?_
      exact z_iretM E hr hlocks (u0, f) rfl (Or.inl ⟨_, hpx, rfl⟩) (Nat.le_of_ble_eq_true rfl) (Nat.le_of_ble_eq_true rfl) dL_on_20
    · skip
      refine z_catch E htab (name := "java/lang/IllegalStateException") [(⟨0, 10, 13, 13⟩ : ExceptionTableEntry), (⟨0, 10, 17, 15⟩ : ExceptionTableEntry)] (⟨0, 10, 21, 28⟩ : ExceptionTableEntry) [] rfl (List.forall_mem_cons.mpr ⟨⟨by decide, "java/lang/IndexOutOfBoundsException", (List.mem_of_getElem? (i := 1) (by decide +kernel)), hN.2.1⟩, (List.forall_mem_cons.mpr ⟨⟨by decide, "java/lang/IllegalArgumentException", (List.mem_of_getElem? (i := 2) (by decide +kernel)), hN.2.2⟩, (fun _ h => absurd h List.not_mem_nil)⟩)⟩) (by decide) (by decide) (List.mem_of_getElem? (i := 3) (by decide +kernel)) (hZ.2.2.2.2.2.2.2.2.2.2.2.2.2.2.2.2.2.2.2.2 _ (List.mem_of_getElem? (i := 2) rfl)) hP hD hS hl1 h1 h2 h3q ?_
      refine z_eq (ws' := cw ad cI cR cS u0 ++ [oE cL o f]) (lv' := [(0, .ref (ad 106)), (1, .int x), (2, .int b), (3, .ref o)]) (st' := [.ref q9]) rfl rfl rfl ?_
      refine z_astore (lv' := [(4, .ref q9), (0, .ref (ad 106)), (1, .int x), (2, .int b), (3, .ref o)]) E dL_on_21 (by decide) rfl ?_
      refine z_iconst (v := 3) E dL_on_23 (by decide) ?_
      exact z_iretM E hr hlocks (u0, f) rfl (Or.inl ⟨_, hpx, rfl⟩) (Nat.le_of_ble_eq_true rfl) (Nat.le_of_ble_eq_true rfl) dL_on_24
  · skip
    refine z_eq (ws' := cw ad cI cR cS u ++ [oE cL o f]) (lv' := [(0, .ref (ad 106)), (1, .int x), (2, .int b), (3, .ref o)]) (st' := [.int r, .int 0, .ref o]) rfl rfl rfl ?_
    refine z_i2l (v := r.toInt64) E dL_on_8 rfl ?_
    refine z_last E 107 3 (f := f) ow_at rfl (zvin rfl) (ws' := cw ad cI cR cS u ++ [oE cL o (vp_updL f 0 r.toInt64)]) (ow_set (y := oE cL o (vp_updL f 0 r.toInt64))) dL_on_9 ?_
    refine z_goto (tgt := 25) E dL_on_10 (by decide) ?_
    refine z_iconst (v := 0) E dL_on_25 (by decide) ?_
    exact z_iretM E hr hlocks (u, vp_updL f 0 r.toInt64) rfl (Or.inr ⟨r, hp, rfl, rfl⟩) (Nat.le_of_ble_eq_true rfl) (Nat.le_of_ble_eq_true rfl) dL_on_26
set_option maxHeartbeats 1000000 in
set_option maxRecDepth 100000 in
theorem w_off (l : Launch) (D : va_G) (ad : Nat → Nat) (cI cR cS cL : ClassId) (mem : zM) (hl : l.stackTraces = false) (o : Nat) (f : Nat → Int64) (x b : Int32) {q : Nat} (hq : q < 6) (hn : mem 101 1 = nI q) {z : Nat} (hz : z ≤ 6) (hs : mem 101 2 = nI z) : zMT l yL_off wsL_off ({ frames := 8, cells := 1, slots := 6, locals := 135 }) D (cK cI cR cS cL) [.ref (ad 106), .int x, .int b, .ref o] (cw ad cI cR cS mem ++ [oE cL o f]) (pWr cdL (sOff mem q z x b)) (fun u : zM × (Nat → Int64) => cw ad cI cR cS u.1 ++ [oE cL o u.2]) 1 6 := by
  refine zMT.of (cc := cL_off) (maxL := 5) (ret := (some .int)) (hh := [(0, 10, 13, 13)]) (by decide +kernel) rfl (lv0 := [(0, .ref (ad 106)), (1, .int x), (2, .int b), (3, .ref o)]) (Nat.le_of_ble_eq_true rfl) rfl ?_
  intro p e s m args below meth c E hZ hN hr hlocks htab
  refine z_aload_n E dL_off_0 rfl 3 rfl ?_
  refine z_iconst (v := 0) E dL_off_1 (by decide) ?_
  refine z_aload_n E dL_off_2 rfl 0 rfl ?_
  refine z_iload_n E dL_off_3 rfl 1 rfl ?_
  refine z_iload_n E dL_off_4 rfl 2 rfl ?_
  refine z_callViX E hZ ((k_off l D ad cI cR cS cL mem (c0 := 1) (s0 := 6) hl x b hq hn hz hs (fun _ _ _ => ⟨Nat.le_refl 1, Nat.le_refl 6⟩)).fr [] [oE cL o f]) gL_off_X5_off (n := 2) rfl rfl rfl (by decide +kernel) rfl ⟨(Nat.le_of_ble_eq_true rfl), (Nat.le_of_ble_eq_true rfl)⟩ (C := RX5) rfl 106 ow_lad (As := [.int x, .int b]) (rest := [.int 0, .ref o]) rfl (Nat.le_of_ble_eq_true rfl) ⟨(Nat.le_of_ble_eq_true rfl), (Nat.le_of_ble_eq_true rfl)⟩ dL_off_5 (fun E0 u0 q9 ce H locs ls hpx hP hD hS hl1 h1 h2 h3q => ?_) (fun r u hp => ?_)
  · skip
    cases x_off hpx
    refine z_catch E htab (name := "java/lang/IndexOutOfBoundsException") [] (⟨0, 10, 13, 13⟩ : ExceptionTableEntry) [] rfl (fun z hz => absurd hz List.not_mem_nil) (by decide) (by decide) (List.mem_of_getElem? (i := 1) (by decide +kernel)) (hZ.2.2.2.2.2.2.2.2.2.2.2.2.2.2.2.2.2.2.2.2 _ (List.mem_of_getElem? (i := 0) rfl)) hP hD hS hl1 h1 h2 h3q ?_
    refine z_eq (ws' := cw ad cI cR cS u0 ++ [oE cL o f]) (lv' := [(0, .ref (ad 106)), (1, .int x), (2, .int b), (3, .ref o)]) (st' := [.ref q9]) rfl rfl rfl ?_
    refine z_astore (lv' := [(4, .ref q9), (0, .ref (ad 106)), (1, .int x), (2, .int b), (3, .ref o)]) E dL_off_13 (by decide) rfl ?_
    refine z_iconst (v := 1) E dL_off_15 (by decide) ?_
    exact z_iretM E hr hlocks (u0, f) rfl (Or.inl ⟨_, hpx, rfl⟩) (Nat.le_of_ble_eq_true rfl) (Nat.le_of_ble_eq_true rfl) dL_off_16
  · skip
    refine z_eq (ws' := cw ad cI cR cS u ++ [oE cL o f]) (lv' := [(0, .ref (ad 106)), (1, .int x), (2, .int b), (3, .ref o)]) (st' := [.int r, .int 0, .ref o]) rfl rfl rfl ?_
    refine z_i2l (v := r.toInt64) E dL_off_8 rfl ?_
    refine z_last E 107 3 (f := f) ow_at rfl (zvin rfl) (ws' := cw ad cI cR cS u ++ [oE cL o (vp_updL f 0 r.toInt64)]) (ow_set (y := oE cL o (vp_updL f 0 r.toInt64))) dL_off_9 ?_
    refine z_goto (tgt := 17) E dL_off_10 (by decide) ?_
    refine z_iconst (v := 0) E dL_off_17 (by decide) ?_
    exact z_iretM E hr hlocks (u, vp_updL f 0 r.toInt64) rfl (Or.inr ⟨r, hp, rfl, rfl⟩) (Nat.le_of_ble_eq_true rfl) (Nat.le_of_ble_eq_true rfl) dL_off_18
set_option maxHeartbeats 1000000 in
set_option maxRecDepth 100000 in
theorem w_climb (l : Launch) (D : va_G) (ad : Nat → Nat) (cI cR cS cL : ClassId) (mem : zM) (hl : l.stackTraces = false) (o : Nat) (f : Nat → Int64) (x b g : Int32) {q : Nat} (hq : q < 6) (hn : mem 101 1 = nI q) {z : Nat} (hz : z ≤ 6) (hs : mem 101 2 = nI z) (hA : ∀ i, i < 4 → ∀ t, t < 3 → ∃ a, a ≤ 10 ∧ mem (3 * i + 2) t = nI a) : zMT l yL_climb wsL_climb ({ frames := 8, cells := 1, slots := 6, locals := 136 }) D (cK cI cR cS cL) [.ref (ad 106), .int x, .int b, .int g, .ref o] (cw ad cI cR cS mem ++ [oE cL o f]) (pWr cdL (sClimb mem q z x b g)) (fun u : zM × (Nat → Int64) => cw ad cI cR cS u.1 ++ [oE cL o u.2]) 1 6 := by
  refine zMT.of (cc := cL_climb) (maxL := 6) (ret := (some .int)) (hh := [(0, 12, 15, 13), (0, 12, 19, 15)]) (by decide +kernel) rfl (lv0 := [(0, .ref (ad 106)), (1, .int x), (2, .int b), (3, .int g), (4, .ref o)]) (Nat.le_of_ble_eq_true rfl) rfl ?_
  intro p e s m args below meth c E hZ hN hr hlocks htab
  refine z_aload E dL_climb_0 4 rfl ?_
  refine z_iconst (v := 0) E dL_climb_2 (by decide) ?_
  refine z_aload_n E dL_climb_3 rfl 0 rfl ?_
  refine z_iload_n E dL_climb_4 rfl 1 rfl ?_
  refine z_iload_n E dL_climb_5 rfl 2 rfl ?_
  refine z_iload_n E dL_climb_6 rfl 3 rfl ?_
  refine z_callViX E hZ ((k_climb l D ad cI cR cS cL mem (c0 := 1) (s0 := 6) hl x b g hq hn hz hs hA (fun _ _ _ => ⟨Nat.le_refl 1, Nat.le_refl 6⟩)).fr [] [oE cL o f]) gL_climb_X5_climb (n := 3) rfl rfl rfl (by decide +kernel) rfl ⟨(Nat.le_of_ble_eq_true rfl), (Nat.le_of_ble_eq_true rfl)⟩ (C := RX5) rfl 106 ow_lad (As := [.int x, .int b, .int g]) (rest := [.int 0, .ref o]) rfl (Nat.le_of_ble_eq_true rfl) ⟨(Nat.le_of_ble_eq_true rfl), (Nat.le_of_ble_eq_true rfl)⟩ dL_climb_7 (fun E0 u0 q9 ce H locs ls hpx hP hD hS hl1 h1 h2 h3q => ?_) (fun r u hp => ?_)
  · skip
    rcases x_climb hpx with rfl | rfl
    · skip
      refine z_catch E htab (name := "java/lang/IndexOutOfBoundsException") [] (⟨0, 12, 15, 13⟩ : ExceptionTableEntry) [(⟨0, 12, 19, 15⟩ : ExceptionTableEntry)] rfl (fun z hz => absurd hz List.not_mem_nil) (by decide) (by decide) (List.mem_of_getElem? (i := 1) (by decide +kernel)) (hZ.2.2.2.2.2.2.2.2.2.2.2.2.2.2.2.2.2.2.2.2 _ (List.mem_of_getElem? (i := 0) rfl)) hP hD hS hl1 h1 h2 h3q ?_
      refine z_eq (ws' := cw ad cI cR cS u0 ++ [oE cL o f]) (lv' := [(0, .ref (ad 106)), (1, .int x), (2, .int b), (3, .int g), (4, .ref o)]) (st' := [.ref q9]) rfl rfl rfl ?_
      refine z_astore (lv' := [(5, .ref q9), (0, .ref (ad 106)), (1, .int x), (2, .int b), (3, .int g), (4, .ref o)]) E dL_climb_15 (by decide) rfl ?_
      refine z_iconst (v := 1) E dL_climb_17 (by decide) ?_
      exact z_iretM E hr hlocks (u0, f) rfl (Or.inl ⟨_, hpx, rfl⟩) (Nat.le_of_ble_eq_true rfl) (Nat.le_of_ble_eq_true rfl) dL_climb_18
    · skip
      refine z_catch E htab (name := "java/lang/IllegalArgumentException") [(⟨0, 12, 15, 13⟩ : ExceptionTableEntry)] (⟨0, 12, 19, 15⟩ : ExceptionTableEntry) [] rfl (List.forall_mem_cons.mpr ⟨⟨by decide, "java/lang/IndexOutOfBoundsException", (List.mem_of_getElem? (i := 1) (by decide +kernel)), hN.1⟩, (fun _ h => absurd h List.not_mem_nil)⟩) (by decide) (by decide) (List.mem_of_getElem? (i := 2) (by decide +kernel)) (hZ.2.2.2.2.2.2.2.2.2.2.2.2.2.2.2.2.2.2.2.2 _ (List.mem_of_getElem? (i := 1) rfl)) hP hD hS hl1 h1 h2 h3q ?_
      refine z_eq (ws' := cw ad cI cR cS u0 ++ [oE cL o f]) (lv' := [(0, .ref (ad 106)), (1, .int x), (2, .int b), (3, .int g), (4, .ref o)]) (st' := [.ref q9]) rfl rfl rfl ?_
      refine z_astore (lv' := [(5, .ref q9), (0, .ref (ad 106)), (1, .int x), (2, .int b), (3, .int g), (4, .ref o)]) E dL_climb_19 (by decide) rfl ?_
      refine z_iconst (v := 2) E dL_climb_21 (by decide) ?_
      exact z_iretM E hr hlocks (u0, f) rfl (Or.inl ⟨_, hpx, rfl⟩) (Nat.le_of_ble_eq_true rfl) (Nat.le_of_ble_eq_true rfl) dL_climb_22
  · skip
    refine z_eq (ws' := cw ad cI cR cS u ++ [oE cL o f]) (lv' := [(0, .ref (ad 106)), (1, .int x), (2, .int b), (3, .int g), (4, .ref o)]) (st' := [.int r, .int 0, .ref o]) rfl rfl rfl ?_
    refine z_i2l (v := r.toInt64) E dL_climb_10 rfl ?_
    refine z_last E 107 3 (f := f) ow_at rfl (zvin rfl) (ws' := cw ad cI cR cS u ++ [oE cL o (vp_updL f 0 r.toInt64)]) (ow_set (y := oE cL o (vp_updL f 0 r.toInt64))) dL_climb_11 ?_
    refine z_goto (tgt := 23) E dL_climb_12 (by decide) ?_
    refine z_iconst (v := 0) E dL_climb_23 (by decide) ?_
    exact z_iretM E hr hlocks (u, vp_updL f 0 r.toInt64) rfl (Or.inr ⟨r, hp, rfl, rfl⟩) (Nat.le_of_ble_eq_true rfl) (Nat.le_of_ble_eq_true rfl) dL_climb_24
set_option maxHeartbeats 1000000 in
set_option maxRecDepth 100000 in
theorem w_append (l : Launch) (D : va_G) (ad : Nat → Nat) (cI cR cS cL : ClassId) (mem : zM) (hl : l.stackTraces = false) (o : Nat) (f : Nat → Int64) (x : Int32)  : zMT l yL_append wsL_append ({ frames := 8, cells := 1, slots := 6, locals := 133 }) D (cK cI cR cS cL) [.ref (ad 106), .int x, .ref o] (cw ad cI cR cS mem ++ [oE cL o f]) (pWr cdA (sAppend mem x)) (fun u : zM × (Nat → Int64) => cw ad cI cR cS u.1 ++ [oE cL o u.2]) 1 6 := by
  refine zMT.of (cc := cL_append) (maxL := 4) (ret := (some .int)) (hh := [(0, 9, 12, 15), (0, 9, 15, 28)]) (by decide +kernel) rfl (lv0 := [(0, .ref (ad 106)), (1, .int x), (2, .ref o)]) (Nat.le_of_ble_eq_true rfl) rfl ?_
  intro p e s m args below meth c E hZ hN hr hlocks htab
  refine z_aload_n E dL_append_0 rfl 2 rfl ?_
  refine z_iconst (v := 0) E dL_append_1 (by decide) ?_
  refine z_aload_n E dL_append_2 rfl 0 rfl ?_
  refine z_iload_n E dL_append_3 rfl 1 rfl ?_
  refine z_callViX E hZ ((k_append l D ad cI cR cS cL mem (c0 := 1) (s0 := 6) hl x (fun _ _ _ => ⟨Nat.le_refl 1, Nat.le_refl 6⟩)).fr [] [oE cL o f]) gL_append_X5_append (n := 1) rfl rfl rfl (by decide +kernel) rfl ⟨(Nat.le_of_ble_eq_true rfl), (Nat.le_of_ble_eq_true rfl)⟩ (C := RX5) rfl 106 ow_lad (As := [.int x]) (rest := [.int 0, .ref o]) rfl (Nat.le_of_ble_eq_true rfl) ⟨(Nat.le_of_ble_eq_true rfl), (Nat.le_of_ble_eq_true rfl)⟩ dL_append_4 (fun E0 u0 q9 ce H locs ls hpx hP hD hS hl1 h1 h2 h3q => ?_) (fun r u hp => ?_)
  · skip
    rcases x_append hpx with rfl | rfl
    · skip
      refine z_catch E htab (name := "java/lang/IllegalArgumentException") [] (⟨0, 9, 12, 15⟩ : ExceptionTableEntry) [(⟨0, 9, 15, 28⟩ : ExceptionTableEntry)] rfl (fun z hz => absurd hz List.not_mem_nil) (by decide) (by decide) (List.mem_of_getElem? (i := 1) (by decide +kernel)) (hZ.2.2.2.2.2.2.2.2.2.2.2.2.2.2.2.2.2.2.2.2 _ (List.mem_of_getElem? (i := 1) rfl)) hP hD hS hl1 h1 h2 h3q ?_
      refine z_eq (ws' := cw ad cI cR cS u0 ++ [oE cL o f]) (lv' := [(0, .ref (ad 106)), (1, .int x), (2, .ref o)]) (st' := [.ref q9]) rfl rfl rfl ?_
      refine z_astore_n (lv' := [(3, .ref q9), (0, .ref (ad 106)), (1, .int x), (2, .ref o)]) E dL_append_12 rfl (by decide) rfl ?_
      refine z_iconst (v := 1) E dL_append_13 (by decide) ?_
      exact z_iretM E hr hlocks (u0, f) rfl (Or.inl ⟨_, hpx, rfl⟩) (Nat.le_of_ble_eq_true rfl) (Nat.le_of_ble_eq_true rfl) dL_append_14
    · skip
      refine z_catch E htab (name := "java/lang/IllegalStateException") [(⟨0, 9, 12, 15⟩ : ExceptionTableEntry)] (⟨0, 9, 15, 28⟩ : ExceptionTableEntry) [] rfl (List.forall_mem_cons.mpr ⟨⟨by decide, "java/lang/IllegalArgumentException", (List.mem_of_getElem? (i := 1) (by decide +kernel)), hN.2.2⟩, (fun _ h => absurd h List.not_mem_nil)⟩) (by decide) (by decide) (List.mem_of_getElem? (i := 2) (by decide +kernel)) (hZ.2.2.2.2.2.2.2.2.2.2.2.2.2.2.2.2.2.2.2.2 _ (List.mem_of_getElem? (i := 2) rfl)) hP hD hS hl1 h1 h2 h3q ?_
      refine z_eq (ws' := cw ad cI cR cS u0 ++ [oE cL o f]) (lv' := [(0, .ref (ad 106)), (1, .int x), (2, .ref o)]) (st' := [.ref q9]) rfl rfl rfl ?_
      refine z_astore_n (lv' := [(3, .ref q9), (0, .ref (ad 106)), (1, .int x), (2, .ref o)]) E dL_append_15 rfl (by decide) rfl ?_
      refine z_iconst (v := 2) E dL_append_16 (by decide) ?_
      exact z_iretM E hr hlocks (u0, f) rfl (Or.inl ⟨_, hpx, rfl⟩) (Nat.le_of_ble_eq_true rfl) (Nat.le_of_ble_eq_true rfl) dL_append_17
  · skip
    refine z_eq (ws' := cw ad cI cR cS u ++ [oE cL o f]) (lv' := [(0, .ref (ad 106)), (1, .int x), (2, .ref o)]) (st' := [.int r, .int 0, .ref o]) rfl rfl rfl ?_
    refine z_i2l (v := r.toInt64) E dL_append_7 rfl ?_
    refine z_last E 107 3 (f := f) ow_at rfl (zvin rfl) (ws' := cw ad cI cR cS u ++ [oE cL o (vp_updL f 0 r.toInt64)]) (ow_set (y := oE cL o (vp_updL f 0 r.toInt64))) dL_append_8 ?_
    refine z_goto (tgt := 18) E dL_append_9 (by decide) ?_
    refine z_iconst (v := 0) E dL_append_18 (by decide) ?_
    exact z_iretM E hr hlocks (u, vp_updL f 0 r.toInt64) rfl (Or.inr ⟨r, hp, rfl, rfl⟩) (Nat.le_of_ble_eq_true rfl) (Nat.le_of_ble_eq_true rfl) dL_append_19
set_option maxHeartbeats 1000000 in
set_option maxRecDepth 100000 in
theorem w_play (l : Launch) (D : va_G) (ad : Nat → Nat) (cI cR cS cL : ClassId) (mem : zM) (hl : l.stackTraces = false) (o : Nat) (f : Nat → Int64) {L : Nat} (hL : L ≤ 60) (hlen : mem 103 1 = nI L) {q : Nat} (hq : q < 6) (hn : mem 101 1 = nI q) {z : Nat} (hz : z ≤ 6) (hs : mem 101 2 = nI z) (hok : zOK mem) (hrows : zWh mem L → zRows (mem 104) L) : zMT l yL_play wsL_play ({ frames := 9, cells := 1, slots := 6, locals := 155 }) D (cK cI cR cS cL) [.ref (ad 106), .ref o] (cw ad cI cR cS mem ++ [oE cL o f]) (pWrP mem (mset (sSave (sFF mem L L) q z) 103 2 0) L) (fun u : zM × (Nat → Int64) => cw ad cI cR cS u.1 ++ [oE cL o u.2]) 1 6 := by
  refine zMT.of (cc := cL_play) (maxL := 3) (ret := (some .int)) (hh := [(0, 8, 11, 15)]) (by decide +kernel) rfl (lv0 := [(0, .ref (ad 106)), (1, .ref o)]) (Nat.le_of_ble_eq_true rfl) rfl ?_
  intro p e s m args below meth c E hZ hN hr hlocks htab
  refine z_aload_n E dL_play_0 rfl 1 rfl ?_
  refine z_iconst (v := 0) E dL_play_1 (by decide) ?_
  refine z_aload_n E dL_play_2 rfl 0 rfl ?_
  refine z_callViX E hZ ((k_play l D ad cI cR cS cL mem (c0 := 1) (s0 := 6) hl hL hlen hq hn hz hs hok hrows (fun _ => ⟨Nat.le_refl 1, Nat.le_refl 6⟩)).fr [] [oE cL o f]) gL_play_X5_play (n := 0) rfl rfl rfl (by decide +kernel) rfl ⟨(Nat.le_of_ble_eq_true rfl), (Nat.le_of_ble_eq_true rfl)⟩ (C := RX5) rfl 106 ow_lad (As := []) (rest := [.int 0, .ref o]) rfl (Nat.le_of_ble_eq_true rfl) ⟨(Nat.le_of_ble_eq_true rfl), (Nat.le_of_ble_eq_true rfl)⟩ dL_play_3 (fun E0 u0 q9 ce H locs ls hpx hP hD hS hl1 h1 h2 h3q => ?_) (fun r u hp => ?_)
  · skip
    obtain ⟨hw, rfl, hk⟩ := hpx
    refine z_catch E htab (name := "java/lang/IllegalArgumentException") [] (⟨0, 8, 11, 15⟩ : ExceptionTableEntry) [] rfl (fun z hz => absurd hz List.not_mem_nil) (by decide) (by decide) (List.mem_of_getElem? (i := 1) (by decide +kernel)) (hZ.2.2.2.2.2.2.2.2.2.2.2.2.2.2.2.2.2.2.2.2 _ (List.mem_of_getElem? (i := 1) rfl)) hP hD hS hl1 h1 h2 h3q ?_
    refine z_eq (ws' := cw ad cI cR cS u0 ++ [oE cL o f]) (lv' := [(0, .ref (ad 106)), (1, .ref o)]) (st' := [.ref q9]) rfl rfl rfl ?_
    refine z_astore_n (lv' := [(2, .ref q9), (0, .ref (ad 106)), (1, .ref o)]) E dL_play_11 rfl (by decide) rfl ?_
    refine z_iconst (v := 1) E dL_play_12 (by decide) ?_
    exact z_iretM E hr hlocks (u0, f) rfl (Or.inl ⟨hw, rfl, hk⟩) (Nat.le_of_ble_eq_true rfl) (Nat.le_of_ble_eq_true rfl) dL_play_13
  · skip
    refine z_eq (ws' := cw ad cI cR cS u ++ [oE cL o f]) (lv' := [(0, .ref (ad 106)), (1, .ref o)]) (st' := [.int r, .int 0, .ref o]) rfl rfl rfl ?_
    refine z_i2l (v := r.toInt64) E dL_play_6 rfl ?_
    refine z_last E 107 3 (f := f) ow_at rfl (zvin rfl) (ws' := cw ad cI cR cS u ++ [oE cL o (vp_updL f 0 r.toInt64)]) (ow_set (y := oE cL o (vp_updL f 0 r.toInt64))) dL_play_7 ?_
    refine z_goto (tgt := 14) E dL_play_8 (by decide) ?_
    refine z_iconst (v := 0) E dL_play_14 (by decide) ?_
    exact z_iretM E hr hlocks (u, vp_updL f 0 r.toInt64) rfl (Or.inr ⟨hp.1, rfl, hp.2.2, by rw [hp.2.1]; rfl⟩) (Nat.le_of_ble_eq_true rfl) (Nat.le_of_ble_eq_true rfl) dL_play_15
set_option maxHeartbeats 1000000 in
set_option maxRecDepth 100000 in
theorem w_undo (l : Launch) (D : va_G) (ad : Nat → Nat) (cI cR cS cL : ClassId) (mem : zM) (hl : l.stackTraces = false) (o : Nat) (f : Nat → Int64) {q : Nat} (hq : q < 6) (hn : mem 101 1 = nI q) {z : Nat} (hz : z ≤ 6) (hs : mem 101 2 = nI z) : zMT l yL_undo wsL_undo ({ frames := 7, cells := 1, slots := 6, locals := 110 }) D (cK cI cR cS cL) [.ref (ad 106), .ref o] (cw ad cI cR cS mem ++ [oE cL o f]) (pWr cdU (sUndo mem q z)) (fun u : zM × (Nat → Int64) => cw ad cI cR cS u.1 ++ [oE cL o u.2]) 1 6 := by
  refine zMT.of (cc := cL_undo) (maxL := 3) (ret := (some .int)) (hh := [(0, 8, 11, 28)]) (by decide +kernel) rfl (lv0 := [(0, .ref (ad 106)), (1, .ref o)]) (Nat.le_of_ble_eq_true rfl) rfl ?_
  intro p e s m args below meth c E hZ hN hr hlocks htab
  refine z_aload_n E dL_undo_0 rfl 1 rfl ?_
  refine z_iconst (v := 0) E dL_undo_1 (by decide) ?_
  refine z_aload_n E dL_undo_2 rfl 0 rfl ?_
  refine z_callViX E hZ ((k_undo l D ad cI cR cS cL mem (c0 := 1) (s0 := 6) hl hq hn hz hs (fun _ _ _ => ⟨Nat.le_refl 1, Nat.le_refl 6⟩)).fr [] [oE cL o f]) gL_undo_X5_undo (n := 0) rfl rfl rfl (by decide +kernel) rfl ⟨(Nat.le_of_ble_eq_true rfl), (Nat.le_of_ble_eq_true rfl)⟩ (C := RX5) rfl 106 ow_lad (As := []) (rest := [.int 0, .ref o]) rfl (Nat.le_of_ble_eq_true rfl) ⟨(Nat.le_of_ble_eq_true rfl), (Nat.le_of_ble_eq_true rfl)⟩ dL_undo_3 (fun E0 u0 q9 ce H locs ls hpx hP hD hS hl1 h1 h2 h3q => ?_) (fun r u hp => ?_)
  · skip
    cases x_undo hpx
    refine z_catch E htab (name := "java/lang/IllegalStateException") [] (⟨0, 8, 11, 28⟩ : ExceptionTableEntry) [] rfl (fun z hz => absurd hz List.not_mem_nil) (by decide) (by decide) (List.mem_of_getElem? (i := 1) (by decide +kernel)) (hZ.2.2.2.2.2.2.2.2.2.2.2.2.2.2.2.2.2.2.2.2 _ (List.mem_of_getElem? (i := 2) rfl)) hP hD hS hl1 h1 h2 h3q ?_
    refine z_eq (ws' := cw ad cI cR cS u0 ++ [oE cL o f]) (lv' := [(0, .ref (ad 106)), (1, .ref o)]) (st' := [.ref q9]) rfl rfl rfl ?_
    refine z_astore_n (lv' := [(2, .ref q9), (0, .ref (ad 106)), (1, .ref o)]) E dL_undo_11 rfl (by decide) rfl ?_
    refine z_iconst (v := 1) E dL_undo_12 (by decide) ?_
    exact z_iretM E hr hlocks (u0, f) rfl (Or.inl ⟨_, hpx, rfl⟩) (Nat.le_of_ble_eq_true rfl) (Nat.le_of_ble_eq_true rfl) dL_undo_13
  · skip
    refine z_eq (ws' := cw ad cI cR cS u ++ [oE cL o f]) (lv' := [(0, .ref (ad 106)), (1, .ref o)]) (st' := [.int r, .int 0, .ref o]) rfl rfl rfl ?_
    refine z_i2l (v := r.toInt64) E dL_undo_6 rfl ?_
    refine z_last E 107 3 (f := f) ow_at rfl (zvin rfl) (ws' := cw ad cI cR cS u ++ [oE cL o (vp_updL f 0 r.toInt64)]) (ow_set (y := oE cL o (vp_updL f 0 r.toInt64))) dL_undo_7 ?_
    refine z_goto (tgt := 14) E dL_undo_8 (by decide) ?_
    refine z_iconst (v := 0) E dL_undo_14 (by decide) ?_
    exact z_iretM E hr hlocks (u, vp_updL f 0 r.toInt64) rfl (Or.inr ⟨r, hp, rfl, rfl⟩) (Nat.le_of_ble_eq_true rfl) (Nat.le_of_ble_eq_true rfl) dL_undo_15
set_option maxHeartbeats 1000000 in
set_option maxRecDepth 100000 in
theorem w_ladder (l : Launch) (D : va_G) (ad : Nat → Nat) (cI cR cS cL : ClassId) (mem : zM) (hl : l.stackTraces = false) (o : Nat) (f : Nat → Int64) (x g : Int32)  : zMT l yL_ladder wsL_ladder ({ frames := 8, cells := 1, slots := 6, locals := 135 }) D (cK cI cR cS cL) [.ref (ad 106), .int x, .int g, .ref o] (cw ad cI cR cS mem ++ [oE cL o f]) (pWr cdL (sLadder mem x g)) (fun u : zM × (Nat → Int64) => cw ad cI cR cS u.1 ++ [oE cL o u.2]) 1 6 := by
  refine zMT.of (cc := cL_ladder) (maxL := 5) (ret := (some .int)) (hh := [(0, 10, 13, 13), (0, 10, 17, 15)]) (by decide +kernel) rfl (lv0 := [(0, .ref (ad 106)), (1, .int x), (2, .int g), (3, .ref o)]) (Nat.le_of_ble_eq_true rfl) rfl ?_
  intro p e s m args below meth c E hZ hN hr hlocks htab
  refine z_aload_n E dL_ladder_0 rfl 3 rfl ?_
  refine z_iconst (v := 0) E dL_ladder_1 (by decide) ?_
  refine z_aload_n E dL_ladder_2 rfl 0 rfl ?_
  refine z_iload_n E dL_ladder_3 rfl 1 rfl ?_
  refine z_iload_n E dL_ladder_4 rfl 2 rfl ?_
  refine z_callViX E hZ ((k_ladder l D ad cI cR cS cL mem (c0 := 1) (s0 := 6) hl x g (fun _ _ _ => ⟨Nat.le_refl 1, Nat.le_refl 6⟩)).fr [] [oE cL o f]) gL_ladder_X5_ladder (n := 2) rfl rfl rfl (by decide +kernel) rfl ⟨(Nat.le_of_ble_eq_true rfl), (Nat.le_of_ble_eq_true rfl)⟩ (C := RX5) rfl 106 ow_lad (As := [.int x, .int g]) (rest := [.int 0, .ref o]) rfl (Nat.le_of_ble_eq_true rfl) ⟨(Nat.le_of_ble_eq_true rfl), (Nat.le_of_ble_eq_true rfl)⟩ dL_ladder_5 (fun E0 u0 q9 ce H locs ls hpx hP hD hS hl1 h1 h2 h3q => ?_) (fun r u hp => ?_)
  · skip
    rcases x_ladder hpx with rfl | rfl
    · skip
      refine z_catch E htab (name := "java/lang/IndexOutOfBoundsException") [] (⟨0, 10, 13, 13⟩ : ExceptionTableEntry) [(⟨0, 10, 17, 15⟩ : ExceptionTableEntry)] rfl (fun z hz => absurd hz List.not_mem_nil) (by decide) (by decide) (List.mem_of_getElem? (i := 1) (by decide +kernel)) (hZ.2.2.2.2.2.2.2.2.2.2.2.2.2.2.2.2.2.2.2.2 _ (List.mem_of_getElem? (i := 0) rfl)) hP hD hS hl1 h1 h2 h3q ?_
      refine z_eq (ws' := cw ad cI cR cS u0 ++ [oE cL o f]) (lv' := [(0, .ref (ad 106)), (1, .int x), (2, .int g), (3, .ref o)]) (st' := [.ref q9]) rfl rfl rfl ?_
      refine z_astore (lv' := [(4, .ref q9), (0, .ref (ad 106)), (1, .int x), (2, .int g), (3, .ref o)]) E dL_ladder_13 (by decide) rfl ?_
      refine z_iconst (v := 1) E dL_ladder_15 (by decide) ?_
      exact z_iretM E hr hlocks (u0, f) rfl (Or.inl ⟨_, hpx, rfl⟩) (Nat.le_of_ble_eq_true rfl) (Nat.le_of_ble_eq_true rfl) dL_ladder_16
    · skip
      refine z_catch E htab (name := "java/lang/IllegalArgumentException") [(⟨0, 10, 13, 13⟩ : ExceptionTableEntry)] (⟨0, 10, 17, 15⟩ : ExceptionTableEntry) [] rfl (List.forall_mem_cons.mpr ⟨⟨by decide, "java/lang/IndexOutOfBoundsException", (List.mem_of_getElem? (i := 1) (by decide +kernel)), hN.1⟩, (fun _ h => absurd h List.not_mem_nil)⟩) (by decide) (by decide) (List.mem_of_getElem? (i := 2) (by decide +kernel)) (hZ.2.2.2.2.2.2.2.2.2.2.2.2.2.2.2.2.2.2.2.2 _ (List.mem_of_getElem? (i := 1) rfl)) hP hD hS hl1 h1 h2 h3q ?_
      refine z_eq (ws' := cw ad cI cR cS u0 ++ [oE cL o f]) (lv' := [(0, .ref (ad 106)), (1, .int x), (2, .int g), (3, .ref o)]) (st' := [.ref q9]) rfl rfl rfl ?_
      refine z_astore (lv' := [(4, .ref q9), (0, .ref (ad 106)), (1, .int x), (2, .int g), (3, .ref o)]) E dL_ladder_17 (by decide) rfl ?_
      refine z_iconst (v := 2) E dL_ladder_19 (by decide) ?_
      exact z_iretM E hr hlocks (u0, f) rfl (Or.inl ⟨_, hpx, rfl⟩) (Nat.le_of_ble_eq_true rfl) (Nat.le_of_ble_eq_true rfl) dL_ladder_20
  · skip
    refine z_eq (ws' := cw ad cI cR cS u ++ [oE cL o f]) (lv' := [(0, .ref (ad 106)), (1, .int x), (2, .int g), (3, .ref o)]) (st' := [.int r, .int 0, .ref o]) rfl rfl rfl ?_
    refine z_i2l (v := r.toInt64) E dL_ladder_8 rfl ?_
    refine z_last E 107 3 (f := f) ow_at rfl (zvin rfl) (ws' := cw ad cI cR cS u ++ [oE cL o (vp_updL f 0 r.toInt64)]) (ow_set (y := oE cL o (vp_updL f 0 r.toInt64))) dL_ladder_9 ?_
    refine z_goto (tgt := 21) E dL_ladder_10 (by decide) ?_
    refine z_iconst (v := 0) E dL_ladder_21 (by decide) ?_
    exact z_iretM E hr hlocks (u, vp_updL f 0 r.toInt64) rfl (Or.inr ⟨r, hp, rfl, rfl⟩) (Nat.le_of_ble_eq_true rfl) (Nat.le_of_ble_eq_true rfl) dL_ladder_22
set_option maxHeartbeats 1000000 in
set_option maxRecDepth 100000 in
theorem w_person (l : Launch) (D : va_G) (ad : Nat → Nat) (cI cR cS cL : ClassId) (mem : zM) (hl : l.stackTraces = false) (o : Nat) (f : Nat → Int64) (x b g : Int32)  : zMT l yL_person wsL_person ({ frames := 8, cells := 1, slots := 6, locals := 136 }) D (cK cI cR cS cL) [.ref (ad 106), .int x, .int b, .int g, .ref o] (cw ad cI cR cS mem ++ [oE cL o f]) (pWr cdL (sPerson mem x b g)) (fun u : zM × (Nat → Int64) => cw ad cI cR cS u.1 ++ [oE cL o u.2]) 1 6 := by
  refine zMT.of (cc := cL_person) (maxL := 6) (ret := (some .int)) (hh := [(0, 12, 15, 13), (0, 12, 19, 15)]) (by decide +kernel) rfl (lv0 := [(0, .ref (ad 106)), (1, .int x), (2, .int b), (3, .int g), (4, .ref o)]) (Nat.le_of_ble_eq_true rfl) rfl ?_
  intro p e s m args below meth c E hZ hN hr hlocks htab
  refine z_aload E dL_person_0 4 rfl ?_
  refine z_iconst (v := 0) E dL_person_2 (by decide) ?_
  refine z_aload_n E dL_person_3 rfl 0 rfl ?_
  refine z_iload_n E dL_person_4 rfl 1 rfl ?_
  refine z_iload_n E dL_person_5 rfl 2 rfl ?_
  refine z_iload_n E dL_person_6 rfl 3 rfl ?_
  refine z_callViX E hZ ((k_person l D ad cI cR cS cL mem (c0 := 1) (s0 := 6) hl x b g (fun _ _ _ => ⟨Nat.le_refl 1, Nat.le_refl 6⟩)).fr [] [oE cL o f]) gL_person_X5_person (n := 3) rfl rfl rfl (by decide +kernel) rfl ⟨(Nat.le_of_ble_eq_true rfl), (Nat.le_of_ble_eq_true rfl)⟩ (C := RX5) rfl 106 ow_lad (As := [.int x, .int b, .int g]) (rest := [.int 0, .ref o]) rfl (Nat.le_of_ble_eq_true rfl) ⟨(Nat.le_of_ble_eq_true rfl), (Nat.le_of_ble_eq_true rfl)⟩ dL_person_7 (fun E0 u0 q9 ce H locs ls hpx hP hD hS hl1 h1 h2 h3q => ?_) (fun r u hp => ?_)
  · skip
    rcases x_person hpx with rfl | rfl
    · skip
      refine z_catch E htab (name := "java/lang/IndexOutOfBoundsException") [] (⟨0, 12, 15, 13⟩ : ExceptionTableEntry) [(⟨0, 12, 19, 15⟩ : ExceptionTableEntry)] rfl (fun z hz => absurd hz List.not_mem_nil) (by decide) (by decide) (List.mem_of_getElem? (i := 1) (by decide +kernel)) (hZ.2.2.2.2.2.2.2.2.2.2.2.2.2.2.2.2.2.2.2.2 _ (List.mem_of_getElem? (i := 0) rfl)) hP hD hS hl1 h1 h2 h3q ?_
      refine z_eq (ws' := cw ad cI cR cS u0 ++ [oE cL o f]) (lv' := [(0, .ref (ad 106)), (1, .int x), (2, .int b), (3, .int g), (4, .ref o)]) (st' := [.ref q9]) rfl rfl rfl ?_
      refine z_astore (lv' := [(5, .ref q9), (0, .ref (ad 106)), (1, .int x), (2, .int b), (3, .int g), (4, .ref o)]) E dL_person_15 (by decide) rfl ?_
      refine z_iconst (v := 1) E dL_person_17 (by decide) ?_
      exact z_iretM E hr hlocks (u0, f) rfl (Or.inl ⟨_, hpx, rfl⟩) (Nat.le_of_ble_eq_true rfl) (Nat.le_of_ble_eq_true rfl) dL_person_18
    · skip
      refine z_catch E htab (name := "java/lang/IllegalArgumentException") [(⟨0, 12, 15, 13⟩ : ExceptionTableEntry)] (⟨0, 12, 19, 15⟩ : ExceptionTableEntry) [] rfl (List.forall_mem_cons.mpr ⟨⟨by decide, "java/lang/IndexOutOfBoundsException", (List.mem_of_getElem? (i := 1) (by decide +kernel)), hN.1⟩, (fun _ h => absurd h List.not_mem_nil)⟩) (by decide) (by decide) (List.mem_of_getElem? (i := 2) (by decide +kernel)) (hZ.2.2.2.2.2.2.2.2.2.2.2.2.2.2.2.2.2.2.2.2 _ (List.mem_of_getElem? (i := 1) rfl)) hP hD hS hl1 h1 h2 h3q ?_
      refine z_eq (ws' := cw ad cI cR cS u0 ++ [oE cL o f]) (lv' := [(0, .ref (ad 106)), (1, .int x), (2, .int b), (3, .int g), (4, .ref o)]) (st' := [.ref q9]) rfl rfl rfl ?_
      refine z_astore (lv' := [(5, .ref q9), (0, .ref (ad 106)), (1, .int x), (2, .int b), (3, .int g), (4, .ref o)]) E dL_person_19 (by decide) rfl ?_
      refine z_iconst (v := 2) E dL_person_21 (by decide) ?_
      exact z_iretM E hr hlocks (u0, f) rfl (Or.inl ⟨_, hpx, rfl⟩) (Nat.le_of_ble_eq_true rfl) (Nat.le_of_ble_eq_true rfl) dL_person_22
  · skip
    refine z_eq (ws' := cw ad cI cR cS u ++ [oE cL o f]) (lv' := [(0, .ref (ad 106)), (1, .int x), (2, .int b), (3, .int g), (4, .ref o)]) (st' := [.int r, .int 0, .ref o]) rfl rfl rfl ?_
    refine z_i2l (v := r.toInt64) E dL_person_10 rfl ?_
    refine z_last E 107 3 (f := f) ow_at rfl (zvin rfl) (ws' := cw ad cI cR cS u ++ [oE cL o (vp_updL f 0 r.toInt64)]) (ow_set (y := oE cL o (vp_updL f 0 r.toInt64))) dL_person_11 ?_
    refine z_goto (tgt := 23) E dL_person_12 (by decide) ?_
    refine z_iconst (v := 0) E dL_person_23 (by decide) ?_
    exact z_iretM E hr hlocks (u, vp_updL f 0 r.toInt64) rfl (Or.inr ⟨r, hp, rfl, rfl⟩) (Nat.le_of_ble_eq_true rfl) (Nat.le_of_ble_eq_true rfl) dL_person_24
set_option maxHeartbeats 1000000 in
set_option maxRecDepth 100000 in
theorem w_force (l : Launch) (D : va_G) (ad : Nat → Nat) (cI cR cS cL : ClassId) (mem : zM) (hl : l.stackTraces = false) (o : Nat) (f : Nat → Int64) (x g : Int32)  : zMT l yL_force wsL_force ({ frames := 8, cells := 1, slots := 6, locals := 135 }) D (cK cI cR cS cL) [.ref (ad 106), .int x, .int g, .ref o] (cw ad cI cR cS mem ++ [oE cL o f]) (pWr cdL (sForce mem x g)) (fun u : zM × (Nat → Int64) => cw ad cI cR cS u.1 ++ [oE cL o u.2]) 1 6 := by
  refine zMT.of (cc := cL_force) (maxL := 5) (ret := (some .int)) (hh := [(0, 10, 13, 13), (0, 10, 17, 15)]) (by decide +kernel) rfl (lv0 := [(0, .ref (ad 106)), (1, .int x), (2, .int g), (3, .ref o)]) (Nat.le_of_ble_eq_true rfl) rfl ?_
  intro p e s m args below meth c E hZ hN hr hlocks htab
  refine z_aload_n E dL_force_0 rfl 3 rfl ?_
  refine z_iconst (v := 0) E dL_force_1 (by decide) ?_
  refine z_aload_n E dL_force_2 rfl 0 rfl ?_
  refine z_iload_n E dL_force_3 rfl 1 rfl ?_
  refine z_iload_n E dL_force_4 rfl 2 rfl ?_
  refine z_callViX E hZ ((k_force l D ad cI cR cS cL mem (c0 := 1) (s0 := 6) hl x g (fun _ _ _ => ⟨Nat.le_refl 1, Nat.le_refl 6⟩)).fr [] [oE cL o f]) gL_force_X5_force (n := 2) rfl rfl rfl (by decide +kernel) rfl ⟨(Nat.le_of_ble_eq_true rfl), (Nat.le_of_ble_eq_true rfl)⟩ (C := RX5) rfl 106 ow_lad (As := [.int x, .int g]) (rest := [.int 0, .ref o]) rfl (Nat.le_of_ble_eq_true rfl) ⟨(Nat.le_of_ble_eq_true rfl), (Nat.le_of_ble_eq_true rfl)⟩ dL_force_5 (fun E0 u0 q9 ce H locs ls hpx hP hD hS hl1 h1 h2 h3q => ?_) (fun r u hp => ?_)
  · skip
    rcases x_force hpx with rfl | rfl
    · skip
      refine z_catch E htab (name := "java/lang/IndexOutOfBoundsException") [] (⟨0, 10, 13, 13⟩ : ExceptionTableEntry) [(⟨0, 10, 17, 15⟩ : ExceptionTableEntry)] rfl (fun z hz => absurd hz List.not_mem_nil) (by decide) (by decide) (List.mem_of_getElem? (i := 1) (by decide +kernel)) (hZ.2.2.2.2.2.2.2.2.2.2.2.2.2.2.2.2.2.2.2.2 _ (List.mem_of_getElem? (i := 0) rfl)) hP hD hS hl1 h1 h2 h3q ?_
      refine z_eq (ws' := cw ad cI cR cS u0 ++ [oE cL o f]) (lv' := [(0, .ref (ad 106)), (1, .int x), (2, .int g), (3, .ref o)]) (st' := [.ref q9]) rfl rfl rfl ?_
      refine z_astore (lv' := [(4, .ref q9), (0, .ref (ad 106)), (1, .int x), (2, .int g), (3, .ref o)]) E dL_force_13 (by decide) rfl ?_
      refine z_iconst (v := 1) E dL_force_15 (by decide) ?_
      exact z_iretM E hr hlocks (u0, f) rfl (Or.inl ⟨_, hpx, rfl⟩) (Nat.le_of_ble_eq_true rfl) (Nat.le_of_ble_eq_true rfl) dL_force_16
    · skip
      refine z_catch E htab (name := "java/lang/IllegalArgumentException") [(⟨0, 10, 13, 13⟩ : ExceptionTableEntry)] (⟨0, 10, 17, 15⟩ : ExceptionTableEntry) [] rfl (List.forall_mem_cons.mpr ⟨⟨by decide, "java/lang/IndexOutOfBoundsException", (List.mem_of_getElem? (i := 1) (by decide +kernel)), hN.1⟩, (fun _ h => absurd h List.not_mem_nil)⟩) (by decide) (by decide) (List.mem_of_getElem? (i := 2) (by decide +kernel)) (hZ.2.2.2.2.2.2.2.2.2.2.2.2.2.2.2.2.2.2.2.2 _ (List.mem_of_getElem? (i := 1) rfl)) hP hD hS hl1 h1 h2 h3q ?_
      refine z_eq (ws' := cw ad cI cR cS u0 ++ [oE cL o f]) (lv' := [(0, .ref (ad 106)), (1, .int x), (2, .int g), (3, .ref o)]) (st' := [.ref q9]) rfl rfl rfl ?_
      refine z_astore (lv' := [(4, .ref q9), (0, .ref (ad 106)), (1, .int x), (2, .int g), (3, .ref o)]) E dL_force_17 (by decide) rfl ?_
      refine z_iconst (v := 2) E dL_force_19 (by decide) ?_
      exact z_iretM E hr hlocks (u0, f) rfl (Or.inl ⟨_, hpx, rfl⟩) (Nat.le_of_ble_eq_true rfl) (Nat.le_of_ble_eq_true rfl) dL_force_20
  · skip
    refine z_eq (ws' := cw ad cI cR cS u ++ [oE cL o f]) (lv' := [(0, .ref (ad 106)), (1, .int x), (2, .int g), (3, .ref o)]) (st' := [.int r, .int 0, .ref o]) rfl rfl rfl ?_
    refine z_i2l (v := r.toInt64) E dL_force_8 rfl ?_
    refine z_last E 107 3 (f := f) ow_at rfl (zvin rfl) (ws' := cw ad cI cR cS u ++ [oE cL o (vp_updL f 0 r.toInt64)]) (ow_set (y := oE cL o (vp_updL f 0 r.toInt64))) dL_force_9 ?_
    refine z_goto (tgt := 21) E dL_force_10 (by decide) ?_
    refine z_iconst (v := 0) E dL_force_21 (by decide) ?_
    exact z_iretM E hr hlocks (u, vp_updL f 0 r.toInt64) rfl (Or.inr ⟨r, hp, rfl, rfl⟩) (Nat.le_of_ble_eq_true rfl) (Nat.le_of_ble_eq_true rfl) dL_force_22
set_option maxHeartbeats 1000000 in
set_option maxRecDepth 100000 in
theorem w_held (l : Launch) (D : va_G) (ad : Nat → Nat) (cI cR cS cL : ClassId) (mem : zM) (hl : l.stackTraces = false) (o : Nat) (f : Nat → Int64) (x g : Int32)  : zMT l yL_held wsL_held ({ frames := 8, cells := 1, slots := 6, locals := 135 }) D (cK cI cR cS cL) [.ref (ad 106), .int x, .int g, .ref o] (cw ad cI cR cS mem ++ [oE cL o f]) (pWr cdL (sHeld mem x g)) (fun u : zM × (Nat → Int64) => cw ad cI cR cS u.1 ++ [oE cL o u.2]) 1 6 := by
  refine zMT.of (cc := cL_held) (maxL := 5) (ret := (some .int)) (hh := [(0, 10, 13, 13), (0, 10, 17, 15)]) (by decide +kernel) rfl (lv0 := [(0, .ref (ad 106)), (1, .int x), (2, .int g), (3, .ref o)]) (Nat.le_of_ble_eq_true rfl) rfl ?_
  intro p e s m args below meth c E hZ hN hr hlocks htab
  refine z_aload_n E dL_held_0 rfl 3 rfl ?_
  refine z_iconst (v := 0) E dL_held_1 (by decide) ?_
  refine z_aload_n E dL_held_2 rfl 0 rfl ?_
  refine z_iload_n E dL_held_3 rfl 1 rfl ?_
  refine z_iload_n E dL_held_4 rfl 2 rfl ?_
  refine z_callViX E hZ ((k_held l D ad cI cR cS cL mem (c0 := 1) (s0 := 6) hl x g (fun _ _ _ => ⟨Nat.le_refl 1, Nat.le_refl 6⟩)).fr [] [oE cL o f]) gL_held_X5_held (n := 2) rfl rfl rfl (by decide +kernel) rfl ⟨(Nat.le_of_ble_eq_true rfl), (Nat.le_of_ble_eq_true rfl)⟩ (C := RX5) rfl 106 ow_lad (As := [.int x, .int g]) (rest := [.int 0, .ref o]) rfl (Nat.le_of_ble_eq_true rfl) ⟨(Nat.le_of_ble_eq_true rfl), (Nat.le_of_ble_eq_true rfl)⟩ dL_held_5 (fun E0 u0 q9 ce H locs ls hpx hP hD hS hl1 h1 h2 h3q => ?_) (fun r u hp => ?_)
  · skip
    rcases x_held hpx with rfl | rfl
    · skip
      refine z_catch E htab (name := "java/lang/IndexOutOfBoundsException") [] (⟨0, 10, 13, 13⟩ : ExceptionTableEntry) [(⟨0, 10, 17, 15⟩ : ExceptionTableEntry)] rfl (fun z hz => absurd hz List.not_mem_nil) (by decide) (by decide) (List.mem_of_getElem? (i := 1) (by decide +kernel)) (hZ.2.2.2.2.2.2.2.2.2.2.2.2.2.2.2.2.2.2.2.2 _ (List.mem_of_getElem? (i := 0) rfl)) hP hD hS hl1 h1 h2 h3q ?_
      refine z_eq (ws' := cw ad cI cR cS u0 ++ [oE cL o f]) (lv' := [(0, .ref (ad 106)), (1, .int x), (2, .int g), (3, .ref o)]) (st' := [.ref q9]) rfl rfl rfl ?_
      refine z_astore (lv' := [(4, .ref q9), (0, .ref (ad 106)), (1, .int x), (2, .int g), (3, .ref o)]) E dL_held_13 (by decide) rfl ?_
      refine z_iconst (v := 1) E dL_held_15 (by decide) ?_
      exact z_iretM E hr hlocks (u0, f) rfl (Or.inl ⟨_, hpx, rfl⟩) (Nat.le_of_ble_eq_true rfl) (Nat.le_of_ble_eq_true rfl) dL_held_16
    · skip
      refine z_catch E htab (name := "java/lang/IllegalArgumentException") [(⟨0, 10, 13, 13⟩ : ExceptionTableEntry)] (⟨0, 10, 17, 15⟩ : ExceptionTableEntry) [] rfl (List.forall_mem_cons.mpr ⟨⟨by decide, "java/lang/IndexOutOfBoundsException", (List.mem_of_getElem? (i := 1) (by decide +kernel)), hN.1⟩, (fun _ h => absurd h List.not_mem_nil)⟩) (by decide) (by decide) (List.mem_of_getElem? (i := 2) (by decide +kernel)) (hZ.2.2.2.2.2.2.2.2.2.2.2.2.2.2.2.2.2.2.2.2 _ (List.mem_of_getElem? (i := 1) rfl)) hP hD hS hl1 h1 h2 h3q ?_
      refine z_eq (ws' := cw ad cI cR cS u0 ++ [oE cL o f]) (lv' := [(0, .ref (ad 106)), (1, .int x), (2, .int g), (3, .ref o)]) (st' := [.ref q9]) rfl rfl rfl ?_
      refine z_astore (lv' := [(4, .ref q9), (0, .ref (ad 106)), (1, .int x), (2, .int g), (3, .ref o)]) E dL_held_17 (by decide) rfl ?_
      refine z_iconst (v := 2) E dL_held_19 (by decide) ?_
      exact z_iretM E hr hlocks (u0, f) rfl (Or.inl ⟨_, hpx, rfl⟩) (Nat.le_of_ble_eq_true rfl) (Nat.le_of_ble_eq_true rfl) dL_held_20
  · skip
    refine z_eq (ws' := cw ad cI cR cS u ++ [oE cL o f]) (lv' := [(0, .ref (ad 106)), (1, .int x), (2, .int g), (3, .ref o)]) (st' := [.int r, .int 0, .ref o]) rfl rfl rfl ?_
    refine z_i2l (v := r.toInt64) E dL_held_8 rfl ?_
    refine z_last E 107 3 (f := f) ow_at rfl (zvin rfl) (ws' := cw ad cI cR cS u ++ [oE cL o (vp_updL f 0 r.toInt64)]) (ow_set (y := oE cL o (vp_updL f 0 r.toInt64))) dL_held_9 ?_
    refine z_goto (tgt := 21) E dL_held_10 (by decide) ?_
    refine z_iconst (v := 0) E dL_held_21 (by decide) ?_
    exact z_iretM E hr hlocks (u, vp_updL f 0 r.toInt64) rfl (Or.inr ⟨r, hp, rfl, rfl⟩) (Nat.le_of_ble_eq_true rfl) (Nat.le_of_ble_eq_true rfl) dL_held_22
set_option maxHeartbeats 1000000 in
set_option maxRecDepth 100000 in
theorem w_count (l : Launch) (D : va_G) (ad : Nat → Nat) (cI cR cS cL : ClassId) (mem : zM) (hl : l.stackTraces = false) (o : Nat) (f : Nat → Int64) (x : Int32)  : zMT l yL_count wsL_count ({ frames := 7, cells := 1, slots := 6, locals := 127 }) D (cK cI cR cS cL) [.ref (ad 106), .int x, .ref o] (cw ad cI cR cS mem ++ [oE cL o f]) (pWr cdC (sCount mem x)) (fun u : zM × (Nat → Int64) => cw ad cI cR cS u.1 ++ [oE cL o u.2]) 1 6 := by
  refine zMT.of (cc := cL_count) (maxL := 4) (ret := (some .int)) (hh := [(0, 9, 12, 15)]) (by decide +kernel) rfl (lv0 := [(0, .ref (ad 106)), (1, .int x), (2, .ref o)]) (Nat.le_of_ble_eq_true rfl) rfl ?_
  intro p e s m args below meth c E hZ hN hr hlocks htab
  refine z_aload_n E dL_count_0 rfl 2 rfl ?_
  refine z_iconst (v := 0) E dL_count_1 (by decide) ?_
  refine z_aload_n E dL_count_2 rfl 0 rfl ?_
  refine z_iload_n E dL_count_3 rfl 1 rfl ?_
  refine z_callViX E hZ ((k_count l D ad cI cR cS cL mem (c0 := 1) (s0 := 6) hl x (fun _ _ _ => ⟨Nat.le_refl 1, Nat.le_refl 6⟩)).fr [] [oE cL o f]) gL_count_X5_count (n := 1) rfl rfl rfl (by decide +kernel) rfl ⟨(Nat.le_of_ble_eq_true rfl), (Nat.le_of_ble_eq_true rfl)⟩ (C := RX5) rfl 106 ow_lad (As := [.int x]) (rest := [.int 0, .ref o]) rfl (Nat.le_of_ble_eq_true rfl) ⟨(Nat.le_of_ble_eq_true rfl), (Nat.le_of_ble_eq_true rfl)⟩ dL_count_4 (fun E0 u0 q9 ce H locs ls hpx hP hD hS hl1 h1 h2 h3q => ?_) (fun r u hp => ?_)
  · skip
    cases x_count hpx
    refine z_catch E htab (name := "java/lang/IllegalArgumentException") [] (⟨0, 9, 12, 15⟩ : ExceptionTableEntry) [] rfl (fun z hz => absurd hz List.not_mem_nil) (by decide) (by decide) (List.mem_of_getElem? (i := 1) (by decide +kernel)) (hZ.2.2.2.2.2.2.2.2.2.2.2.2.2.2.2.2.2.2.2.2 _ (List.mem_of_getElem? (i := 1) rfl)) hP hD hS hl1 h1 h2 h3q ?_
    refine z_eq (ws' := cw ad cI cR cS u0 ++ [oE cL o f]) (lv' := [(0, .ref (ad 106)), (1, .int x), (2, .ref o)]) (st' := [.ref q9]) rfl rfl rfl ?_
    refine z_astore_n (lv' := [(3, .ref q9), (0, .ref (ad 106)), (1, .int x), (2, .ref o)]) E dL_count_12 rfl (by decide) rfl ?_
    refine z_iconst (v := 1) E dL_count_13 (by decide) ?_
    exact z_iretM E hr hlocks (u0, f) rfl (Or.inl ⟨_, hpx, rfl⟩) (Nat.le_of_ble_eq_true rfl) (Nat.le_of_ble_eq_true rfl) dL_count_14
  · skip
    refine z_eq (ws' := cw ad cI cR cS u ++ [oE cL o f]) (lv' := [(0, .ref (ad 106)), (1, .int x), (2, .ref o)]) (st' := [.int r, .int 0, .ref o]) rfl rfl rfl ?_
    refine z_i2l (v := r.toInt64) E dL_count_7 rfl ?_
    refine z_last E 107 3 (f := f) ow_at rfl (zvin rfl) (ws' := cw ad cI cR cS u ++ [oE cL o (vp_updL f 0 r.toInt64)]) (ow_set (y := oE cL o (vp_updL f 0 r.toInt64))) dL_count_8 ?_
    refine z_goto (tgt := 15) E dL_count_9 (by decide) ?_
    refine z_iconst (v := 0) E dL_count_15 (by decide) ?_
    exact z_iretM E hr hlocks (u, vp_updL f 0 r.toInt64) rfl (Or.inr ⟨r, hp, rfl, rfl⟩) (Nat.le_of_ble_eq_true rfl) (Nat.le_of_ble_eq_true rfl) dL_count_16
set_option maxHeartbeats 1000000 in
set_option maxRecDepth 100000 in
theorem w_highest (l : Launch) (D : va_G) (ad : Nat → Nat) (cI cR cS cL : ClassId) (mem : zM) (hl : l.stackTraces = false) (o : Nat) (f : Nat → Int64) (x b : Int32) (hA : ∀ i, i < 4 → ∀ t, t < 3 → ∃ a, a ≤ 10 ∧ mem (3 * i + 2) t = nI a) : zMT l yL_highest wsL_highest ({ frames := 8, cells := 1, slots := 6, locals := 136 }) D (cK cI cR cS cL) [.ref (ad 106), .int x, .int b, .ref o] (cw ad cI cR cS mem ++ [oE cL o f]) (pWrL cdL mem (sHigh mem x b)) (fun u : zM × (Nat → Int64) => cw ad cI cR cS u.1 ++ [oE cL o u.2]) 1 6 := by
  refine zMT.of (cc := cL_highest) (maxL := 5) (ret := (some .int)) (hh := [(0, 10, 13, 13)]) (by decide +kernel) rfl (lv0 := [(0, .ref (ad 106)), (1, .int x), (2, .int b), (3, .ref o)]) (Nat.le_of_ble_eq_true rfl) rfl ?_
  intro p e s m args below meth c E hZ hN hr hlocks htab
  refine z_aload_n E dL_highest_0 rfl 3 rfl ?_
  refine z_iconst (v := 0) E dL_highest_1 (by decide) ?_
  refine z_aload_n E dL_highest_2 rfl 0 rfl ?_
  refine z_iload_n E dL_highest_3 rfl 1 rfl ?_
  refine z_iload_n E dL_highest_4 rfl 2 rfl ?_
  refine z_callViX E hZ ((k_highest l D ad cI cR cS cL mem (c0 := 1) (s0 := 6) hl x b hA (fun _ _ => ⟨Nat.le_refl 1, Nat.le_refl 6⟩)).fr [] [oE cL o f]) gL_highest_X5_highest (n := 2) rfl rfl rfl (by decide +kernel) rfl ⟨(Nat.le_of_ble_eq_true rfl), (Nat.le_of_ble_eq_true rfl)⟩ (C := RX5) rfl 106 ow_lad (As := [.int x, .int b]) (rest := [.int 0, .ref o]) rfl (Nat.le_of_ble_eq_true rfl) ⟨(Nat.le_of_ble_eq_true rfl), (Nat.le_of_ble_eq_true rfl)⟩ dL_highest_5 (fun E0 u0 q9 ce H locs ls hpx hP hD hS hl1 h1 h2 h3q => ?_) (fun r u hp => ?_)
  · skip
    cases x_highest hpx.1
    refine z_catch E htab (name := "java/lang/IndexOutOfBoundsException") [] (⟨0, 10, 13, 13⟩ : ExceptionTableEntry) [] rfl (fun z hz => absurd hz List.not_mem_nil) (by decide) (by decide) (List.mem_of_getElem? (i := 1) (by decide +kernel)) (hZ.2.2.2.2.2.2.2.2.2.2.2.2.2.2.2.2.2.2.2.2 _ (List.mem_of_getElem? (i := 0) rfl)) hP hD hS hl1 h1 h2 h3q ?_
    refine z_eq (ws' := cw ad cI cR cS u0 ++ [oE cL o f]) (lv' := [(0, .ref (ad 106)), (1, .int x), (2, .int b), (3, .ref o)]) (st' := [.ref q9]) rfl rfl rfl ?_
    refine z_astore (lv' := [(4, .ref q9), (0, .ref (ad 106)), (1, .int x), (2, .int b), (3, .ref o)]) E dL_highest_13 (by decide) rfl ?_
    refine z_iconst (v := 1) E dL_highest_15 (by decide) ?_
    exact z_iretM E hr hlocks (u0, f) rfl (⟨by rw [hpx.2]; exact fun _ _ => rfl, Or.inl ⟨_, hpx.1, rfl⟩⟩) (Nat.le_of_ble_eq_true rfl) (Nat.le_of_ble_eq_true rfl) dL_highest_16
  · skip
    refine z_eq (ws' := cw ad cI cR cS u ++ [oE cL o f]) (lv' := [(0, .ref (ad 106)), (1, .int x), (2, .int b), (3, .ref o)]) (st' := [.int r, .int 0, .ref o]) rfl rfl rfl ?_
    refine z_i2l (v := r.toInt64) E dL_highest_8 rfl ?_
    refine z_last E 107 3 (f := f) ow_at rfl (zvin rfl) (ws' := cw ad cI cR cS u ++ [oE cL o (vp_updL f 0 r.toInt64)]) (ow_set (y := oE cL o (vp_updL f 0 r.toInt64))) dL_highest_9 ?_
    refine z_goto (tgt := 17) E dL_highest_10 (by decide) ?_
    refine z_iconst (v := 0) E dL_highest_17 (by decide) ?_
    exact z_iretM E hr hlocks (u, vp_updL f 0 r.toInt64) rfl (⟨hp.2, Or.inr ⟨r, hp.1, rfl, rfl⟩⟩) (Nat.le_of_ble_eq_true rfl) (Nat.le_of_ble_eq_true rfl) dL_highest_18
set_option maxHeartbeats 1000000 in
set_option maxRecDepth 100000 in
theorem w_neededRope (l : Launch) (D : va_G) (ad : Nat → Nat) (cI cR cS cL : ClassId) (mem : zM) (hl : l.stackTraces = false) (o : Nat) (f : Nat → Int64) (x : Int32)  : zMT l yL_neededRope wsL_neededRope ({ frames := 8, cells := 1, slots := 6, locals := 133 }) D (cK cI cR cS cL) [.ref (ad 106), .int x, .ref o] (cw ad cI cR cS mem ++ [oE cL o f]) (pWrL cdL mem (sNeeded mem x)) (fun u : zM × (Nat → Int64) => cw ad cI cR cS u.1 ++ [oE cL o u.2]) 1 6 := by
  refine zMT.of (cc := cL_neededRope) (maxL := 4) (ret := (some .int)) (hh := [(0, 9, 12, 13)]) (by decide +kernel) rfl (lv0 := [(0, .ref (ad 106)), (1, .int x), (2, .ref o)]) (Nat.le_of_ble_eq_true rfl) rfl ?_
  intro p e s m args below meth c E hZ hN hr hlocks htab
  refine z_aload_n E dL_neededRope_0 rfl 2 rfl ?_
  refine z_iconst (v := 0) E dL_neededRope_1 (by decide) ?_
  refine z_aload_n E dL_neededRope_2 rfl 0 rfl ?_
  refine z_iload_n E dL_neededRope_3 rfl 1 rfl ?_
  refine z_callViX E hZ ((k_neededRope l D ad cI cR cS cL mem (c0 := 1) (s0 := 6) hl x (fun _ _ => ⟨Nat.le_refl 1, Nat.le_refl 6⟩)).fr [] [oE cL o f]) gL_neededRope_X5_neededRope (n := 1) rfl rfl rfl (by decide +kernel) rfl ⟨(Nat.le_of_ble_eq_true rfl), (Nat.le_of_ble_eq_true rfl)⟩ (C := RX5) rfl 106 ow_lad (As := [.int x]) (rest := [.int 0, .ref o]) rfl (Nat.le_of_ble_eq_true rfl) ⟨(Nat.le_of_ble_eq_true rfl), (Nat.le_of_ble_eq_true rfl)⟩ dL_neededRope_4 (fun E0 u0 q9 ce H locs ls hpx hP hD hS hl1 h1 h2 h3q => ?_) (fun r u hp => ?_)
  · skip
    cases x_neededRope hpx.1
    refine z_catch E htab (name := "java/lang/IndexOutOfBoundsException") [] (⟨0, 9, 12, 13⟩ : ExceptionTableEntry) [] rfl (fun z hz => absurd hz List.not_mem_nil) (by decide) (by decide) (List.mem_of_getElem? (i := 1) (by decide +kernel)) (hZ.2.2.2.2.2.2.2.2.2.2.2.2.2.2.2.2.2.2.2.2 _ (List.mem_of_getElem? (i := 0) rfl)) hP hD hS hl1 h1 h2 h3q ?_
    refine z_eq (ws' := cw ad cI cR cS u0 ++ [oE cL o f]) (lv' := [(0, .ref (ad 106)), (1, .int x), (2, .ref o)]) (st' := [.ref q9]) rfl rfl rfl ?_
    refine z_astore_n (lv' := [(3, .ref q9), (0, .ref (ad 106)), (1, .int x), (2, .ref o)]) E dL_neededRope_12 rfl (by decide) rfl ?_
    refine z_iconst (v := 1) E dL_neededRope_13 (by decide) ?_
    exact z_iretM E hr hlocks (u0, f) rfl (⟨by rw [hpx.2]; exact fun _ _ => rfl, Or.inl ⟨_, hpx.1, rfl⟩⟩) (Nat.le_of_ble_eq_true rfl) (Nat.le_of_ble_eq_true rfl) dL_neededRope_14
  · skip
    refine z_eq (ws' := cw ad cI cR cS u ++ [oE cL o f]) (lv' := [(0, .ref (ad 106)), (1, .int x), (2, .ref o)]) (st' := [.int r, .int 0, .ref o]) rfl rfl rfl ?_
    refine z_i2l (v := r.toInt64) E dL_neededRope_7 rfl ?_
    refine z_last E 107 3 (f := f) ow_at rfl (zvin rfl) (ws' := cw ad cI cR cS u ++ [oE cL o (vp_updL f 0 r.toInt64)]) (ow_set (y := oE cL o (vp_updL f 0 r.toInt64))) dL_neededRope_8 ?_
    refine z_goto (tgt := 15) E dL_neededRope_9 (by decide) ?_
    refine z_iconst (v := 0) E dL_neededRope_15 (by decide) ?_
    exact z_iretM E hr hlocks (u, vp_updL f 0 r.toInt64) rfl (⟨hp.2, Or.inr ⟨r, hp.1, rfl, rfl⟩⟩) (Nat.le_of_ble_eq_true rfl) (Nat.le_of_ble_eq_true rfl) dL_neededRope_16
set_option maxHeartbeats 1000000 in
set_option maxRecDepth 100000 in
theorem w_bestBase (l : Launch) (D : va_G) (ad : Nat → Nat) (cI cR cS cL : ClassId) (mem : zM) (hl : l.stackTraces = false) (o : Nat) (f : Nat → Int64) (x : Int32)  : zMT l yL_bestBase wsL_bestBase ({ frames := 8, cells := 1, slots := 6, locals := 136 }) D (cK cI cR cS cL) [.ref (ad 106), .int x, .ref o] (cw ad cI cR cS mem ++ [oE cL o f]) (pWrL cdL mem (sBest mem x)) (fun u : zM × (Nat → Int64) => cw ad cI cR cS u.1 ++ [oE cL o u.2]) 1 6 := by
  refine zMT.of (cc := cL_bestBase) (maxL := 4) (ret := (some .int)) (hh := [(0, 9, 12, 13)]) (by decide +kernel) rfl (lv0 := [(0, .ref (ad 106)), (1, .int x), (2, .ref o)]) (Nat.le_of_ble_eq_true rfl) rfl ?_
  intro p e s m args below meth c E hZ hN hr hlocks htab
  refine z_aload_n E dL_bestBase_0 rfl 2 rfl ?_
  refine z_iconst (v := 0) E dL_bestBase_1 (by decide) ?_
  refine z_aload_n E dL_bestBase_2 rfl 0 rfl ?_
  refine z_iload_n E dL_bestBase_3 rfl 1 rfl ?_
  refine z_callViX E hZ ((k_bestBase l D ad cI cR cS cL mem (c0 := 1) (s0 := 6) hl x (fun _ _ => ⟨Nat.le_refl 1, Nat.le_refl 6⟩)).fr [] [oE cL o f]) gL_bestBase_X5_bestBase (n := 1) rfl rfl rfl (by decide +kernel) rfl ⟨(Nat.le_of_ble_eq_true rfl), (Nat.le_of_ble_eq_true rfl)⟩ (C := RX5) rfl 106 ow_lad (As := [.int x]) (rest := [.int 0, .ref o]) rfl (Nat.le_of_ble_eq_true rfl) ⟨(Nat.le_of_ble_eq_true rfl), (Nat.le_of_ble_eq_true rfl)⟩ dL_bestBase_4 (fun E0 u0 q9 ce H locs ls hpx hP hD hS hl1 h1 h2 h3q => ?_) (fun r u hp => ?_)
  · skip
    cases x_bestBase hpx.1
    refine z_catch E htab (name := "java/lang/IndexOutOfBoundsException") [] (⟨0, 9, 12, 13⟩ : ExceptionTableEntry) [] rfl (fun z hz => absurd hz List.not_mem_nil) (by decide) (by decide) (List.mem_of_getElem? (i := 1) (by decide +kernel)) (hZ.2.2.2.2.2.2.2.2.2.2.2.2.2.2.2.2.2.2.2.2 _ (List.mem_of_getElem? (i := 0) rfl)) hP hD hS hl1 h1 h2 h3q ?_
    refine z_eq (ws' := cw ad cI cR cS u0 ++ [oE cL o f]) (lv' := [(0, .ref (ad 106)), (1, .int x), (2, .ref o)]) (st' := [.ref q9]) rfl rfl rfl ?_
    refine z_astore_n (lv' := [(3, .ref q9), (0, .ref (ad 106)), (1, .int x), (2, .ref o)]) E dL_bestBase_12 rfl (by decide) rfl ?_
    refine z_iconst (v := 1) E dL_bestBase_13 (by decide) ?_
    exact z_iretM E hr hlocks (u0, f) rfl (⟨by rw [hpx.2]; exact fun _ _ => rfl, Or.inl ⟨_, hpx.1, rfl⟩⟩) (Nat.le_of_ble_eq_true rfl) (Nat.le_of_ble_eq_true rfl) dL_bestBase_14
  · skip
    refine z_eq (ws' := cw ad cI cR cS u ++ [oE cL o f]) (lv' := [(0, .ref (ad 106)), (1, .int x), (2, .ref o)]) (st' := [.int r, .int 0, .ref o]) rfl rfl rfl ?_
    refine z_i2l (v := r.toInt64) E dL_bestBase_7 rfl ?_
    refine z_last E 107 3 (f := f) ow_at rfl (zvin rfl) (ws' := cw ad cI cR cS u ++ [oE cL o (vp_updL f 0 r.toInt64)]) (ow_set (y := oE cL o (vp_updL f 0 r.toInt64))) dL_bestBase_8 ?_
    refine z_goto (tgt := 15) E dL_bestBase_9 (by decide) ?_
    refine z_iconst (v := 0) E dL_bestBase_15 (by decide) ?_
    exact z_iretM E hr hlocks (u, vp_updL f 0 r.toInt64) rfl (⟨hp.2, Or.inr ⟨r, hp.1, rfl, rfl⟩⟩) (Nat.le_of_ble_eq_true rfl) (Nat.le_of_ble_eq_true rfl) dL_bestBase_16
set_option maxHeartbeats 1000000 in
set_option maxRecDepth 100000 in
theorem w_riskiest (l : Launch) (D : va_G) (ad : Nat → Nat) (cI cR cS cL : ClassId) (mem : zM) (hl : l.stackTraces = false) (o : Nat) (f : Nat → Int64) (x : Int32) (h3 : ∀ i, i < 4 → ∃ a, a ≤ 3 ∧ mem (3 * i) 7 = nI a) : zMT l yL_riskiest wsL_riskiest ({ frames := 8, cells := 1, slots := 6, locals := 137 }) D (cK cI cR cS cL) [.ref (ad 106), .int x, .ref o] (cw ad cI cR cS mem ++ [oE cL o f]) (pWrL cdL mem (sRisk mem x)) (fun u : zM × (Nat → Int64) => cw ad cI cR cS u.1 ++ [oE cL o u.2]) 1 6 := by
  refine zMT.of (cc := cL_riskiest) (maxL := 4) (ret := (some .int)) (hh := [(0, 9, 12, 13)]) (by decide +kernel) rfl (lv0 := [(0, .ref (ad 106)), (1, .int x), (2, .ref o)]) (Nat.le_of_ble_eq_true rfl) rfl ?_
  intro p e s m args below meth c E hZ hN hr hlocks htab
  refine z_aload_n E dL_riskiest_0 rfl 2 rfl ?_
  refine z_iconst (v := 0) E dL_riskiest_1 (by decide) ?_
  refine z_aload_n E dL_riskiest_2 rfl 0 rfl ?_
  refine z_iload_n E dL_riskiest_3 rfl 1 rfl ?_
  refine z_callViX E hZ ((k_riskiest l D ad cI cR cS cL mem (c0 := 1) (s0 := 6) hl x h3 (fun _ _ => ⟨Nat.le_refl 1, Nat.le_refl 6⟩)).fr [] [oE cL o f]) gL_riskiest_X5_riskiest (n := 1) rfl rfl rfl (by decide +kernel) rfl ⟨(Nat.le_of_ble_eq_true rfl), (Nat.le_of_ble_eq_true rfl)⟩ (C := RX5) rfl 106 ow_lad (As := [.int x]) (rest := [.int 0, .ref o]) rfl (Nat.le_of_ble_eq_true rfl) ⟨(Nat.le_of_ble_eq_true rfl), (Nat.le_of_ble_eq_true rfl)⟩ dL_riskiest_4 (fun E0 u0 q9 ce H locs ls hpx hP hD hS hl1 h1 h2 h3q => ?_) (fun r u hp => ?_)
  · skip
    cases x_riskiest hpx.1
    refine z_catch E htab (name := "java/lang/IndexOutOfBoundsException") [] (⟨0, 9, 12, 13⟩ : ExceptionTableEntry) [] rfl (fun z hz => absurd hz List.not_mem_nil) (by decide) (by decide) (List.mem_of_getElem? (i := 1) (by decide +kernel)) (hZ.2.2.2.2.2.2.2.2.2.2.2.2.2.2.2.2.2.2.2.2 _ (List.mem_of_getElem? (i := 0) rfl)) hP hD hS hl1 h1 h2 h3q ?_
    refine z_eq (ws' := cw ad cI cR cS u0 ++ [oE cL o f]) (lv' := [(0, .ref (ad 106)), (1, .int x), (2, .ref o)]) (st' := [.ref q9]) rfl rfl rfl ?_
    refine z_astore_n (lv' := [(3, .ref q9), (0, .ref (ad 106)), (1, .int x), (2, .ref o)]) E dL_riskiest_12 rfl (by decide) rfl ?_
    refine z_iconst (v := 1) E dL_riskiest_13 (by decide) ?_
    exact z_iretM E hr hlocks (u0, f) rfl (⟨by rw [hpx.2]; exact fun _ _ => rfl, Or.inl ⟨_, hpx.1, rfl⟩⟩) (Nat.le_of_ble_eq_true rfl) (Nat.le_of_ble_eq_true rfl) dL_riskiest_14
  · skip
    refine z_eq (ws' := cw ad cI cR cS u ++ [oE cL o f]) (lv' := [(0, .ref (ad 106)), (1, .int x), (2, .ref o)]) (st' := [.int r, .int 0, .ref o]) rfl rfl rfl ?_
    refine z_i2l (v := r.toInt64) E dL_riskiest_7 rfl ?_
    refine z_last E 107 3 (f := f) ow_at rfl (zvin rfl) (ws' := cw ad cI cR cS u ++ [oE cL o (vp_updL f 0 r.toInt64)]) (ow_set (y := oE cL o (vp_updL f 0 r.toInt64))) dL_riskiest_8 ?_
    refine z_goto (tgt := 15) E dL_riskiest_9 (by decide) ?_
    refine z_iconst (v := 0) E dL_riskiest_15 (by decide) ?_
    exact z_iretM E hr hlocks (u, vp_updL f 0 r.toInt64) rfl (⟨hp.2, Or.inr ⟨r, hp.1, rfl, rfl⟩⟩) (Nat.le_of_ble_eq_true rfl) (Nat.le_of_ble_eq_true rfl) dL_riskiest_16
set_option maxHeartbeats 1000000 in
set_option maxRecDepth 100000 in
theorem w_walls (l : Launch) (D : va_G) (ad : Nat → Nat) (cI cR cS cL : ClassId) (mem : zM) (hl : l.stackTraces = false) (o : Nat) (f : Nat → Int64) (x : Int32)  : zMT l yL_walls wsL_walls ({ frames := 8, cells := 1, slots := 6, locals := 134 }) D (cK cI cR cS cL) [.ref (ad 106), .int x, .ref o] (cw ad cI cR cS mem ++ [oE cL o f]) (pWrL cdL mem (sWalls mem x)) (fun u : zM × (Nat → Int64) => cw ad cI cR cS u.1 ++ [oE cL o u.2]) 1 6 := by
  refine zMT.of (cc := cL_walls) (maxL := 4) (ret := (some .int)) (hh := [(0, 9, 12, 13)]) (by decide +kernel) rfl (lv0 := [(0, .ref (ad 106)), (1, .int x), (2, .ref o)]) (Nat.le_of_ble_eq_true rfl) rfl ?_
  intro p e s m args below meth c E hZ hN hr hlocks htab
  refine z_aload_n E dL_walls_0 rfl 2 rfl ?_
  refine z_iconst (v := 0) E dL_walls_1 (by decide) ?_
  refine z_aload_n E dL_walls_2 rfl 0 rfl ?_
  refine z_iload_n E dL_walls_3 rfl 1 rfl ?_
  refine z_callViX E hZ ((k_walls l D ad cI cR cS cL mem (c0 := 1) (s0 := 6) hl x (fun _ _ => ⟨Nat.le_refl 1, Nat.le_refl 6⟩)).fr [] [oE cL o f]) gL_walls_X5_walls (n := 1) rfl rfl rfl (by decide +kernel) rfl ⟨(Nat.le_of_ble_eq_true rfl), (Nat.le_of_ble_eq_true rfl)⟩ (C := RX5) rfl 106 ow_lad (As := [.int x]) (rest := [.int 0, .ref o]) rfl (Nat.le_of_ble_eq_true rfl) ⟨(Nat.le_of_ble_eq_true rfl), (Nat.le_of_ble_eq_true rfl)⟩ dL_walls_4 (fun E0 u0 q9 ce H locs ls hpx hP hD hS hl1 h1 h2 h3q => ?_) (fun r u hp => ?_)
  · skip
    cases x_walls hpx.1
    refine z_catch E htab (name := "java/lang/IndexOutOfBoundsException") [] (⟨0, 9, 12, 13⟩ : ExceptionTableEntry) [] rfl (fun z hz => absurd hz List.not_mem_nil) (by decide) (by decide) (List.mem_of_getElem? (i := 1) (by decide +kernel)) (hZ.2.2.2.2.2.2.2.2.2.2.2.2.2.2.2.2.2.2.2.2 _ (List.mem_of_getElem? (i := 0) rfl)) hP hD hS hl1 h1 h2 h3q ?_
    refine z_eq (ws' := cw ad cI cR cS u0 ++ [oE cL o f]) (lv' := [(0, .ref (ad 106)), (1, .int x), (2, .ref o)]) (st' := [.ref q9]) rfl rfl rfl ?_
    refine z_astore_n (lv' := [(3, .ref q9), (0, .ref (ad 106)), (1, .int x), (2, .ref o)]) E dL_walls_12 rfl (by decide) rfl ?_
    refine z_iconst (v := 1) E dL_walls_13 (by decide) ?_
    exact z_iretM E hr hlocks (u0, f) rfl (⟨by rw [hpx.2]; exact fun _ _ => rfl, Or.inl ⟨_, hpx.1, rfl⟩⟩) (Nat.le_of_ble_eq_true rfl) (Nat.le_of_ble_eq_true rfl) dL_walls_14
  · skip
    refine z_eq (ws' := cw ad cI cR cS u ++ [oE cL o f]) (lv' := [(0, .ref (ad 106)), (1, .int x), (2, .ref o)]) (st' := [.int r, .int 0, .ref o]) rfl rfl rfl ?_
    refine z_i2l (v := r.toInt64) E dL_walls_7 rfl ?_
    refine z_last E 107 3 (f := f) ow_at rfl (zvin rfl) (ws' := cw ad cI cR cS u ++ [oE cL o (vp_updL f 0 r.toInt64)]) (ow_set (y := oE cL o (vp_updL f 0 r.toInt64))) dL_walls_8 ?_
    refine z_goto (tgt := 15) E dL_walls_9 (by decide) ?_
    refine z_iconst (v := 0) E dL_walls_15 (by decide) ?_
    exact z_iretM E hr hlocks (u, vp_updL f 0 r.toInt64) rfl (⟨hp.2, Or.inr ⟨r, hp.1, rfl, rfl⟩⟩) (Nat.le_of_ble_eq_true rfl) (Nat.le_of_ble_eq_true rfl) dL_walls_16
