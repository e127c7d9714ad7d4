/-! a change of a ladder, as the law tries it -/
theorem x_put {mem : zM} {q z : Nat} {x b h g : Int32} {E : String} {u : zM} (hS : sPut mem q z x b h g = (.inl E, u)) : E = "java/lang/IndexOutOfBoundsException" ∨ E = "java/lang/IllegalArgumentException" := by
  unfold sPut at hS
  repeat' split at hS
  all_goals (cases hS; try first | exact Or.inl rfl | exact Or.inr (rfl))
theorem x_kinds {mem : zM} {q z : Nat} {x b h : Int32} {E : String} {u : zM} (hS : sKinds mem q z x b h = (.inl E, u)) : E = "java/lang/IndexOutOfBoundsException" ∨ E = "java/lang/IllegalArgumentException" := by
  unfold sKinds at hS
  repeat' split at hS
  all_goals (cases hS; try first | exact Or.inl rfl | exact Or.inr (rfl))
theorem x_rope {mem : zM} {q z : Nat} {x b : Int32} {E : String} {u : zM} (hS : sRope mem q z x b = (.inl E, u)) : E = "java/lang/IndexOutOfBoundsException" ∨ E = "java/lang/IllegalArgumentException" := by
  unfold sRope at hS
  repeat' split at hS
  all_goals (cases hS; try first | exact Or.inl rfl | exact Or.inr (rfl))
theorem x_on {mem : zM} {q z : Nat} {x b : Int32} {E : String} {u : zM} (hS : sOn mem q z x b = (.inl E, u)) : E = "java/lang/IndexOutOfBoundsException" ∨ E = "java/lang/IllegalArgumentException" ∨ E = "java/lang/IllegalStateException" := by
  unfold sOn at hS
  repeat' split at hS
  all_goals (cases hS; try first | exact Or.inl rfl | exact Or.inr (Or.inl rfl) | exact Or.inr (Or.inr (rfl)))
theorem x_off {mem : zM} {q z : Nat} {x b : Int32} {E : String} {u : zM} (hS : sOff mem q z x b = (.inl E, u)) : E = "java/lang/IndexOutOfBoundsException" := by
  unfold sOff at hS
  repeat' split at hS
  all_goals (cases hS; try first | exact rfl)
theorem x_climb {mem : zM} {q z : Nat} {x b g : Int32} {E : String} {u : zM} (hS : sClimb mem q z x b g = (.inl E, u)) : E = "java/lang/IndexOutOfBoundsException" ∨ E = "java/lang/IllegalArgumentException" := by
  unfold sClimb at hS
  repeat' split at hS
  all_goals (cases hS; try first | exact Or.inl rfl | exact Or.inr (rfl))
set_option maxHeartbeats 1000000 in
set_option maxRecDepth 100000 in
theorem w_put (l : Launch) (D : va_G) (ad : Nat → Nat) (cI cR cS cL : ClassId) (mem : zM) (hl : l.stackTraces = false) (o : Nat) (f : Nat → Int32) (x a b : Int32) {q : Nat} (hq : q < 6) (hn : mem 101 1 = nI q) {z : Nat} (hz : z ≤ 6) (hs : mem 101 2 = nI z) : zMT l yL_changes wsL_changes ({ frames := 8, cells := 1, slots := 6, locals := 137 }) D (cK cI cR cS cL) [.ref (ad 106), .int 0, .int x, .int a, .int b, .ref o] (cw ad cI cR cS mem ++ [iE cI o f]) (pWr (sPut mem q z x a b (5 + a / 2))) (fun u : zM × (Nat → Int32) => cw ad cI cR cS u.1 ++ [iE cI o u.2]) 1 6 := by
  refine zMT.of (cc := cL_changes) (maxL := 7) (ret := (some .int)) (hh := [(0, 90, 93, 31), (0, 90, 97, 33), (0, 90, 101, 35)]) (by decide +kernel) rfl (lv0 := [(0, .ref (ad 106)), (1, .int 0), (2, .int x), (3, .int a), (4, .int b), (5, .ref o)]) (Nat.le_of_ble_eq_true rfl) rfl ?_
  intro p e s m args below meth c E hZ hN hr hlocks htab
  refine z_aload E dL_changes_0 5 rfl ?_
  refine z_iconst (v := 0) E dL_changes_2 (by decide) ?_
  refine z_iload_n E dL_changes_3 rfl 1 rfl ?_
  refine z_if_ne_f (tgt := 23) E dL_changes_4 (by decide) (by decide) ?_
  refine z_aload_n E dL_changes_7 rfl 0 rfl ?_
  refine z_iload_n E dL_changes_8 rfl 2 rfl ?_
  refine z_iload_n E dL_changes_9 rfl 3 rfl ?_
  refine z_iload E dL_changes_10 4 rfl ?_
  refine z_iconst (v := 5) E dL_changes_12 (by decide) ?_
  refine z_iload_n E dL_changes_13 rfl 3 rfl ?_
  refine z_iconst (v := 2) E dL_changes_14 (by decide) ?_
  refine z_idiv E dL_changes_15 (by decide) ?_
  refine z_iadd E dL_changes_16 ?_
  refine z_callViX E hZ ((k_put l D ad cI cR cS cL mem (c0 := 1) (s0 := 6) hl x a b (5 + a / 2) hq hn hz hs (fun _ _ _ => ⟨Nat.le_refl 1, Nat.le_refl 6⟩)).fr [] [iE cI o f]) gL_changes_X5_put (n := 4) rfl rfl rfl (by decide +kernel) rfl ⟨(Nat.le_of_ble_eq_true rfl), (Nat.le_of_ble_eq_true rfl)⟩ (C := RX5) rfl 106 ow_lad (As := [.int x, .int a, .int b, .int (5 + a / 2)]) (rest := [.int 0, .ref o]) rfl (Nat.le_of_ble_eq_true rfl) ⟨(Nat.le_of_ble_eq_true rfl), (Nat.le_of_ble_eq_true rfl)⟩ dL_changes_17 (fun E0 u0 q9 ce H locs ls hpx hP hD hS hl1 h1 h2 h3q => ?_) (fun r u hp => ?_)
  · skip
    rcases x_put hpx with rfl | rfl
    · skip
      refine z_catch E htab (name := "java/lang/IndexOutOfBoundsException") [] (⟨0, 90, 93, 31⟩ : ExceptionTableEntry) [(⟨0, 90, 97, 33⟩ : ExceptionTableEntry), (⟨0, 90, 101, 35⟩ : ExceptionTableEntry)] rfl (fun z hz => absurd hz List.not_mem_nil) (by decide) (by decide) (List.mem_of_getElem? (i := 1) (by decide +kernel)) (hZ.2.2.2.2.2.2.2.2.2.2.2.2.2.2.2.2.2.2 _ (List.mem_of_getElem? (i := 0) rfl)) hP hD hS hl1 h1 h2 h3q ?_
      refine z_eq (ws' := cw ad cI cR cS u0 ++ [iE cI o f]) (lv' := [(0, .ref (ad 106)), (1, .int 0), (2, .int x), (3, .int a), (4, .int b), (5, .ref o)]) (st' := [.ref q9]) rfl rfl rfl ?_
      refine z_astore (lv' := [(6, .ref q9), (0, .ref (ad 106)), (1, .int 0), (2, .int x), (3, .int a), (4, .int b), (5, .ref o)]) E dL_changes_93 (by decide) rfl ?_
      refine z_iconst (v := 1) E dL_changes_95 (by decide) ?_
      exact z_iretM E hr hlocks (u0, f) rfl (Or.inl ⟨_, hpx, by decide⟩) (Nat.le_of_ble_eq_true rfl) (Nat.le_of_ble_eq_true rfl) dL_changes_96
    · skip
      refine z_catch E htab (name := "java/lang/IllegalArgumentException") [(⟨0, 90, 93, 31⟩ : ExceptionTableEntry)] (⟨0, 90, 97, 33⟩ : ExceptionTableEntry) [(⟨0, 90, 101, 35⟩ : ExceptionTableEntry)] rfl (List.forall_mem_cons.mpr ⟨⟨by decide, "java/lang/IndexOutOfBoundsException", (List.mem_of_getElem? (i := 1) (by decide +kernel)), hN.1⟩, (fun _ h => absurd h List.not_mem_nil)⟩) (by decide) (by decide) (List.mem_of_getElem? (i := 2) (by decide +kernel)) (hZ.2.2.2.2.2.2.2.2.2.2.2.2.2.2.2.2.2.2 _ (List.mem_of_getElem? (i := 1) rfl)) hP hD hS hl1 h1 h2 h3q ?_
      refine z_eq (ws' := cw ad cI cR cS u0 ++ [iE cI o f]) (lv' := [(0, .ref (ad 106)), (1, .int 0), (2, .int x), (3, .int a), (4, .int b), (5, .ref o)]) (st' := [.ref q9]) rfl rfl rfl ?_
      refine z_astore (lv' := [(6, .ref q9), (0, .ref (ad 106)), (1, .int 0), (2, .int x), (3, .int a), (4, .int b), (5, .ref o)]) E dL_changes_97 (by decide) rfl ?_
      refine z_iconst (v := 2) E dL_changes_99 (by decide) ?_
      exact z_iretM E hr hlocks (u0, f) rfl (Or.inl ⟨_, hpx, by decide⟩) (Nat.le_of_ble_eq_true rfl) (Nat.le_of_ble_eq_true rfl) dL_changes_100
  · skip
    refine z_eq (ws' := cw ad cI cR cS u ++ [iE cI o f]) (lv' := [(0, .ref (ad 106)), (1, .int 0), (2, .int x), (3, .int a), (4, .int b), (5, .ref o)]) (st' := [.int r, .int 0, .ref o]) rfl rfl rfl ?_
    refine z_goto (tgt := 89) E dL_changes_20 (by decide) ?_
    refine z_iast E 107 0 (ow_at (x := iE cI o f)) rfl (zvin rfl) (ws' := cw ad cI cR cS u ++ [iE cI o (upd f 0 r)]) (ow_set (y := iE cI o (upd f 0 r))) dL_changes_89 ?_
    refine z_goto (tgt := 105) E dL_changes_90 (by decide) ?_
    refine z_iconst (v := 0) E dL_changes_105 (by decide) ?_
    exact z_iretM E hr hlocks (u, upd f 0 r) rfl (Or.inr ⟨r, hp, rfl, (pk_us : upd f 0 r 0 = r)⟩) (Nat.le_of_ble_eq_true rfl) (Nat.le_of_ble_eq_true rfl) dL_changes_106
set_option maxHeartbeats 1000000 in
set_option maxRecDepth 100000 in
theorem w_kinds (l : Launch) (D : va_G) (ad : Nat → Nat) (cI cR cS cL : ClassId) (mem : zM) (hl : l.stackTraces = false) (o : Nat) (f : Nat → Int32) (x a b : Int32) {q : Nat} (hq : q < 6) (hn : mem 101 1 = nI q) {z : Nat} (hz : z ≤ 6) (hs : mem 101 2 = nI z) : zMT l yL_changes wsL_changes ({ frames := 8, cells := 1, slots := 6, locals := 137 }) D (cK cI cR cS cL) [.ref (ad 106), .int 1, .int x, .int a, .int b, .ref o] (cw ad cI cR cS mem ++ [iE cI o f]) (pWr (sKinds mem q z x a b)) (fun u : zM × (Nat → Int32) => cw ad cI cR cS u.1 ++ [iE cI o u.2]) 1 6 := by
  refine zMT.of (cc := cL_changes) (maxL := 7) (ret := (some .int)) (hh := [(0, 90, 93, 31), (0, 90, 97, 33), (0, 90, 101, 35)]) (by decide +kernel) rfl (lv0 := [(0, .ref (ad 106)), (1, .int 1), (2, .int x), (3, .int a), (4, .int b), (5, .ref o)]) (Nat.le_of_ble_eq_true rfl) rfl ?_
  intro p e s m args below meth c E hZ hN hr hlocks htab
  refine z_aload E dL_changes_0 5 rfl ?_
  refine z_iconst (v := 0) E dL_changes_2 (by decide) ?_
  refine z_iload_n E dL_changes_3 rfl 1 rfl ?_
  refine z_if_ne_t (tgt := 23) E dL_changes_4 (by decide) (by decide) ?_
  refine z_iload_n E dL_changes_23 rfl 1 rfl ?_
  refine z_iconst (v := 1) E dL_changes_24 (by decide) ?_
  refine z_icmp_ne_f (tgt := 39) E dL_changes_25 (by decide) (by decide) ?_
  refine z_aload_n E dL_changes_28 rfl 0 rfl ?_
  refine z_iload_n E dL_changes_29 rfl 2 rfl ?_
  refine z_iload_n E dL_changes_30 rfl 3 rfl ?_
  refine z_iload E dL_changes_31 4 rfl ?_
  refine z_callViX E hZ ((k_kinds l D ad cI cR cS cL mem (c0 := 1) (s0 := 6) hl x a b hq hn hz hs (fun _ _ _ => ⟨Nat.le_refl 1, Nat.le_refl 6⟩)).fr [] [iE cI o f]) gL_changes_X5_kinds (n := 3) rfl rfl rfl (by decide +kernel) rfl ⟨(Nat.le_of_ble_eq_true rfl), (Nat.le_of_ble_eq_true rfl)⟩ (C := RX5) rfl 106 ow_lad (As := [.int x, .int a, .int b]) (rest := [.int 0, .ref o]) rfl (Nat.le_of_ble_eq_true rfl) ⟨(Nat.le_of_ble_eq_true rfl), (Nat.le_of_ble_eq_true rfl)⟩ dL_changes_33 (fun E0 u0 q9 ce H locs ls hpx hP hD hS hl1 h1 h2 h3q => ?_) (fun r u hp => ?_)
  · skip
    rcases x_kinds hpx with rfl | rfl
    · skip
      refine z_catch E htab (name := "java/lang/IndexOutOfBoundsException") [] (⟨0, 90, 93, 31⟩ : ExceptionTableEntry) [(⟨0, 90, 97, 33⟩ : ExceptionTableEntry), (⟨0, 90, 101, 35⟩ : ExceptionTableEntry)] rfl (fun z hz => absurd hz List.not_mem_nil) (by decide) (by decide) (List.mem_of_getElem? (i := 1) (by decide +kernel)) (hZ.2.2.2.2.2.2.2.2.2.2.2.2.2.2.2.2.2.2 _ (List.mem_of_getElem? (i := 0) rfl)) hP hD hS hl1 h1 h2 h3q ?_
      refine z_eq (ws' := cw ad cI cR cS u0 ++ [iE cI o f]) (lv' := [(0, .ref (ad 106)), (1, .int 1), (2, .int x), (3, .int a), (4, .int b), (5, .ref o)]) (st' := [.ref q9]) rfl rfl rfl ?_
      refine z_astore (lv' := [(6, .ref q9), (0, .ref (ad 106)), (1, .int 1), (2, .int x), (3, .int a), (4, .int b), (5, .ref o)]) E dL_changes_93 (by decide) rfl ?_
      refine z_iconst (v := 1) E dL_changes_95 (by decide) ?_
      exact z_iretM E hr hlocks (u0, f) rfl (Or.inl ⟨_, hpx, by decide⟩) (Nat.le_of_ble_eq_true rfl) (Nat.le_of_ble_eq_true rfl) dL_changes_96
    · skip
      refine z_catch E htab (name := "java/lang/IllegalArgumentException") [(⟨0, 90, 93, 31⟩ : ExceptionTableEntry)] (⟨0, 90, 97, 33⟩ : ExceptionTableEntry) [(⟨0, 90, 101, 35⟩ : ExceptionTableEntry)] rfl (List.forall_mem_cons.mpr ⟨⟨by decide, "java/lang/IndexOutOfBoundsException", (List.mem_of_getElem? (i := 1) (by decide +kernel)), hN.1⟩, (fun _ h => absurd h List.not_mem_nil)⟩) (by decide) (by decide) (List.mem_of_getElem? (i := 2) (by decide +kernel)) (hZ.2.2.2.2.2.2.2.2.2.2.2.2.2.2.2.2.2.2 _ (List.mem_of_getElem? (i := 1) rfl)) hP hD hS hl1 h1 h2 h3q ?_
      refine z_eq (ws' := cw ad cI cR cS u0 ++ [iE cI o f]) (lv' := [(0, .ref (ad 106)), (1, .int 1), (2, .int x), (3, .int a), (4, .int b), (5, .ref o)]) (st' := [.ref q9]) rfl rfl rfl ?_
      refine z_astore (lv' := [(6, .ref q9), (0, .ref (ad 106)), (1, .int 1), (2, .int x), (3, .int a), (4, .int b), (5, .ref o)]) E dL_changes_97 (by decide) rfl ?_
      refine z_iconst (v := 2) E dL_changes_99 (by decide) ?_
      exact z_iretM E hr hlocks (u0, f) rfl (Or.inl ⟨_, hpx, by decide⟩) (Nat.le_of_ble_eq_true rfl) (Nat.le_of_ble_eq_true rfl) dL_changes_100
  · skip
    refine z_eq (ws' := cw ad cI cR cS u ++ [iE cI o f]) (lv' := [(0, .ref (ad 106)), (1, .int 1), (2, .int x), (3, .int a), (4, .int b), (5, .ref o)]) (st' := [.int r, .int 0, .ref o]) rfl rfl rfl ?_
    refine z_goto (tgt := 89) E dL_changes_36 (by decide) ?_
    refine z_iast E 107 0 (ow_at (x := iE cI o f)) rfl (zvin rfl) (ws' := cw ad cI cR cS u ++ [iE cI o (upd f 0 r)]) (ow_set (y := iE cI o (upd f 0 r))) dL_changes_89 ?_
    refine z_goto (tgt := 105) E dL_changes_90 (by decide) ?_
    refine z_iconst (v := 0) E dL_changes_105 (by decide) ?_
    exact z_iretM E hr hlocks (u, upd f 0 r) rfl (Or.inr ⟨r, hp, rfl, (pk_us : upd f 0 r 0 = r)⟩) (Nat.le_of_ble_eq_true rfl) (Nat.le_of_ble_eq_true rfl) dL_changes_106
set_option maxHeartbeats 1000000 in
set_option maxRecDepth 100000 in
theorem w_rope (l : Launch) (D : va_G) (ad : Nat → Nat) (cI cR cS cL : ClassId) (mem : zM) (hl : l.stackTraces = false) (o : Nat) (f : Nat → Int32) (x a b : Int32) {q : Nat} (hq : q < 6) (hn : mem 101 1 = nI q) {z : Nat} (hz : z ≤ 6) (hs : mem 101 2 = nI z) : zMT l yL_changes wsL_changes ({ frames := 8, cells := 1, slots := 6, locals := 137 }) D (cK cI cR cS cL) [.ref (ad 106), .int 2, .int x, .int a, .int b, .ref o] (cw ad cI cR cS mem ++ [iE cI o f]) (pWr (sRope mem q z x a)) (fun u : zM × (Nat → Int32) => cw ad cI cR cS u.1 ++ [iE cI o u.2]) 1 6 := by
  refine zMT.of (cc := cL_changes) (maxL := 7) (ret := (some .int)) (hh := [(0, 90, 93, 31), (0, 90, 97, 33), (0, 90, 101, 35)]) (by decide +kernel) rfl (lv0 := [(0, .ref (ad 106)), (1, .int 2), (2, .int x), (3, .int a), (4, .int b), (5, .ref o)]) (Nat.le_of_ble_eq_true rfl) rfl ?_
  intro p e s m args below meth c E hZ hN hr hlocks htab
  refine z_aload E dL_changes_0 5 rfl ?_
  refine z_iconst (v := 0) E dL_changes_2 (by decide) ?_
  refine z_iload_n E dL_changes_3 rfl 1 rfl ?_
  refine z_if_ne_t (tgt := 23) E dL_changes_4 (by decide) (by decide) ?_
  refine z_iload_n E dL_changes_23 rfl 1 rfl ?_
  refine z_iconst (v := 1) E dL_changes_24 (by decide) ?_
  refine z_icmp_ne_t (tgt := 39) E dL_changes_25 (by decide) (by decide) ?_
  refine z_iload_n E dL_changes_39 rfl 1 rfl ?_
  refine z_iconst (v := 2) E dL_changes_40 (by decide) ?_
  refine z_icmp_ne_f (tgt := 53) E dL_changes_41 (by decide) (by decide) ?_
  refine z_aload_n E dL_changes_44 rfl 0 rfl ?_
  refine z_iload_n E dL_changes_45 rfl 2 rfl ?_
  refine z_iload_n E dL_changes_46 rfl 3 rfl ?_
  refine z_callViX E hZ ((k_rope l D ad cI cR cS cL mem (c0 := 1) (s0 := 6) hl x a hq hn hz hs (fun _ _ _ => ⟨Nat.le_refl 1, Nat.le_refl 6⟩)).fr [] [iE cI o f]) gL_changes_X5_rope (n := 2) rfl rfl rfl (by decide +kernel) rfl ⟨(Nat.le_of_ble_eq_true rfl), (Nat.le_of_ble_eq_true rfl)⟩ (C := RX5) rfl 106 ow_lad (As := [.int x, .int a]) (rest := [.int 0, .ref o]) rfl (Nat.le_of_ble_eq_true rfl) ⟨(Nat.le_of_ble_eq_true rfl), (Nat.le_of_ble_eq_true rfl)⟩ dL_changes_47 (fun E0 u0 q9 ce H locs ls hpx hP hD hS hl1 h1 h2 h3q => ?_) (fun r u hp => ?_)
  · skip
    rcases x_rope hpx with rfl | rfl
    · skip
      refine z_catch E htab (name := "java/lang/IndexOutOfBoundsException") [] (⟨0, 90, 93, 31⟩ : ExceptionTableEntry) [(⟨0, 90, 97, 33⟩ : ExceptionTableEntry), (⟨0, 90, 101, 35⟩ : ExceptionTableEntry)] rfl (fun z hz => absurd hz List.not_mem_nil) (by decide) (by decide) (List.mem_of_getElem? (i := 1) (by decide +kernel)) (hZ.2.2.2.2.2.2.2.2.2.2.2.2.2.2.2.2.2.2 _ (List.mem_of_getElem? (i := 0) rfl)) hP hD hS hl1 h1 h2 h3q ?_
      refine z_eq (ws' := cw ad cI cR cS u0 ++ [iE cI o f]) (lv' := [(0, .ref (ad 106)), (1, .int 2), (2, .int x), (3, .int a), (4, .int b), (5, .ref o)]) (st' := [.ref q9]) rfl rfl rfl ?_
      refine z_astore (lv' := [(6, .ref q9), (0, .ref (ad 106)), (1, .int 2), (2, .int x), (3, .int a), (4, .int b), (5, .ref o)]) E dL_changes_93 (by decide) rfl ?_
      refine z_iconst (v := 1) E dL_changes_95 (by decide) ?_
      exact z_iretM E hr hlocks (u0, f) rfl (Or.inl ⟨_, hpx, by decide⟩) (Nat.le_of_ble_eq_true rfl) (Nat.le_of_ble_eq_true rfl) dL_changes_96
    · skip
      refine z_catch E htab (name := "java/lang/IllegalArgumentException") [(⟨0, 90, 93, 31⟩ : ExceptionTableEntry)] (⟨0, 90, 97, 33⟩ : ExceptionTableEntry) [(⟨0, 90, 101, 35⟩ : ExceptionTableEntry)] rfl (List.forall_mem_cons.mpr ⟨⟨by decide, "java/lang/IndexOutOfBoundsException", (List.mem_of_getElem? (i := 1) (by decide +kernel)), hN.1⟩, (fun _ h => absurd h List.not_mem_nil)⟩) (by decide) (by decide) (List.mem_of_getElem? (i := 2) (by decide +kernel)) (hZ.2.2.2.2.2.2.2.2.2.2.2.2.2.2.2.2.2.2 _ (List.mem_of_getElem? (i := 1) rfl)) hP hD hS hl1 h1 h2 h3q ?_
      refine z_eq (ws' := cw ad cI cR cS u0 ++ [iE cI o f]) (lv' := [(0, .ref (ad 106)), (1, .int 2), (2, .int x), (3, .int a), (4, .int b), (5, .ref o)]) (st' := [.ref q9]) rfl rfl rfl ?_
      refine z_astore (lv' := [(6, .ref q9), (0, .ref (ad 106)), (1, .int 2), (2, .int x), (3, .int a), (4, .int b), (5, .ref o)]) E dL_changes_97 (by decide) rfl ?_
      refine z_iconst (v := 2) E dL_changes_99 (by decide) ?_
      exact z_iretM E hr hlocks (u0, f) rfl (Or.inl ⟨_, hpx, by decide⟩) (Nat.le_of_ble_eq_true rfl) (Nat.le_of_ble_eq_true rfl) dL_changes_100
  · skip
    refine z_eq (ws' := cw ad cI cR cS u ++ [iE cI o f]) (lv' := [(0, .ref (ad 106)), (1, .int 2), (2, .int x), (3, .int a), (4, .int b), (5, .ref o)]) (st' := [.int r, .int 0, .ref o]) rfl rfl rfl ?_
    refine z_goto (tgt := 89) E dL_changes_50 (by decide) ?_
    refine z_iast E 107 0 (ow_at (x := iE cI o f)) rfl (zvin rfl) (ws' := cw ad cI cR cS u ++ [iE cI o (upd f 0 r)]) (ow_set (y := iE cI o (upd f 0 r))) dL_changes_89 ?_
    refine z_goto (tgt := 105) E dL_changes_90 (by decide) ?_
    refine z_iconst (v := 0) E dL_changes_105 (by decide) ?_
    exact z_iretM E hr hlocks (u, upd f 0 r) rfl (Or.inr ⟨r, hp, rfl, (pk_us : upd f 0 r 0 = r)⟩) (Nat.le_of_ble_eq_true rfl) (Nat.le_of_ble_eq_true rfl) dL_changes_106
set_option maxHeartbeats 1000000 in
set_option maxRecDepth 100000 in
theorem w_on (l : Launch) (D : va_G) (ad : Nat → Nat) (cI cR cS cL : ClassId) (mem : zM) (hl : l.stackTraces = false) (o : Nat) (f : Nat → Int32) (x a b : Int32) {q : Nat} (hq : q < 6) (hn : mem 101 1 = nI q) {z : Nat} (hz : z ≤ 6) (hs : mem 101 2 = nI z) : zMT l yL_changes wsL_changes ({ frames := 8, cells := 1, slots := 6, locals := 137 }) D (cK cI cR cS cL) [.ref (ad 106), .int 3, .int x, .int a, .int b, .ref o] (cw ad cI cR cS mem ++ [iE cI o f]) (pWr (sOn mem q z x a)) (fun u : zM × (Nat → Int32) => cw ad cI cR cS u.1 ++ [iE cI o u.2]) 1 6 := by
  refine zMT.of (cc := cL_changes) (maxL := 7) (ret := (some .int)) (hh := [(0, 90, 93, 31), (0, 90, 97, 33), (0, 90, 101, 35)]) (by decide +kernel) rfl (lv0 := [(0, .ref (ad 106)), (1, .int 3), (2, .int x), (3, .int a), (4, .int b), (5, .ref o)]) (Nat.le_of_ble_eq_true rfl) rfl ?_
  intro p e s m args below meth c E hZ hN hr hlocks htab
  refine z_aload E dL_changes_0 5 rfl ?_
  refine z_iconst (v := 0) E dL_changes_2 (by decide) ?_
  refine z_iload_n E dL_changes_3 rfl 1 rfl ?_
  refine z_if_ne_t (tgt := 23) E dL_changes_4 (by decide) (by decide) ?_
  refine z_iload_n E dL_changes_23 rfl 1 rfl ?_
  refine z_iconst (v := 1) E dL_changes_24 (by decide) ?_
  refine z_icmp_ne_t (tgt := 39) E dL_changes_25 (by decide) (by decide) ?_
  refine z_iload_n E dL_changes_39 rfl 1 rfl ?_
  refine z_iconst (v := 2) E dL_changes_40 (by decide) ?_
  refine z_icmp_ne_t (tgt := 53) E dL_changes_41 (by decide) (by decide) ?_
  refine z_iload_n E dL_changes_53 rfl 1 rfl ?_
  refine z_iconst (v := 3) E dL_changes_54 (by decide) ?_
  refine z_icmp_ne_f (tgt := 67) E dL_changes_55 (by decide) (by decide) ?_
  refine z_aload_n E dL_changes_58 rfl 0 rfl ?_
  refine z_iload_n E dL_changes_59 rfl 2 rfl ?_
  refine z_iload_n E dL_changes_60 rfl 3 rfl ?_
  refine z_callViX E hZ ((k_on l D ad cI cR cS cL mem (c0 := 1) (s0 := 6) hl x a hq hn hz hs (fun _ _ _ => ⟨Nat.le_refl 1, Nat.le_refl 6⟩)).fr [] [iE cI o f]) gL_changes_X5_on (n := 2) rfl rfl rfl (by decide +kernel) rfl ⟨(Nat.le_of_ble_eq_true rfl), (Nat.le_of_ble_eq_true rfl)⟩ (C := RX5) rfl 106 ow_lad (As := [.int x, .int a]) (rest := [.int 0, .ref o]) rfl (Nat.le_of_ble_eq_true rfl) ⟨(Nat.le_of_ble_eq_true rfl), (Nat.le_of_ble_eq_true rfl)⟩ dL_changes_61 (fun E0 u0 q9 ce H locs ls hpx hP hD hS hl1 h1 h2 h3q => ?_) (fun r u hp => ?_)
  · skip
    rcases x_on hpx with rfl | rfl | rfl
    · skip
      refine z_catch E htab (name := "java/lang/IndexOutOfBoundsException") [] (⟨0, 90, 93, 31⟩ : ExceptionTableEntry) [(⟨0, 90, 97, 33⟩ : ExceptionTableEntry), (⟨0, 90, 101, 35⟩ : ExceptionTableEntry)] rfl (fun z hz => absurd hz List.not_mem_nil) (by decide) (by decide) (List.mem_of_getElem? (i := 1) (by decide +kernel)) (hZ.2.2.2.2.2.2.2.2.2.2.2.2.2.2.2.2.2.2 _ (List.mem_of_getElem? (i := 0) rfl)) hP hD hS hl1 h1 h2 h3q ?_
      refine z_eq (ws' := cw ad cI cR cS u0 ++ [iE cI o f]) (lv' := [(0, .ref (ad 106)), (1, .int 3), (2, .int x), (3, .int a), (4, .int b), (5, .ref o)]) (st' := [.ref q9]) rfl rfl rfl ?_
      refine z_astore (lv' := [(6, .ref q9), (0, .ref (ad 106)), (1, .int 3), (2, .int x), (3, .int a), (4, .int b), (5, .ref o)]) E dL_changes_93 (by decide) rfl ?_
      refine z_iconst (v := 1) E dL_changes_95 (by decide) ?_
      exact z_iretM E hr hlocks (u0, f) rfl (Or.inl ⟨_, hpx, by decide⟩) (Nat.le_of_ble_eq_true rfl) (Nat.le_of_ble_eq_true rfl) dL_changes_96
    · skip
      refine z_catch E htab (name := "java/lang/IllegalArgumentException") [(⟨0, 90, 93, 31⟩ : ExceptionTableEntry)] (⟨0, 90, 97, 33⟩ : ExceptionTableEntry) [(⟨0, 90, 101, 35⟩ : ExceptionTableEntry)] rfl (List.forall_mem_cons.mpr ⟨⟨by decide, "java/lang/IndexOutOfBoundsException", (List.mem_of_getElem? (i := 1) (by decide +kernel)), hN.1⟩, (fun _ h => absurd h List.not_mem_nil)⟩) (by decide) (by decide) (List.mem_of_getElem? (i := 2) (by decide +kernel)) (hZ.2.2.2.2.2.2.2.2.2.2.2.2.2.2.2.2.2.2 _ (List.mem_of_getElem? (i := 1) rfl)) hP hD hS hl1 h1 h2 h3q ?_
      refine z_eq (ws' := cw ad cI cR cS u0 ++ [iE cI o f]) (lv' := [(0, .ref (ad 106)), (1, .int 3), (2, .int x), (3, .int a), (4, .int b), (5, .ref o)]) (st' := [.ref q9]) rfl rfl rfl ?_
      refine z_astore (lv' := [(6, .ref q9), (0, .ref (ad 106)), (1, .int 3), (2, .int x), (3, .int a), (4, .int b), (5, .ref o)]) E dL_changes_97 (by decide) rfl ?_
      refine z_iconst (v := 2) E dL_changes_99 (by decide) ?_
      exact z_iretM E hr hlocks (u0, f) rfl (Or.inl ⟨_, hpx, by decide⟩) (Nat.le_of_ble_eq_true rfl) (Nat.le_of_ble_eq_true rfl) dL_changes_100
    · skip
      refine z_catch E htab (name := "java/lang/IllegalStateException") [(⟨0, 90, 93, 31⟩ : ExceptionTableEntry), (⟨0, 90, 97, 33⟩ : ExceptionTableEntry)] (⟨0, 90, 101, 35⟩ : ExceptionTableEntry) [] rfl (List.forall_mem_cons.mpr ⟨⟨by decide, "java/lang/IndexOutOfBoundsException", (List.mem_of_getElem? (i := 1) (by decide +kernel)), hN.2.1⟩, (List.forall_mem_cons.mpr ⟨⟨by decide, "java/lang/IllegalArgumentException", (List.mem_of_getElem? (i := 2) (by decide +kernel)), hN.2.2⟩, (fun _ h => absurd h List.not_mem_nil)⟩)⟩) (by decide) (by decide) (List.mem_of_getElem? (i := 3) (by decide +kernel)) (hZ.2.2.2.2.2.2.2.2.2.2.2.2.2.2.2.2.2.2 _ (List.mem_of_getElem? (i := 2) rfl)) hP hD hS hl1 h1 h2 h3q ?_
      refine z_eq (ws' := cw ad cI cR cS u0 ++ [iE cI o f]) (lv' := [(0, .ref (ad 106)), (1, .int 3), (2, .int x), (3, .int a), (4, .int b), (5, .ref o)]) (st' := [.ref q9]) rfl rfl rfl ?_
      refine z_astore (lv' := [(6, .ref q9), (0, .ref (ad 106)), (1, .int 3), (2, .int x), (3, .int a), (4, .int b), (5, .ref o)]) E dL_changes_101 (by decide) rfl ?_
      refine z_iconst (v := 3) E dL_changes_103 (by decide) ?_
      exact z_iretM E hr hlocks (u0, f) rfl (Or.inl ⟨_, hpx, by decide⟩) (Nat.le_of_ble_eq_true rfl) (Nat.le_of_ble_eq_true rfl) dL_changes_104
  · skip
    refine z_eq (ws' := cw ad cI cR cS u ++ [iE cI o f]) (lv' := [(0, .ref (ad 106)), (1, .int 3), (2, .int x), (3, .int a), (4, .int b), (5, .ref o)]) (st' := [.int r, .int 0, .ref o]) rfl rfl rfl ?_
    refine z_goto (tgt := 89) E dL_changes_64 (by decide) ?_
    refine z_iast E 107 0 (ow_at (x := iE cI o f)) rfl (zvin rfl) (ws' := cw ad cI cR cS u ++ [iE cI o (upd f 0 r)]) (ow_set (y := iE cI o (upd f 0 r))) dL_changes_89 ?_
    refine z_goto (tgt := 105) E dL_changes_90 (by decide) ?_
    refine z_iconst (v := 0) E dL_changes_105 (by decide) ?_
    exact z_iretM E hr hlocks (u, upd f 0 r) rfl (Or.inr ⟨r, hp, rfl, (pk_us : upd f 0 r 0 = r)⟩) (Nat.le_of_ble_eq_true rfl) (Nat.le_of_ble_eq_true rfl) dL_changes_106
set_option maxHeartbeats 1000000 in
set_option maxRecDepth 100000 in
theorem w_off (l : Launch) (D : va_G) (ad : Nat → Nat) (cI cR cS cL : ClassId) (mem : zM) (hl : l.stackTraces = false) (o : Nat) (f : Nat → Int32) (x a b : Int32) {q : Nat} (hq : q < 6) (hn : mem 101 1 = nI q) {z : Nat} (hz : z ≤ 6) (hs : mem 101 2 = nI z) : zMT l yL_changes wsL_changes ({ frames := 8, cells := 1, slots := 6, locals := 137 }) D (cK cI cR cS cL) [.ref (ad 106), .int 4, .int x, .int a, .int b, .ref o] (cw ad cI cR cS mem ++ [iE cI o f]) (pWr (sOff mem q z x a)) (fun u : zM × (Nat → Int32) => cw ad cI cR cS u.1 ++ [iE cI o u.2]) 1 6 := by
  refine zMT.of (cc := cL_changes) (maxL := 7) (ret := (some .int)) (hh := [(0, 90, 93, 31), (0, 90, 97, 33), (0, 90, 101, 35)]) (by decide +kernel) rfl (lv0 := [(0, .ref (ad 106)), (1, .int 4), (2, .int x), (3, .int a), (4, .int b), (5, .ref o)]) (Nat.le_of_ble_eq_true rfl) rfl ?_
  intro p e s m args below meth c E hZ hN hr hlocks htab
  refine z_aload E dL_changes_0 5 rfl ?_
  refine z_iconst (v := 0) E dL_changes_2 (by decide) ?_
  refine z_iload_n E dL_changes_3 rfl 1 rfl ?_
  refine z_if_ne_t (tgt := 23) E dL_changes_4 (by decide) (by decide) ?_
  refine z_iload_n E dL_changes_23 rfl 1 rfl ?_
  refine z_iconst (v := 1) E dL_changes_24 (by decide) ?_
  refine z_icmp_ne_t (tgt := 39) E dL_changes_25 (by decide) (by decide) ?_
  refine z_iload_n E dL_changes_39 rfl 1 rfl ?_
  refine z_iconst (v := 2) E dL_changes_40 (by decide) ?_
  refine z_icmp_ne_t (tgt := 53) E dL_changes_41 (by decide) (by decide) ?_
  refine z_iload_n E dL_changes_53 rfl 1 rfl ?_
  refine z_iconst (v := 3) E dL_changes_54 (by decide) ?_
  refine z_icmp_ne_t (tgt := 67) E dL_changes_55 (by decide) (by decide) ?_
  refine z_iload_n E dL_changes_67 rfl 1 rfl ?_
  refine z_iconst (v := 4) E dL_changes_68 (by decide) ?_
  refine z_icmp_ne_f (tgt := 81) E dL_changes_69 (by decide) (by decide) ?_
  refine z_aload_n E dL_changes_72 rfl 0 rfl ?_
  refine z_iload_n E dL_changes_73 rfl 2 rfl ?_
  refine z_iload_n E dL_changes_74 rfl 3 rfl ?_
  refine z_callViX E hZ ((k_off l D ad cI cR cS cL mem (c0 := 1) (s0 := 6) hl x a hq hn hz hs (fun _ _ _ => ⟨Nat.le_refl 1, Nat.le_refl 6⟩)).fr [] [iE cI o f]) gL_changes_X5_off (n := 2) rfl rfl rfl (by decide +kernel) rfl ⟨(Nat.le_of_ble_eq_true rfl), (Nat.le_of_ble_eq_true rfl)⟩ (C := RX5) rfl 106 ow_lad (As := [.int x, .int a]) (rest := [.int 0, .ref o]) rfl (Nat.le_of_ble_eq_true rfl) ⟨(Nat.le_of_ble_eq_true rfl), (Nat.le_of_ble_eq_true rfl)⟩ dL_changes_75 (fun E0 u0 q9 ce H locs ls hpx hP hD hS hl1 h1 h2 h3q => ?_) (fun r u hp => ?_)
  · skip
    cases x_off hpx
    refine z_catch E htab (name := "java/lang/IndexOutOfBoundsException") [] (⟨0, 90, 93, 31⟩ : ExceptionTableEntry) [(⟨0, 90, 97, 33⟩ : ExceptionTableEntry), (⟨0, 90, 101, 35⟩ : ExceptionTableEntry)] rfl (fun z hz => absurd hz List.not_mem_nil) (by decide) (by decide) (List.mem_of_getElem? (i := 1) (by decide +kernel)) (hZ.2.2.2.2.2.2.2.2.2.2.2.2.2.2.2.2.2.2 _ (List.mem_of_getElem? (i := 0) rfl)) hP hD hS hl1 h1 h2 h3q ?_
    refine z_eq (ws' := cw ad cI cR cS u0 ++ [iE cI o f]) (lv' := [(0, .ref (ad 106)), (1, .int 4), (2, .int x), (3, .int a), (4, .int b), (5, .ref o)]) (st' := [.ref q9]) rfl rfl rfl ?_
    refine z_astore (lv' := [(6, .ref q9), (0, .ref (ad 106)), (1, .int 4), (2, .int x), (3, .int a), (4, .int b), (5, .ref o)]) E dL_changes_93 (by decide) rfl ?_
    refine z_iconst (v := 1) E dL_changes_95 (by decide) ?_
    exact z_iretM E hr hlocks (u0, f) rfl (Or.inl ⟨_, hpx, by decide⟩) (Nat.le_of_ble_eq_true rfl) (Nat.le_of_ble_eq_true rfl) dL_changes_96
  · skip
    refine z_eq (ws' := cw ad cI cR cS u ++ [iE cI o f]) (lv' := [(0, .ref (ad 106)), (1, .int 4), (2, .int x), (3, .int a), (4, .int b), (5, .ref o)]) (st' := [.int r, .int 0, .ref o]) rfl rfl rfl ?_
    refine z_goto (tgt := 89) E dL_changes_78 (by decide) ?_
    refine z_iast E 107 0 (ow_at (x := iE cI o f)) rfl (zvin rfl) (ws' := cw ad cI cR cS u ++ [iE cI o (upd f 0 r)]) (ow_set (y := iE cI o (upd f 0 r))) dL_changes_89 ?_
    refine z_goto (tgt := 105) E dL_changes_90 (by decide) ?_
    refine z_iconst (v := 0) E dL_changes_105 (by decide) ?_
    exact z_iretM E hr hlocks (u, upd f 0 r) rfl (Or.inr ⟨r, hp, rfl, (pk_us : upd f 0 r 0 = r)⟩) (Nat.le_of_ble_eq_true rfl) (Nat.le_of_ble_eq_true rfl) dL_changes_106
set_option maxHeartbeats 1000000 in
set_option maxRecDepth 100000 in
theorem w_climb (l : Launch) (D : va_G) (ad : Nat → Nat) (cI cR cS cL : ClassId) (mem : zM) (hl : l.stackTraces = false) (o : Nat) (f : Nat → Int32) (x a b : Int32) {q : Nat} (hq : q < 6) (hn : mem 101 1 = nI q) {z : Nat} (hz : z ≤ 6) (hs : mem 101 2 = nI z) (hA : ∀ i, i < 4 → ∀ t, t < 3 → ∃ a, a ≤ 10 ∧ mem (3 * i + 2) t = nI a) : zMT l yL_changes wsL_changes ({ frames := 8, cells := 1, slots := 6, locals := 137 }) D (cK cI cR cS cL) [.ref (ad 106), .int 5, .int x, .int a, .int b, .ref o] (cw ad cI cR cS mem ++ [iE cI o f]) (pWr (sClimb mem q z x b a)) (fun u : zM × (Nat → Int32) => cw ad cI cR cS u.1 ++ [iE cI o u.2]) 1 6 := by
  refine zMT.of (cc := cL_changes) (maxL := 7) (ret := (some .int)) (hh := [(0, 90, 93, 31), (0, 90, 97, 33), (0, 90, 101, 35)]) (by decide +kernel) rfl (lv0 := [(0, .ref (ad 106)), (1, .int 5), (2, .int x), (3, .int a), (4, .int b), (5, .ref o)]) (Nat.le_of_ble_eq_true rfl) rfl ?_
  intro p e s m args below meth c E hZ hN hr hlocks htab
  refine z_aload E dL_changes_0 5 rfl ?_
  refine z_iconst (v := 0) E dL_changes_2 (by decide) ?_
  refine z_iload_n E dL_changes_3 rfl 1 rfl ?_
  refine z_if_ne_t (tgt := 23) E dL_changes_4 (by decide) (by decide) ?_
  refine z_iload_n E dL_changes_23 rfl 1 rfl ?_
  refine z_iconst (v := 1) E dL_changes_24 (by decide) ?_
  refine z_icmp_ne_t (tgt := 39) E dL_changes_25 (by decide) (by decide) ?_
  refine z_iload_n E dL_changes_39 rfl 1 rfl ?_
  refine z_iconst (v := 2) E dL_changes_40 (by decide) ?_
  refine z_icmp_ne_t (tgt := 53) E dL_changes_41 (by decide) (by decide) ?_
  refine z_iload_n E dL_changes_53 rfl 1 rfl ?_
  refine z_iconst (v := 3) E dL_changes_54 (by decide) ?_
  refine z_icmp_ne_t (tgt := 67) E dL_changes_55 (by decide) (by decide) ?_
  refine z_iload_n E dL_changes_67 rfl 1 rfl ?_
  refine z_iconst (v := 4) E dL_changes_68 (by decide) ?_
  refine z_icmp_ne_t (tgt := 81) E dL_changes_69 (by decide) (by decide) ?_
  refine z_aload_n E dL_changes_81 rfl 0 rfl ?_
  refine z_iload_n E dL_changes_82 rfl 2 rfl ?_
  refine z_iload E dL_changes_83 4 rfl ?_
  refine z_iload_n E dL_changes_85 rfl 3 rfl ?_
  refine z_callViX E hZ ((k_climb l D ad cI cR cS cL mem (c0 := 1) (s0 := 6) hl x b a hq hn hz hs hA (fun _ _ _ => ⟨Nat.le_refl 1, Nat.le_refl 6⟩)).fr [] [iE cI o f]) gL_changes_X5_climb (n := 3) rfl rfl rfl (by decide +kernel) rfl ⟨(Nat.le_of_ble_eq_true rfl), (Nat.le_of_ble_eq_true rfl)⟩ (C := RX5) rfl 106 ow_lad (As := [.int x, .int b, .int a]) (rest := [.int 0, .ref o]) rfl (Nat.le_of_ble_eq_true rfl) ⟨(Nat.le_of_ble_eq_true rfl), (Nat.le_of_ble_eq_true rfl)⟩ dL_changes_86 (fun E0 u0 q9 ce H locs ls hpx hP hD hS hl1 h1 h2 h3q => ?_) (fun r u hp => ?_)
  · skip
    rcases x_climb hpx with rfl | rfl
    · skip
      refine z_catch E htab (name := "java/lang/IndexOutOfBoundsException") [] (⟨0, 90, 93, 31⟩ : ExceptionTableEntry) [(⟨0, 90, 97, 33⟩ : ExceptionTableEntry), (⟨0, 90, 101, 35⟩ : ExceptionTableEntry)] rfl (fun z hz => absurd hz List.not_mem_nil) (by decide) (by decide) (List.mem_of_getElem? (i := 1) (by decide +kernel)) (hZ.2.2.2.2.2.2.2.2.2.2.2.2.2.2.2.2.2.2 _ (List.mem_of_getElem? (i := 0) rfl)) hP hD hS hl1 h1 h2 h3q ?_
      refine z_eq (ws' := cw ad cI cR cS u0 ++ [iE cI o f]) (lv' := [(0, .ref (ad 106)), (1, .int 5), (2, .int x), (3, .int a), (4, .int b), (5, .ref o)]) (st' := [.ref q9]) rfl rfl rfl ?_
      refine z_astore (lv' := [(6, .ref q9), (0, .ref (ad 106)), (1, .int 5), (2, .int x), (3, .int a), (4, .int b), (5, .ref o)]) E dL_changes_93 (by decide) rfl ?_
      refine z_iconst (v := 1) E dL_changes_95 (by decide) ?_
      exact z_iretM E hr hlocks (u0, f) rfl (Or.inl ⟨_, hpx, by decide⟩) (Nat.le_of_ble_eq_true rfl) (Nat.le_of_ble_eq_true rfl) dL_changes_96
    · skip
      refine z_catch E htab (name := "java/lang/IllegalArgumentException") [(⟨0, 90, 93, 31⟩ : ExceptionTableEntry)] (⟨0, 90, 97, 33⟩ : ExceptionTableEntry) [(⟨0, 90, 101, 35⟩ : ExceptionTableEntry)] rfl (List.forall_mem_cons.mpr ⟨⟨by decide, "java/lang/IndexOutOfBoundsException", (List.mem_of_getElem? (i := 1) (by decide +kernel)), hN.1⟩, (fun _ h => absurd h List.not_mem_nil)⟩) (by decide) (by decide) (List.mem_of_getElem? (i := 2) (by decide +kernel)) (hZ.2.2.2.2.2.2.2.2.2.2.2.2.2.2.2.2.2.2 _ (List.mem_of_getElem? (i := 1) rfl)) hP hD hS hl1 h1 h2 h3q ?_
      refine z_eq (ws' := cw ad cI cR cS u0 ++ [iE cI o f]) (lv' := [(0, .ref (ad 106)), (1, .int 5), (2, .int x), (3, .int a), (4, .int b), (5, .ref o)]) (st' := [.ref q9]) rfl rfl rfl ?_
      refine z_astore (lv' := [(6, .ref q9), (0, .ref (ad 106)), (1, .int 5), (2, .int x), (3, .int a), (4, .int b), (5, .ref o)]) E dL_changes_97 (by decide) rfl ?_
      refine z_iconst (v := 2) E dL_changes_99 (by decide) ?_
      exact z_iretM E hr hlocks (u0, f) rfl (Or.inl ⟨_, hpx, by decide⟩) (Nat.le_of_ble_eq_true rfl) (Nat.le_of_ble_eq_true rfl) dL_changes_100
  · skip
    refine z_eq (ws' := cw ad cI cR cS u ++ [iE cI o f]) (lv' := [(0, .ref (ad 106)), (1, .int 5), (2, .int x), (3, .int a), (4, .int b), (5, .ref o)]) (st' := [.int r, .int 0, .ref o]) rfl rfl rfl ?_
    refine z_iast E 107 0 (ow_at (x := iE cI o f)) rfl (zvin rfl) (ws' := cw ad cI cR cS u ++ [iE cI o (upd f 0 r)]) (ow_set (y := iE cI o (upd f 0 r))) dL_changes_89 ?_
    refine z_goto (tgt := 105) E dL_changes_90 (by decide) ?_
    refine z_iconst (v := 0) E dL_changes_105 (by decide) ?_
    exact z_iretM E hr hlocks (u, upd f 0 r) rfl (Or.inr ⟨r, hp, rfl, (pk_us : upd f 0 r 0 = r)⟩) (Nat.le_of_ble_eq_true rfl) (Nat.le_of_ble_eq_true rfl) dL_changes_106
