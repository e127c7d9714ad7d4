/-! the constructors of the class -/
def wRig (cI : ClassId) (h a b : Nat) : va_W := [(h, .inr (2, [.int 50, .int 150, .int 20, .int 2, .int 2, .int 0, .int 0, .int 0, .ref a, .ref b])), (a, .inl (cI, 3, .inl (fun _ => 0))), (b, .inl (cI, 3, .inl (fun _ => 0)))]
/-- a site: its cell h, its row u 0, its ladders' cells u 1 .. u 12 -/
def wSite (cI cR : ClassId) (h : Nat) (u : Nat → Nat) : va_W := ((([(h, .inr (3, [.ref (u 0), .int 0, .int 0])), (u 0, .inl (cR, 4, .inr (.inr (.inr (.inr (fun k => some (u (1 + 3 * k)))))))) ] ++ wRig cI (u 1) (u 2) (u 3)) ++ wRig cI (u 4) (u 5) (u 6)) ++ wRig cI (u 7) (u 8) (u 9)) ++ wRig cI (u 10) (u 11) (u 12)
/-- the saved sites: the cell h, the row v 0, the sites at v 1, v 15 .. -/
def wHist (cI cR cS : ClassId) (h : Nat) (v : Nat → Nat) : va_W := ((((([(h, .inr (0, [.ref (v 0), .int 0, .int 0])), (v 0, .inl (cS, 6, .inr (.inr (.inr (.inr (fun k => some (v (1 + 14 * k)))))))) ] ++ wSite cI cR (v 1) (fun i => v (2 + i))) ++ wSite cI cR (v 15) (fun i => v (16 + i))) ++ wSite cI cR (v 29) (fun i => v (30 + i))) ++ wSite cI cR (v 43) (fun i => v (44 + i))) ++ wSite cI cR (v 57) (fun i => v (58 + i))) ++ wSite cI cR (v 71) (fun i => v (72 + i))
def wWorks (cI : ClassId) (h a r : Nat) : va_W := [(h, .inr (4, [.ref a, .int 0, .int 0, .ref r])), (a, .inl (cI, 60, .inl (fun _ => 0))), (r, .inr (1, [.int 0, .int 0, .int 0, .int 0, .int 0, .int 0]))]
set_option maxHeartbeats 4000000 in
set_option maxRecDepth 100000 in
theorem i_Rig (l : Launch) (D : va_G) (cI cR cS cL : ClassId) (h0 : Nat) : zMI l yX2_init wsX2_init ({ frames := 1, cells := 2, slots := 6, locals := 12 }) D (cK cI cR cS cL) [.ref h0] [(h0, .inr (2, [.int 0, .int 0, .int 0, .int 0, .int 0, .int 0, .int 0, .int 0, .null, .null]))] (fun _ : Nat × Nat => True) (fun u : Nat × Nat => wRig cI h0 u.1 u.2) 2 6 := by
  refine zMI.of (cc := cX2_init) (maxL := 1) (ret := none) (by decide +kernel) rfl (lv0 := [(0, .ref h0)]) (Nat.le_of_ble_eq_true rfl) rfl ?_
  intro p e s m args below meth c E hZ hO hr hlocks hin0
  refine z_aload_n E dX2_init_0 rfl 0 rfl ?_
  refine z_oi E (List.mem_of_getElem? (i := 1) (by decide +kernel)) (List.mem_of_getElem? (i := 2) (by decide +kernel)) (List.mem_of_getElem? (i := 3) (by decide +kernel)) (Nat.le_of_ble_eq_true rfl) (Nat.le_of_ble_eq_true rfl) dX2_init_1 ?_
  refine z_aload_n E dX2_init_4 rfl 0 rfl ?_
  refine z_bipush (v := 50) E dX2_init_5 (by decide) ?_
  refine z_put E 0 rfl (C := RX2) (T := TX2) (N := 10) rfl (fun _ h => List.mem_cons_of_mem _ (List.mem_append_right _ h)) tyX2 tyX2_ok nmX2 0 (by decide) (List.mem_of_getElem? (i := 4) (by decide +kernel)) rfl rfl rfl rfl (Nat.le_of_ble_eq_true rfl) (ws' := [(h0, .inr (2, [.int 50, .int 0, .int 0, .int 0, .int 0, .int 0, .int 0, .int 0, .null, .null]))]) rfl dX2_init_7 ?_
  refine z_aload_n E dX2_init_10 rfl 0 rfl ?_
  refine z_sipush (v := 150) E dX2_init_11 (by decide) ?_
  refine z_put E 0 rfl (C := RX2) (T := TX2) (N := 10) rfl (fun _ h => List.mem_cons_of_mem _ (List.mem_append_right _ h)) tyX2 tyX2_ok nmX2 1 (by decide) (List.mem_of_getElem? (i := 5) (by decide +kernel)) rfl rfl rfl rfl (Nat.le_of_ble_eq_true rfl) (ws' := [(h0, .inr (2, [.int 50, .int 150, .int 0, .int 0, .int 0, .int 0, .int 0, .int 0, .null, .null]))]) rfl dX2_init_14 ?_
  refine z_aload_n E dX2_init_17 rfl 0 rfl ?_
  refine z_bipush (v := 20) E dX2_init_18 (by decide) ?_
  refine z_put E 0 rfl (C := RX2) (T := TX2) (N := 10) rfl (fun _ h => List.mem_cons_of_mem _ (List.mem_append_right _ h)) tyX2 tyX2_ok nmX2 2 (by decide) (List.mem_of_getElem? (i := 6) (by decide +kernel)) rfl rfl rfl rfl (Nat.le_of_ble_eq_true rfl) (ws' := [(h0, .inr (2, [.int 50, .int 150, .int 20, .int 0, .int 0, .int 0, .int 0, .int 0, .null, .null]))]) rfl dX2_init_20 ?_
  refine z_aload_n E dX2_init_23 rfl 0 rfl ?_
  refine z_iconst (v := 2) E dX2_init_24 (by decide) ?_
  refine z_put E 0 rfl (C := RX2) (T := TX2) (N := 10) rfl (fun _ h => List.mem_cons_of_mem _ (List.mem_append_right _ h)) tyX2 tyX2_ok nmX2 3 (by decide) (List.mem_of_getElem? (i := 7) (by decide +kernel)) rfl rfl rfl rfl (Nat.le_of_ble_eq_true rfl) (ws' := [(h0, .inr (2, [.int 50, .int 150, .int 20, .int 2, .int 0, .int 0, .int 0, .int 0, .null, .null]))]) rfl dX2_init_25 ?_
  refine z_aload_n E dX2_init_28 rfl 0 rfl ?_
  refine z_iconst (v := 2) E dX2_init_29 (by decide) ?_
  refine z_put E 0 rfl (C := RX2) (T := TX2) (N := 10) rfl (fun _ h => List.mem_cons_of_mem _ (List.mem_append_right _ h)) tyX2 tyX2_ok nmX2 4 (by decide) (List.mem_of_getElem? (i := 8) (by decide +kernel)) rfl rfl rfl rfl (Nat.le_of_ble_eq_true rfl) (ws' := [(h0, .inr (2, [.int 50, .int 150, .int 20, .int 2, .int 2, .int 0, .int 0, .int 0, .null, .null]))]) rfl dX2_init_30 ?_
  refine z_aload_n E dX2_init_33 rfl 0 rfl ?_
  refine z_iconst (v := 0) E dX2_init_34 (by decide) ?_
  refine z_put E 0 rfl (C := RX2) (T := TX2) (N := 10) rfl (fun _ h => List.mem_cons_of_mem _ (List.mem_append_right _ h)) tyX2 tyX2_ok nmX2 5 (by decide) (List.mem_of_getElem? (i := 9) (by decide +kernel)) rfl rfl rfl rfl (Nat.le_of_ble_eq_true rfl) (ws' := [(h0, .inr (2, [.int 50, .int 150, .int 20, .int 2, .int 2, .int 0, .int 0, .int 0, .null, .null]))]) rfl dX2_init_35 ?_
  refine z_aload_n E dX2_init_38 rfl 0 rfl ?_
  refine z_iconst (v := 0) E dX2_init_39 (by decide) ?_
  refine z_put E 0 rfl (C := RX2) (T := TX2) (N := 10) rfl (fun _ h => List.mem_cons_of_mem _ (List.mem_append_right _ h)) tyX2 tyX2_ok nmX2 6 (by decide) (List.mem_of_getElem? (i := 10) (by decide +kernel)) rfl rfl rfl rfl (Nat.le_of_ble_eq_true rfl) (ws' := [(h0, .inr (2, [.int 50, .int 150, .int 20, .int 2, .int 2, .int 0, .int 0, .int 0, .null, .null]))]) rfl dX2_init_40 ?_
  refine z_aload_n E dX2_init_43 rfl 0 rfl ?_
  refine z_iconst (v := 0) E dX2_init_44 (by decide) ?_
  refine z_put E 0 rfl (C := RX2) (T := TX2) (N := 10) rfl (fun _ h => List.mem_cons_of_mem _ (List.mem_append_right _ h)) tyX2 tyX2_ok nmX2 7 (by decide) (List.mem_of_getElem? (i := 11) (by decide +kernel)) rfl rfl rfl rfl (Nat.le_of_ble_eq_true rfl) (ws' := [(h0, .inr (2, [.int 50, .int 150, .int 20, .int 2, .int 2, .int 0, .int 0, .int 0, .null, .null]))]) rfl dX2_init_45 ?_
  refine z_aload_n E dX2_init_48 rfl 0 rfl ?_
  refine z_iconst (v := 3) E dX2_init_49 (by decide) ?_
  refine z_newa E (atype := .int) (List.mem_of_getElem? (i := 12) (by decide +kernel)) rfl (fun C h => by cases h) 0 rfl (a0 := (3, .inl (fun _ => 0))) (fun _ => rfl) (by decide) (N' := 3) rfl (by decide) (Nat.le_of_ble_eq_true rfl) (Nat.le_of_ble_eq_true rfl) dX2_init_50 (fun a1 => ?_)
  refine z_eq (ws' := [(h0, .inr (2, [.int 50, .int 150, .int 20, .int 2, .int 2, .int 0, .int 0, .int 0, .null, .null])), (a1, .inl (cI, 3, .inl (fun _ => 0)))]) (lv' := [(0, .ref h0)]) (st' := [.ref a1, .ref h0]) rfl rfl rfl ?_
  refine z_putF E hin0 0 rfl (C := RX2) (T := TX2) (N := 10) rfl (fun _ h => List.mem_cons_of_mem _ (List.mem_append_right _ h)) tyX2 tyX2_ok nmX2 8 (by decide) (List.mem_of_getElem? (i := 13) (by decide +kernel)) rfl rfl rfl rfl rfl (Nat.le_of_ble_eq_true rfl) (ws' := [(h0, .inr (2, [.int 50, .int 150, .int 20, .int 2, .int 2, .int 0, .int 0, .int 0, .ref a1, .null])), (a1, .inl (cI, 3, .inl (fun _ => 0)))]) rfl dX2_init_52 ?_
  refine z_aload_n E dX2_init_55 rfl 0 rfl ?_
  refine z_iconst (v := 3) E dX2_init_56 (by decide) ?_
  refine z_newa E (atype := .int) (List.mem_of_getElem? (i := 12) (by decide +kernel)) rfl (fun C h => by cases h) 0 rfl (a0 := (3, .inl (fun _ => 0))) (fun _ => rfl) (by decide) (N' := 3) rfl (by decide) (Nat.le_of_ble_eq_true rfl) (Nat.le_of_ble_eq_true rfl) dX2_init_57 (fun a2 => ?_)
  refine z_eq (ws' := [(h0, .inr (2, [.int 50, .int 150, .int 20, .int 2, .int 2, .int 0, .int 0, .int 0, .ref a1, .null])), (a1, .inl (cI, 3, .inl (fun _ => 0))), (a2, .inl (cI, 3, .inl (fun _ => 0)))]) (lv' := [(0, .ref h0)]) (st' := [.ref a2, .ref h0]) rfl rfl rfl ?_
  refine z_putF E hin0 0 rfl (C := RX2) (T := TX2) (N := 10) rfl (fun _ h => List.mem_cons_of_mem _ (List.mem_append_right _ h)) tyX2 tyX2_ok nmX2 9 (by decide) (List.mem_of_getElem? (i := 14) (by decide +kernel)) rfl rfl rfl rfl rfl (Nat.le_of_ble_eq_true rfl) (ws' := [(h0, .inr (2, [.int 50, .int 150, .int 20, .int 2, .int 2, .int 0, .int 0, .int 0, .ref a1, .ref a2])), (a1, .inl (cI, 3, .inl (fun _ => 0))), (a2, .inl (cI, 3, .inl (fun _ => 0)))]) rfl dX2_init_59 ?_
  exact z_vretM E hr hlocks ((a1, a2)) rfl trivial (Nat.le_of_ble_eq_true rfl) (Nat.le_of_ble_eq_true rfl) dX2_init_62
set_option maxHeartbeats 4000000 in
set_option maxRecDepth 100000 in
theorem i_Reader (l : Launch) (D : va_G) (cI cR cS cL : ClassId) (h0 : Nat) : zMI l yX1_init wsX1_init ({ frames := 1, cells := 0, slots := 0, locals := 12 }) D (cK cI cR cS cL) [.ref h0] [(h0, .inr (1, [.int 0, .int 0, .int 0, .int 0, .int 0, .int 0]))] (fun _ : Unit => True) (fun u : Unit => [(h0, .inr (1, [.int 0, .int 0, .int 0, .int 0, .int 0, .int 0]))]) 0 0 := by
  refine zMI.of (cc := cX1_init) (maxL := 1) (ret := none) (by decide +kernel) rfl (lv0 := [(0, .ref h0)]) (Nat.le_of_ble_eq_true rfl) rfl ?_
  intro p e s m args below meth c E hZ hO hr hlocks hin0
  refine z_aload_n E dX1_init_0 rfl 0 rfl ?_
  refine z_oi E (List.mem_of_getElem? (i := 1) (by decide +kernel)) (List.mem_of_getElem? (i := 2) (by decide +kernel)) (List.mem_of_getElem? (i := 3) (by decide +kernel)) (Nat.le_of_ble_eq_true rfl) (Nat.le_of_ble_eq_true rfl) dX1_init_1 ?_
  refine z_aload_n E dX1_init_4 rfl 0 rfl ?_
  refine z_iconst (v := 0) E dX1_init_5 (by decide) ?_
  refine z_put E 0 rfl (C := RX1) (T := TX1) (N := 6) rfl (fun _ h => List.mem_cons_of_mem _ (List.mem_append_right _ h)) tyX1 tyX1_ok nmX1 0 (by decide) (List.mem_of_getElem? (i := 4) (by decide +kernel)) rfl rfl rfl rfl (Nat.le_of_ble_eq_true rfl) (ws' := [(h0, .inr (1, [.int 0, .int 0, .int 0, .int 0, .int 0, .int 0]))]) rfl dX1_init_6 ?_
  refine z_aload_n E dX1_init_9 rfl 0 rfl ?_
  refine z_iconst (v := 0) E dX1_init_10 (by decide) ?_
  refine z_put E 0 rfl (C := RX1) (T := TX1) (N := 6) rfl (fun _ h => List.mem_cons_of_mem _ (List.mem_append_right _ h)) tyX1 tyX1_ok nmX1 1 (by decide) (List.mem_of_getElem? (i := 5) (by decide +kernel)) rfl rfl rfl rfl (Nat.le_of_ble_eq_true rfl) (ws' := [(h0, .inr (1, [.int 0, .int 0, .int 0, .int 0, .int 0, .int 0]))]) rfl dX1_init_11 ?_
  refine z_aload_n E dX1_init_14 rfl 0 rfl ?_
  refine z_iconst (v := 0) E dX1_init_15 (by decide) ?_
  refine z_put E 0 rfl (C := RX1) (T := TX1) (N := 6) rfl (fun _ h => List.mem_cons_of_mem _ (List.mem_append_right _ h)) tyX1 tyX1_ok nmX1 2 (by decide) (List.mem_of_getElem? (i := 6) (by decide +kernel)) rfl rfl rfl rfl (Nat.le_of_ble_eq_true rfl) (ws' := [(h0, .inr (1, [.int 0, .int 0, .int 0, .int 0, .int 0, .int 0]))]) rfl dX1_init_16 ?_
  refine z_aload_n E dX1_init_19 rfl 0 rfl ?_
  refine z_iconst (v := 0) E dX1_init_20 (by decide) ?_
  refine z_put E 0 rfl (C := RX1) (T := TX1) (N := 6) rfl (fun _ h => List.mem_cons_of_mem _ (List.mem_append_right _ h)) tyX1 tyX1_ok nmX1 3 (by decide) (List.mem_of_getElem? (i := 7) (by decide +kernel)) rfl rfl rfl rfl (Nat.le_of_ble_eq_true rfl) (ws' := [(h0, .inr (1, [.int 0, .int 0, .int 0, .int 0, .int 0, .int 0]))]) rfl dX1_init_21 ?_
  refine z_aload_n E dX1_init_24 rfl 0 rfl ?_
  refine z_iconst (v := 0) E dX1_init_25 (by decide) ?_
  refine z_put E 0 rfl (C := RX1) (T := TX1) (N := 6) rfl (fun _ h => List.mem_cons_of_mem _ (List.mem_append_right _ h)) tyX1 tyX1_ok nmX1 4 (by decide) (List.mem_of_getElem? (i := 8) (by decide +kernel)) rfl rfl rfl rfl (Nat.le_of_ble_eq_true rfl) (ws' := [(h0, .inr (1, [.int 0, .int 0, .int 0, .int 0, .int 0, .int 0]))]) rfl dX1_init_26 ?_
  refine z_aload_n E dX1_init_29 rfl 0 rfl ?_
  refine z_iconst (v := 0) E dX1_init_30 (by decide) ?_
  refine z_put E 0 rfl (C := RX1) (T := TX1) (N := 6) rfl (fun _ h => List.mem_cons_of_mem _ (List.mem_append_right _ h)) tyX1 tyX1_ok nmX1 5 (by decide) (List.mem_of_getElem? (i := 9) (by decide +kernel)) rfl rfl rfl rfl (Nat.le_of_ble_eq_true rfl) (ws' := [(h0, .inr (1, [.int 0, .int 0, .int 0, .int 0, .int 0, .int 0]))]) rfl dX1_init_31 ?_
  exact z_vretM E hr hlocks (()) rfl trivial (Nat.le_of_ble_eq_true rfl) (Nat.le_of_ble_eq_true rfl) dX1_init_34
set_option maxHeartbeats 4000000 in
set_option maxRecDepth 100000 in
theorem i_Site (l : Launch) (D : va_G) (cI cR cS cL : ClassId) (h0 : Nat) : zMI l yX3_init wsX3_init ({ frames := 2, cells := 13, slots := 68, locals := 32 }) D (cK cI cR cS cL) [.ref h0] [(h0, .inr (3, [.null, .int 0, .int 0]))] (fun _ : Nat → Nat => True) (fun u : Nat → Nat => wSite cI cR h0 u) 13 68 := by
  refine zMI.of (cc := cX3_init) (maxL := 2) (ret := none) (by decide +kernel) rfl (lv0 := [(0, .ref h0)]) (Nat.le_of_ble_eq_true rfl) rfl ?_
  intro p e s m args below meth c E hZ hO hr hlocks hin0
  refine z_aload_n E dX3_init_0 rfl 0 rfl ?_
  refine z_oi E (List.mem_of_getElem? (i := 1) (by decide +kernel)) (List.mem_of_getElem? (i := 2) (by decide +kernel)) (List.mem_of_getElem? (i := 3) (by decide +kernel)) (Nat.le_of_ble_eq_true rfl) (Nat.le_of_ble_eq_true rfl) dX3_init_1 ?_
  refine z_aload_n E dX3_init_4 rfl 0 rfl ?_
  refine z_iconst (v := 4) E dX3_init_5 (by decide) ?_
  refine z_newq E (C := RX2) (List.mem_of_getElem? (i := 4) (by decide +kernel)) hO.1 1 rfl (by decide) (N' := 4) rfl (by decide) (Nat.le_of_ble_eq_true rfl) (Nat.le_of_ble_eq_true rfl) dX3_init_6 (fun a1 => ?_)
  refine z_eq (ws' := [(h0, .inr (3, [.null, .int 0, .int 0])), (a1, .inl (cR, 4, .inr (.inr (.inr (.inr (fun _ => none))))))]) (lv' := [(0, .ref h0)]) (st' := [.ref a1, .ref h0]) rfl rfl rfl ?_
  refine z_putF E hin0 0 rfl (C := RX3) (T := TX3) (N := 3) rfl (fun _ h => List.mem_cons_of_mem _ (List.mem_append_left _ (List.mem_append_right _ h))) tyX3 tyX3_ok nmX3 0 (by decide) (List.mem_of_getElem? (i := 5) (by decide +kernel)) rfl rfl rfl rfl rfl (Nat.le_of_ble_eq_true rfl) (ws' := [(h0, .inr (3, [.ref a1, .int 0, .int 0])), (a1, .inl (cR, 4, .inr (.inr (.inr (.inr (fun _ => none))))))]) rfl dX3_init_9 ?_
  refine z_aload_n E dX3_init_12 rfl 0 rfl ?_
  refine z_iconst (v := 0) E dX3_init_13 (by decide) ?_
  refine z_put E 0 rfl (C := RX3) (T := TX3) (N := 3) rfl (fun _ h => List.mem_cons_of_mem _ (List.mem_append_left _ (List.mem_append_right _ h))) tyX3 tyX3_ok nmX3 1 (by decide) (List.mem_of_getElem? (i := 6) (by decide +kernel)) rfl rfl rfl rfl (Nat.le_of_ble_eq_true rfl) (ws' := [(h0, .inr (3, [.ref a1, .int 0, .int 0])), (a1, .inl (cR, 4, .inr (.inr (.inr (.inr (fun _ => none))))))]) rfl dX3_init_14 ?_
  refine z_aload_n E dX3_init_17 rfl 0 rfl ?_
  refine z_iconst (v := 0) E dX3_init_18 (by decide) ?_
  refine z_put E 0 rfl (C := RX3) (T := TX3) (N := 3) rfl (fun _ h => List.mem_cons_of_mem _ (List.mem_append_left _ (List.mem_append_right _ h))) tyX3 tyX3_ok nmX3 2 (by decide) (List.mem_of_getElem? (i := 7) (by decide +kernel)) rfl rfl rfl rfl (Nat.le_of_ble_eq_true rfl) (ws' := [(h0, .inr (3, [.ref a1, .int 0, .int 0])), (a1, .inl (cR, 4, .inr (.inr (.inr (.inr (fun _ => none))))))]) rfl dX3_init_19 ?_
  refine z_iconst (v := 0) E dX3_init_22 (by decide) ?_
  refine z_istore_n (lv' := [(1, .int 0), (0, .ref h0)]) E dX3_init_23 rfl (by decide) rfl ?_
  refine z_iload_n E dX3_init_24 rfl 0 rfl ?_
  refine z_iconst (v := 4) E dX3_init_25 (by decide) ?_
  refine z_icmp_ge_f (tgt := 48) E dX3_init_26 (by decide) (by decide) ?_
  refine z_aload_n E dX3_init_29 rfl 1 rfl ?_
  refine z_get E 0 rfl (C := RX3) (T := TX3) (N := 3) rfl (fun _ h => List.mem_cons_of_mem _ (List.mem_append_left _ (List.mem_append_right _ h))) 0 (by decide) (List.mem_of_getElem? (i := 5) (by decide +kernel)) rfl (v := .ref a1) rfl dX3_init_30 ?_
  refine z_iload_n E dX3_init_33 rfl 0 rfl ?_
  refine z_new E (C := RX2) (T := TX2) (N := 10) (ci := 2) (fun _ h => List.mem_cons_of_mem _ (List.mem_append_right _ h)) tyX2 tyX2_ok (List.mem_of_getElem? (i := 4) (by decide +kernel)) (List.mem_of_getElem? (i := 8) (by decide +kernel)) (List.mem_of_getElem? (i := 9) (by decide +kernel)) rfl (fs := [.int 0, .int 0, .int 0, .int 0, .int 0, .int 0, .int 0, .int 0, .null, .null]) (fun j hj => by rcases (show j = 0 ∨ j = 1 ∨ j = 2 ∨ j = 3 ∨ j = 4 ∨ j = 5 ∨ j = 6 ∨ j = 7 ∨ j = 8 ∨ j = 9 by omega) with rfl | rfl | rfl | rfl | rfl | rfl | rfl | rfl | rfl | rfl <;> rfl) (Nat.le_of_ble_eq_true rfl) (Nat.le_of_ble_eq_true rfl) dX3_init_34 (fun q2 => ?_)
  refine z_dup E dX3_init_37 rfl ?_
  refine z_callIN E hZ hO ((i_Rig l D cI cR cS cL q2).frR ([(h0, .inr (3, [.ref a1, .int 0, .int 0])), (a1, .inl (cR, 4, .inr (.inr (.inr (.inr (fun _ => none))))))])) gX3_init_X2_init_n24 (n := 0) rfl rfl rfl (List.mem_of_getElem? (i := 9) (by decide +kernel)) hZ.2.2.2.2.2.2.2.2.2.2.2.2.2.2.1 (List.mem_of_getElem? (i := 10) (by decide +kernel)) rfl (by decide +kernel) rfl ⟨(Nat.le_of_ble_eq_true rfl), (Nat.le_of_ble_eq_true rfl)⟩ (As := []) (rest := [.ref q2, .int 0, .ref a1]) rfl (Nat.le_of_ble_eq_true rfl) ⟨(Nat.le_of_ble_eq_true rfl), (Nat.le_of_ble_eq_true rfl)⟩ dX3_init_38 (fun u2 hp => ?_)
  refine z_astq E 1 1 2 2 rfl rfl (vs := [.int 50, .int 150, .int 20, .int 2, .int 2, .int 0, .int 0, .int 0, .ref u2.1, .ref u2.2]) rfl rfl (zvin rfl) (ws' := ([(h0, .inr (3, [.ref a1, .int 0, .int 0])), (a1, .inl (cR, 4, .inr (.inr (.inr (.inr (va_up (fun _ => none) 0 (some q2)))))))]) ++ wRig cI q2 u2.1 u2.2) rfl dX3_init_41 ?_
  refine z_iinc (v := 1) (lv' := [(1, .int 1), (0, .ref h0)]) E dX3_init_42 (q := 0) rfl (by decide) (by decide) rfl ?_
  refine z_goto (tgt := 24) E dX3_init_45 (by decide) ?_
  refine z_iload_n E dX3_init_24 rfl 0 rfl ?_
  refine z_iconst (v := 4) E dX3_init_25 (by decide) ?_
  refine z_icmp_ge_f (tgt := 48) E dX3_init_26 (by decide) (by decide) ?_
  refine z_aload_n E dX3_init_29 rfl 1 rfl ?_
  refine z_get E 0 rfl (C := RX3) (T := TX3) (N := 3) rfl (fun _ h => List.mem_cons_of_mem _ (List.mem_append_left _ (List.mem_append_right _ h))) 0 (by decide) (List.mem_of_getElem? (i := 5) (by decide +kernel)) rfl (v := .ref a1) rfl dX3_init_30 ?_
  refine z_iload_n E dX3_init_33 rfl 0 rfl ?_
  refine z_new E (C := RX2) (T := TX2) (N := 10) (ci := 2) (fun _ h => List.mem_cons_of_mem _ (List.mem_append_right _ h)) tyX2 tyX2_ok (List.mem_of_getElem? (i := 4) (by decide +kernel)) (List.mem_of_getElem? (i := 8) (by decide +kernel)) (List.mem_of_getElem? (i := 9) (by decide +kernel)) rfl (fs := [.int 0, .int 0, .int 0, .int 0, .int 0, .int 0, .int 0, .int 0, .null, .null]) (fun j hj => by rcases (show j = 0 ∨ j = 1 ∨ j = 2 ∨ j = 3 ∨ j = 4 ∨ j = 5 ∨ j = 6 ∨ j = 7 ∨ j = 8 ∨ j = 9 by omega) with rfl | rfl | rfl | rfl | rfl | rfl | rfl | rfl | rfl | rfl <;> rfl) (Nat.le_of_ble_eq_true rfl) (Nat.le_of_ble_eq_true rfl) dX3_init_34 (fun q3 => ?_)
  refine z_dup E dX3_init_37 rfl ?_
  refine z_callIN E hZ hO ((i_Rig l D cI cR cS cL q3).frR (([(h0, .inr (3, [.ref a1, .int 0, .int 0])), (a1, .inl (cR, 4, .inr (.inr (.inr (.inr (va_up (fun _ => none) 0 (some q2)))))))]) ++ wRig cI q2 u2.1 u2.2)) gX3_init_X2_init_n24 (n := 0) rfl rfl rfl (List.mem_of_getElem? (i := 9) (by decide +kernel)) hZ.2.2.2.2.2.2.2.2.2.2.2.2.2.2.1 (List.mem_of_getElem? (i := 10) (by decide +kernel)) rfl (by decide +kernel) rfl ⟨(Nat.le_of_ble_eq_true rfl), (Nat.le_of_ble_eq_true rfl)⟩ (As := []) (rest := [.ref q3, .int 1, .ref a1]) rfl (Nat.le_of_ble_eq_true rfl) ⟨(Nat.le_of_ble_eq_true rfl), (Nat.le_of_ble_eq_true rfl)⟩ dX3_init_38 (fun u3 hp => ?_)
  refine z_astq E 1 1 5 2 rfl rfl (vs := [.int 50, .int 150, .int 20, .int 2, .int 2, .int 0, .int 0, .int 0, .ref u3.1, .ref u3.2]) rfl rfl (zvin rfl) (ws' := (([(h0, .inr (3, [.ref a1, .int 0, .int 0])), (a1, .inl (cR, 4, .inr (.inr (.inr (.inr (va_up (va_up (fun _ => none) 0 (some q2)) 1 (some q3)))))))]) ++ wRig cI q2 u2.1 u2.2) ++ wRig cI q3 u3.1 u3.2) rfl dX3_init_41 ?_
  refine z_iinc (v := 2) (lv' := [(1, .int 2), (0, .ref h0)]) E dX3_init_42 (q := 0) rfl (by decide) (by decide) rfl ?_
  refine z_goto (tgt := 24) E dX3_init_45 (by decide) ?_
  refine z_iload_n E dX3_init_24 rfl 0 rfl ?_
  refine z_iconst (v := 4) E dX3_init_25 (by decide) ?_
  refine z_icmp_ge_f (tgt := 48) E dX3_init_26 (by decide) (by decide) ?_
  refine z_aload_n E dX3_init_29 rfl 1 rfl ?_
  refine z_get E 0 rfl (C := RX3) (T := TX3) (N := 3) rfl (fun _ h => List.mem_cons_of_mem _ (List.mem_append_left _ (List.mem_append_right _ h))) 0 (by decide) (List.mem_of_getElem? (i := 5) (by decide +kernel)) rfl (v := .ref a1) rfl dX3_init_30 ?_
  refine z_iload_n E dX3_init_33 rfl 0 rfl ?_
  refine z_new E (C := RX2) (T := TX2) (N := 10) (ci := 2) (fun _ h => List.mem_cons_of_mem _ (List.mem_append_right _ h)) tyX2 tyX2_ok (List.mem_of_getElem? (i := 4) (by decide +kernel)) (List.mem_of_getElem? (i := 8) (by decide +kernel)) (List.mem_of_getElem? (i := 9) (by decide +kernel)) rfl (fs := [.int 0, .int 0, .int 0, .int 0, .int 0, .int 0, .int 0, .int 0, .null, .null]) (fun j hj => by rcases (show j = 0 ∨ j = 1 ∨ j = 2 ∨ j = 3 ∨ j = 4 ∨ j = 5 ∨ j = 6 ∨ j = 7 ∨ j = 8 ∨ j = 9 by omega) with rfl | rfl | rfl | rfl | rfl | rfl | rfl | rfl | rfl | rfl <;> rfl) (Nat.le_of_ble_eq_true rfl) (Nat.le_of_ble_eq_true rfl) dX3_init_34 (fun q4 => ?_)
  refine z_dup E dX3_init_37 rfl ?_
  refine z_callIN E hZ hO ((i_Rig l D cI cR cS cL q4).frR ((([(h0, .inr (3, [.ref a1, .int 0, .int 0])), (a1, .inl (cR, 4, .inr (.inr (.inr (.inr (va_up (va_up (fun _ => none) 0 (some q2)) 1 (some q3)))))))]) ++ wRig cI q2 u2.1 u2.2) ++ wRig cI q3 u3.1 u3.2)) gX3_init_X2_init_n24 (n := 0) rfl rfl rfl (List.mem_of_getElem? (i := 9) (by decide +kernel)) hZ.2.2.2.2.2.2.2.2.2.2.2.2.2.2.1 (List.mem_of_getElem? (i := 10) (by decide +kernel)) rfl (by decide +kernel) rfl ⟨(Nat.le_of_ble_eq_true rfl), (Nat.le_of_ble_eq_true rfl)⟩ (As := []) (rest := [.ref q4, .int 2, .ref a1]) rfl (Nat.le_of_ble_eq_true rfl) ⟨(Nat.le_of_ble_eq_true rfl), (Nat.le_of_ble_eq_true rfl)⟩ dX3_init_38 (fun u4 hp => ?_)
  refine z_astq E 1 1 8 2 rfl rfl (vs := [.int 50, .int 150, .int 20, .int 2, .int 2, .int 0, .int 0, .int 0, .ref u4.1, .ref u4.2]) rfl rfl (zvin rfl) (ws' := ((([(h0, .inr (3, [.ref a1, .int 0, .int 0])), (a1, .inl (cR, 4, .inr (.inr (.inr (.inr (va_up (va_up (va_up (fun _ => none) 0 (some q2)) 1 (some q3)) 2 (some q4)))))))]) ++ wRig cI q2 u2.1 u2.2) ++ wRig cI q3 u3.1 u3.2) ++ wRig cI q4 u4.1 u4.2) rfl dX3_init_41 ?_
  refine z_iinc (v := 3) (lv' := [(1, .int 3), (0, .ref h0)]) E dX3_init_42 (q := 0) rfl (by decide) (by decide) rfl ?_
  refine z_goto (tgt := 24) E dX3_init_45 (by decide) ?_
  refine z_iload_n E dX3_init_24 rfl 0 rfl ?_
  refine z_iconst (v := 4) E dX3_init_25 (by decide) ?_
  refine z_icmp_ge_f (tgt := 48) E dX3_init_26 (by decide) (by decide) ?_
  refine z_aload_n E dX3_init_29 rfl 1 rfl ?_
  refine z_get E 0 rfl (C := RX3) (T := TX3) (N := 3) rfl (fun _ h => List.mem_cons_of_mem _ (List.mem_append_left _ (List.mem_append_right _ h))) 0 (by decide) (List.mem_of_getElem? (i := 5) (by decide +kernel)) rfl (v := .ref a1) rfl dX3_init_30 ?_
  refine z_iload_n E dX3_init_33 rfl 0 rfl ?_
  refine z_new E (C := RX2) (T := TX2) (N := 10) (ci := 2) (fun _ h => List.mem_cons_of_mem _ (List.mem_append_right _ h)) tyX2 tyX2_ok (List.mem_of_getElem? (i := 4) (by decide +kernel)) (List.mem_of_getElem? (i := 8) (by decide +kernel)) (List.mem_of_getElem? (i := 9) (by decide +kernel)) rfl (fs := [.int 0, .int 0, .int 0, .int 0, .int 0, .int 0, .int 0, .int 0, .null, .null]) (fun j hj => by rcases (show j = 0 ∨ j = 1 ∨ j = 2 ∨ j = 3 ∨ j = 4 ∨ j = 5 ∨ j = 6 ∨ j = 7 ∨ j = 8 ∨ j = 9 by omega) with rfl | rfl | rfl | rfl | rfl | rfl | rfl | rfl | rfl | rfl <;> rfl) (Nat.le_of_ble_eq_true rfl) (Nat.le_of_ble_eq_true rfl) dX3_init_34 (fun q5 => ?_)
  refine z_dup E dX3_init_37 rfl ?_
  refine z_callIN E hZ hO ((i_Rig l D cI cR cS cL q5).frR (((([(h0, .inr (3, [.ref a1, .int 0, .int 0])), (a1, .inl (cR, 4, .inr (.inr (.inr (.inr (va_up (va_up (va_up (fun _ => none) 0 (some q2)) 1 (some q3)) 2 (some q4)))))))]) ++ wRig cI q2 u2.1 u2.2) ++ wRig cI q3 u3.1 u3.2) ++ wRig cI q4 u4.1 u4.2)) gX3_init_X2_init_n24 (n := 0) rfl rfl rfl (List.mem_of_getElem? (i := 9) (by decide +kernel)) hZ.2.2.2.2.2.2.2.2.2.2.2.2.2.2.1 (List.mem_of_getElem? (i := 10) (by decide +kernel)) rfl (by decide +kernel) rfl ⟨(Nat.le_of_ble_eq_true rfl), (Nat.le_of_ble_eq_true rfl)⟩ (As := []) (rest := [.ref q5, .int 3, .ref a1]) rfl (Nat.le_of_ble_eq_true rfl) ⟨(Nat.le_of_ble_eq_true rfl), (Nat.le_of_ble_eq_true rfl)⟩ dX3_init_38 (fun u5 hp => ?_)
  refine z_astq E 1 1 11 2 rfl rfl (vs := [.int 50, .int 150, .int 20, .int 2, .int 2, .int 0, .int 0, .int 0, .ref u5.1, .ref u5.2]) rfl rfl (zvin rfl) (ws' := (((([(h0, .inr (3, [.ref a1, .int 0, .int 0])), (a1, .inl (cR, 4, .inr (.inr (.inr (.inr (va_up (va_up (va_up (va_up (fun _ => none) 0 (some q2)) 1 (some q3)) 2 (some q4)) 3 (some q5)))))))]) ++ wRig cI q2 u2.1 u2.2) ++ wRig cI q3 u3.1 u3.2) ++ wRig cI q4 u4.1 u4.2) ++ wRig cI q5 u5.1 u5.2) rfl dX3_init_41 ?_
  refine z_iinc (v := 4) (lv' := [(1, .int 4), (0, .ref h0)]) E dX3_init_42 (q := 0) rfl (by decide) (by decide) rfl ?_
  refine z_goto (tgt := 24) E dX3_init_45 (by decide) ?_
  refine z_iload_n E dX3_init_24 rfl 0 rfl ?_
  refine z_iconst (v := 4) E dX3_init_25 (by decide) ?_
  refine z_icmp_ge_t (tgt := 48) E dX3_init_26 (by decide) (by decide) ?_
  obtain ⟨w, hw⟩ : ∃ w : Nat → Nat, w = fun i => ([a1, q2, u2.1, u2.2, q3, u3.1, u3.2, q4, u4.1, u4.2, q5, u5.1, u5.2] : List Nat).getD i 0 := ⟨_, rfl⟩
  refine z_cell 1 (g := fun k => some (w (1 + 3 * k))) rfl (fun k hk => by rcases (show k = 0 ∨ k = 1 ∨ k = 2 ∨ k = 3 by omega) with rfl | rfl | rfl | rfl <;> rw [hw] <;> rfl) (ws' := (((([(h0, .inr (3, [.ref a1, .int 0, .int 0])), (a1, .inl (cR, 4, .inr (.inr (.inr (.inr (fun k => some (w (1 + 3 * k))))))))]) ++ wRig cI q2 u2.1 u2.2) ++ wRig cI q3 u3.1 u3.2) ++ wRig cI q4 u4.1 u4.2) ++ wRig cI q5 u5.1 u5.2) rfl ?_
  exact z_vretM E hr hlocks w (by rw [hw]; rfl) trivial (Nat.le_of_ble_eq_true rfl) (Nat.le_of_ble_eq_true rfl) dX3_init_48
set_option maxHeartbeats 4000000 in
set_option maxRecDepth 100000 in
theorem i_Hist (l : Launch) (D : va_G) (cI cR cS cL : ClassId) (h0 : Nat) : zMI l yX0_init wsX0_init ({ frames := 3, cells := 85, slots := 432, locals := 53 }) D (cK cI cR cS cL) [.ref h0] [(h0, .inr (0, [.null, .int 0, .int 0]))] (fun _ : Nat → Nat => True) (fun u : Nat → Nat => wHist cI cR cS h0 u) 85 432 := by
  refine zMI.of (cc := cX0_init) (maxL := 2) (ret := none) (by decide +kernel) rfl (lv0 := [(0, .ref h0)]) (Nat.le_of_ble_eq_true rfl) rfl ?_
  intro p e s m args below meth c E hZ hO hr hlocks hin0
  refine z_aload_n E dX0_init_0 rfl 0 rfl ?_
  refine z_oi E (List.mem_of_getElem? (i := 1) (by decide +kernel)) (List.mem_of_getElem? (i := 2) (by decide +kernel)) (List.mem_of_getElem? (i := 3) (by decide +kernel)) (Nat.le_of_ble_eq_true rfl) (Nat.le_of_ble_eq_true rfl) dX0_init_1 ?_
  refine z_aload_n E dX0_init_4 rfl 0 rfl ?_
  refine z_bipush (v := 6) E dX0_init_5 (by decide) ?_
  refine z_newq E (C := RX3) (List.mem_of_getElem? (i := 4) (by decide +kernel)) hO.2 2 rfl (by decide) (N' := 6) rfl (by decide) (Nat.le_of_ble_eq_true rfl) (Nat.le_of_ble_eq_true rfl) dX0_init_7 (fun a1 => ?_)
  refine z_eq (ws' := [(h0, .inr (0, [.null, .int 0, .int 0])), (a1, .inl (cS, 6, .inr (.inr (.inr (.inr (fun _ => none))))))]) (lv' := [(0, .ref h0)]) (st' := [.ref a1, .ref h0]) rfl rfl rfl ?_
  refine z_putF E hin0 0 rfl (C := RX0) (T := TX0) (N := 3) rfl (fun _ h => List.mem_cons_of_mem _ (List.mem_append_left _ (List.mem_append_left _ (List.mem_append_right _ h)))) tyX0 tyX0_ok nmX0 0 (by decide) (List.mem_of_getElem? (i := 5) (by decide +kernel)) rfl rfl rfl rfl rfl (Nat.le_of_ble_eq_true rfl) (ws' := [(h0, .inr (0, [.ref a1, .int 0, .int 0])), (a1, .inl (cS, 6, .inr (.inr (.inr (.inr (fun _ => none))))))]) rfl dX0_init_10 ?_
  refine z_aload_n E dX0_init_13 rfl 0 rfl ?_
  refine z_iconst (v := 0) E dX0_init_14 (by decide) ?_
  refine z_put E 0 rfl (C := RX0) (T := TX0) (N := 3) rfl (fun _ h => List.mem_cons_of_mem _ (List.mem_append_left _ (List.mem_append_left _ (List.mem_append_right _ h)))) tyX0 tyX0_ok nmX0 1 (by decide) (List.mem_of_getElem? (i := 6) (by decide +kernel)) rfl rfl rfl rfl (Nat.le_of_ble_eq_true rfl) (ws' := [(h0, .inr (0, [.ref a1, .int 0, .int 0])), (a1, .inl (cS, 6, .inr (.inr (.inr (.inr (fun _ => none))))))]) rfl dX0_init_15 ?_
  refine z_aload_n E dX0_init_18 rfl 0 rfl ?_
  refine z_iconst (v := 0) E dX0_init_19 (by decide) ?_
  refine z_put E 0 rfl (C := RX0) (T := TX0) (N := 3) rfl (fun _ h => List.mem_cons_of_mem _ (List.mem_append_left _ (List.mem_append_left _ (List.mem_append_right _ h)))) tyX0 tyX0_ok nmX0 2 (by decide) (List.mem_of_getElem? (i := 7) (by decide +kernel)) rfl rfl rfl rfl (Nat.le_of_ble_eq_true rfl) (ws' := [(h0, .inr (0, [.ref a1, .int 0, .int 0])), (a1, .inl (cS, 6, .inr (.inr (.inr (.inr (fun _ => none))))))]) rfl dX0_init_20 ?_
  refine z_iconst (v := 0) E dX0_init_23 (by decide) ?_
  refine z_istore_n (lv' := [(1, .int 0), (0, .ref h0)]) E dX0_init_24 rfl (by decide) rfl ?_
  refine z_iload_n E dX0_init_25 rfl 0 rfl ?_
  refine z_bipush (v := 6) E dX0_init_26 (by decide) ?_
  refine z_icmp_ge_f (tgt := 50) E dX0_init_28 (by decide) (by decide) ?_
  refine z_aload_n E dX0_init_31 rfl 1 rfl ?_
  refine z_get E 0 rfl (C := RX0) (T := TX0) (N := 3) rfl (fun _ h => List.mem_cons_of_mem _ (List.mem_append_left _ (List.mem_append_left _ (List.mem_append_right _ h)))) 0 (by decide) (List.mem_of_getElem? (i := 5) (by decide +kernel)) rfl (v := .ref a1) rfl dX0_init_32 ?_
  refine z_iload_n E dX0_init_35 rfl 0 rfl ?_
  refine z_new E (C := RX3) (T := TX3) (N := 3) (ci := 3) (fun _ h => List.mem_cons_of_mem _ (List.mem_append_left _ (List.mem_append_right _ h))) tyX3 tyX3_ok (List.mem_of_getElem? (i := 4) (by decide +kernel)) (List.mem_of_getElem? (i := 8) (by decide +kernel)) (List.mem_of_getElem? (i := 9) (by decide +kernel)) rfl (fs := [.null, .int 0, .int 0]) (fun j hj => by rcases (show j = 0 ∨ j = 1 ∨ j = 2 by omega) with rfl | rfl | rfl <;> rfl) (Nat.le_of_ble_eq_true rfl) (Nat.le_of_ble_eq_true rfl) dX0_init_36 (fun q2 => ?_)
  refine z_dup E dX0_init_39 rfl ?_
  refine z_callI E hZ hO ((i_Site l D cI cR cS cL q2).frR ([(h0, .inr (0, [.ref a1, .int 0, .int 0])), (a1, .inl (cS, 6, .inr (.inr (.inr (.inr (fun _ => none))))))])) gX0_init_X3_init (n := 0) rfl rfl rfl (List.mem_of_getElem? (i := 9) (by decide +kernel)) (List.mem_of_getElem? (i := 10) (by decide +kernel)) (List.mem_of_getElem? (i := 11) (by decide +kernel)) rfl (by decide +kernel) rfl ⟨(Nat.le_of_ble_eq_true rfl), (Nat.le_of_ble_eq_true rfl)⟩ (As := []) (rest := [.ref q2, .int 0, .ref a1]) rfl (Nat.le_of_ble_eq_true rfl) ⟨(Nat.le_of_ble_eq_true rfl), (Nat.le_of_ble_eq_true rfl)⟩ dX0_init_40 (fun u2 hp => ?_)
  refine z_astq E 1 2 2 3 rfl rfl (vs := [.ref (u2 0), .int 0, .int 0]) rfl rfl (zvin rfl) (ws' := ([(h0, .inr (0, [.ref a1, .int 0, .int 0])), (a1, .inl (cS, 6, .inr (.inr (.inr (.inr (va_up (fun _ => none) 0 (some q2)))))))]) ++ wSite cI cR q2 u2) rfl dX0_init_43 ?_
  refine z_iinc (v := 1) (lv' := [(1, .int 1), (0, .ref h0)]) E dX0_init_44 (q := 0) rfl (by decide) (by decide) rfl ?_
  refine z_goto (tgt := 25) E dX0_init_47 (by decide) ?_
  refine z_iload_n E dX0_init_25 rfl 0 rfl ?_
  refine z_bipush (v := 6) E dX0_init_26 (by decide) ?_
  refine z_icmp_ge_f (tgt := 50) E dX0_init_28 (by decide) (by decide) ?_
  refine z_aload_n E dX0_init_31 rfl 1 rfl ?_
  refine z_get E 0 rfl (C := RX0) (T := TX0) (N := 3) rfl (fun _ h => List.mem_cons_of_mem _ (List.mem_append_left _ (List.mem_append_left _ (List.mem_append_right _ h)))) 0 (by decide) (List.mem_of_getElem? (i := 5) (by decide +kernel)) rfl (v := .ref a1) rfl dX0_init_32 ?_
  refine z_iload_n E dX0_init_35 rfl 0 rfl ?_
  refine z_new E (C := RX3) (T := TX3) (N := 3) (ci := 3) (fun _ h => List.mem_cons_of_mem _ (List.mem_append_left _ (List.mem_append_right _ h))) tyX3 tyX3_ok (List.mem_of_getElem? (i := 4) (by decide +kernel)) (List.mem_of_getElem? (i := 8) (by decide +kernel)) (List.mem_of_getElem? (i := 9) (by decide +kernel)) rfl (fs := [.null, .int 0, .int 0]) (fun j hj => by rcases (show j = 0 ∨ j = 1 ∨ j = 2 by omega) with rfl | rfl | rfl <;> rfl) (Nat.le_of_ble_eq_true rfl) (Nat.le_of_ble_eq_true rfl) dX0_init_36 (fun q3 => ?_)
  refine z_dup E dX0_init_39 rfl ?_
  refine z_callI E hZ hO ((i_Site l D cI cR cS cL q3).frR (([(h0, .inr (0, [.ref a1, .int 0, .int 0])), (a1, .inl (cS, 6, .inr (.inr (.inr (.inr (va_up (fun _ => none) 0 (some q2)))))))]) ++ wSite cI cR q2 u2)) gX0_init_X3_init (n := 0) rfl rfl rfl (List.mem_of_getElem? (i := 9) (by decide +kernel)) (List.mem_of_getElem? (i := 10) (by decide +kernel)) (List.mem_of_getElem? (i := 11) (by decide +kernel)) rfl (by decide +kernel) rfl ⟨(Nat.le_of_ble_eq_true rfl), (Nat.le_of_ble_eq_true rfl)⟩ (As := []) (rest := [.ref q3, .int 1, .ref a1]) rfl (Nat.le_of_ble_eq_true rfl) ⟨(Nat.le_of_ble_eq_true rfl), (Nat.le_of_ble_eq_true rfl)⟩ dX0_init_40 (fun u3 hp => ?_)
  refine z_astq E 1 2 16 3 rfl rfl (vs := [.ref (u3 0), .int 0, .int 0]) rfl rfl (zvin rfl) (ws' := (([(h0, .inr (0, [.ref a1, .int 0, .int 0])), (a1, .inl (cS, 6, .inr (.inr (.inr (.inr (va_up (va_up (fun _ => none) 0 (some q2)) 1 (some q3)))))))]) ++ wSite cI cR q2 u2) ++ wSite cI cR q3 u3) rfl dX0_init_43 ?_
  refine z_iinc (v := 2) (lv' := [(1, .int 2), (0, .ref h0)]) E dX0_init_44 (q := 0) rfl (by decide) (by decide) rfl ?_
  refine z_goto (tgt := 25) E dX0_init_47 (by decide) ?_
  refine z_iload_n E dX0_init_25 rfl 0 rfl ?_
  refine z_bipush (v := 6) E dX0_init_26 (by decide) ?_
  refine z_icmp_ge_f (tgt := 50) E dX0_init_28 (by decide) (by decide) ?_
  refine z_aload_n E dX0_init_31 rfl 1 rfl ?_
  refine z_get E 0 rfl (C := RX0) (T := TX0) (N := 3) rfl (fun _ h => List.mem_cons_of_mem _ (List.mem_append_left _ (List.mem_append_left _ (List.mem_append_right _ h)))) 0 (by decide) (List.mem_of_getElem? (i := 5) (by decide +kernel)) rfl (v := .ref a1) rfl dX0_init_32 ?_
  refine z_iload_n E dX0_init_35 rfl 0 rfl ?_
  refine z_new E (C := RX3) (T := TX3) (N := 3) (ci := 3) (fun _ h => List.mem_cons_of_mem _ (List.mem_append_left _ (List.mem_append_right _ h))) tyX3 tyX3_ok (List.mem_of_getElem? (i := 4) (by decide +kernel)) (List.mem_of_getElem? (i := 8) (by decide +kernel)) (List.mem_of_getElem? (i := 9) (by decide +kernel)) rfl (fs := [.null, .int 0, .int 0]) (fun j hj => by rcases (show j = 0 ∨ j = 1 ∨ j = 2 by omega) with rfl | rfl | rfl <;> rfl) (Nat.le_of_ble_eq_true rfl) (Nat.le_of_ble_eq_true rfl) dX0_init_36 (fun q4 => ?_)
  refine z_dup E dX0_init_39 rfl ?_
  refine z_callI E hZ hO ((i_Site l D cI cR cS cL q4).frR ((([(h0, .inr (0, [.ref a1, .int 0, .int 0])), (a1, .inl (cS, 6, .inr (.inr (.inr (.inr (va_up (va_up (fun _ => none) 0 (some q2)) 1 (some q3)))))))]) ++ wSite cI cR q2 u2) ++ wSite cI cR q3 u3)) gX0_init_X3_init (n := 0) rfl rfl rfl (List.mem_of_getElem? (i := 9) (by decide +kernel)) (List.mem_of_getElem? (i := 10) (by decide +kernel)) (List.mem_of_getElem? (i := 11) (by decide +kernel)) rfl (by decide +kernel) rfl ⟨(Nat.le_of_ble_eq_true rfl), (Nat.le_of_ble_eq_true rfl)⟩ (As := []) (rest := [.ref q4, .int 2, .ref a1]) rfl (Nat.le_of_ble_eq_true rfl) ⟨(Nat.le_of_ble_eq_true rfl), (Nat.le_of_ble_eq_true rfl)⟩ dX0_init_40 (fun u4 hp => ?_)
  refine z_astq E 1 2 30 3 rfl rfl (vs := [.ref (u4 0), .int 0, .int 0]) rfl rfl (zvin rfl) (ws' := ((([(h0, .inr (0, [.ref a1, .int 0, .int 0])), (a1, .inl (cS, 6, .inr (.inr (.inr (.inr (va_up (va_up (va_up (fun _ => none) 0 (some q2)) 1 (some q3)) 2 (some q4)))))))]) ++ wSite cI cR q2 u2) ++ wSite cI cR q3 u3) ++ wSite cI cR q4 u4) rfl dX0_init_43 ?_
  refine z_iinc (v := 3) (lv' := [(1, .int 3), (0, .ref h0)]) E dX0_init_44 (q := 0) rfl (by decide) (by decide) rfl ?_
  refine z_goto (tgt := 25) E dX0_init_47 (by decide) ?_
  refine z_iload_n E dX0_init_25 rfl 0 rfl ?_
  refine z_bipush (v := 6) E dX0_init_26 (by decide) ?_
  refine z_icmp_ge_f (tgt := 50) E dX0_init_28 (by decide) (by decide) ?_
  refine z_aload_n E dX0_init_31 rfl 1 rfl ?_
  refine z_get E 0 rfl (C := RX0) (T := TX0) (N := 3) rfl (fun _ h => List.mem_cons_of_mem _ (List.mem_append_left _ (List.mem_append_left _ (List.mem_append_right _ h)))) 0 (by decide) (List.mem_of_getElem? (i := 5) (by decide +kernel)) rfl (v := .ref a1) rfl dX0_init_32 ?_
  refine z_iload_n E dX0_init_35 rfl 0 rfl ?_
  refine z_new E (C := RX3) (T := TX3) (N := 3) (ci := 3) (fun _ h => List.mem_cons_of_mem _ (List.mem_append_left _ (List.mem_append_right _ h))) tyX3 tyX3_ok (List.mem_of_getElem? (i := 4) (by decide +kernel)) (List.mem_of_getElem? (i := 8) (by decide +kernel)) (List.mem_of_getElem? (i := 9) (by decide +kernel)) rfl (fs := [.null, .int 0, .int 0]) (fun j hj => by rcases (show j = 0 ∨ j = 1 ∨ j = 2 by omega) with rfl | rfl | rfl <;> rfl) (Nat.le_of_ble_eq_true rfl) (Nat.le_of_ble_eq_true rfl) dX0_init_36 (fun q5 => ?_)
  refine z_dup E dX0_init_39 rfl ?_
  refine z_callI E hZ hO ((i_Site l D cI cR cS cL q5).frR (((([(h0, .inr (0, [.ref a1, .int 0, .int 0])), (a1, .inl (cS, 6, .inr (.inr (.inr (.inr (va_up (va_up (va_up (fun _ => none) 0 (some q2)) 1 (some q3)) 2 (some q4)))))))]) ++ wSite cI cR q2 u2) ++ wSite cI cR q3 u3) ++ wSite cI cR q4 u4)) gX0_init_X3_init (n := 0) rfl rfl rfl (List.mem_of_getElem? (i := 9) (by decide +kernel)) (List.mem_of_getElem? (i := 10) (by decide +kernel)) (List.mem_of_getElem? (i := 11) (by decide +kernel)) rfl (by decide +kernel) rfl ⟨(Nat.le_of_ble_eq_true rfl), (Nat.le_of_ble_eq_true rfl)⟩ (As := []) (rest := [.ref q5, .int 3, .ref a1]) rfl (Nat.le_of_ble_eq_true rfl) ⟨(Nat.le_of_ble_eq_true rfl), (Nat.le_of_ble_eq_true rfl)⟩ dX0_init_40 (fun u5 hp => ?_)
  refine z_astq E 1 2 44 3 rfl rfl (vs := [.ref (u5 0), .int 0, .int 0]) rfl rfl (zvin rfl) (ws' := (((([(h0, .inr (0, [.ref a1, .int 0, .int 0])), (a1, .inl (cS, 6, .inr (.inr (.inr (.inr (va_up (va_up (va_up (va_up (fun _ => none) 0 (some q2)) 1 (some q3)) 2 (some q4)) 3 (some q5)))))))]) ++ wSite cI cR q2 u2) ++ wSite cI cR q3 u3) ++ wSite cI cR q4 u4) ++ wSite cI cR q5 u5) rfl dX0_init_43 ?_
  refine z_iinc (v := 4) (lv' := [(1, .int 4), (0, .ref h0)]) E dX0_init_44 (q := 0) rfl (by decide) (by decide) rfl ?_
  refine z_goto (tgt := 25) E dX0_init_47 (by decide) ?_
  refine z_iload_n E dX0_init_25 rfl 0 rfl ?_
  refine z_bipush (v := 6) E dX0_init_26 (by decide) ?_
  refine z_icmp_ge_f (tgt := 50) E dX0_init_28 (by decide) (by decide) ?_
  refine z_aload_n E dX0_init_31 rfl 1 rfl ?_
  refine z_get E 0 rfl (C := RX0) (T := TX0) (N := 3) rfl (fun _ h => List.mem_cons_of_mem _ (List.mem_append_left _ (List.mem_append_left _ (List.mem_append_right _ h)))) 0 (by decide) (List.mem_of_getElem? (i := 5) (by decide +kernel)) rfl (v := .ref a1) rfl dX0_init_32 ?_
  refine z_iload_n E dX0_init_35 rfl 0 rfl ?_
  refine z_new E (C := RX3) (T := TX3) (N := 3) (ci := 3) (fun _ h => List.mem_cons_of_mem _ (List.mem_append_left _ (List.mem_append_right _ h))) tyX3 tyX3_ok (List.mem_of_getElem? (i := 4) (by decide +kernel)) (List.mem_of_getElem? (i := 8) (by decide +kernel)) (List.mem_of_getElem? (i := 9) (by decide +kernel)) rfl (fs := [.null, .int 0, .int 0]) (fun j hj => by rcases (show j = 0 ∨ j = 1 ∨ j = 2 by omega) with rfl | rfl | rfl <;> rfl) (Nat.le_of_ble_eq_true rfl) (Nat.le_of_ble_eq_true rfl) dX0_init_36 (fun q6 => ?_)
  refine z_dup E dX0_init_39 rfl ?_
  refine z_callI E hZ hO ((i_Site l D cI cR cS cL q6).frR ((((([(h0, .inr (0, [.ref a1, .int 0, .int 0])), (a1, .inl (cS, 6, .inr (.inr (.inr (.inr (va_up (va_up (va_up (va_up (fun _ => none) 0 (some q2)) 1 (some q3)) 2 (some q4)) 3 (some q5)))))))]) ++ wSite cI cR q2 u2) ++ wSite cI cR q3 u3) ++ wSite cI cR q4 u4) ++ wSite cI cR q5 u5)) gX0_init_X3_init (n := 0) rfl rfl rfl (List.mem_of_getElem? (i := 9) (by decide +kernel)) (List.mem_of_getElem? (i := 10) (by decide +kernel)) (List.mem_of_getElem? (i := 11) (by decide +kernel)) rfl (by decide +kernel) rfl ⟨(Nat.le_of_ble_eq_true rfl), (Nat.le_of_ble_eq_true rfl)⟩ (As := []) (rest := [.ref q6, .int 4, .ref a1]) rfl (Nat.le_of_ble_eq_true rfl) ⟨(Nat.le_of_ble_eq_true rfl), (Nat.le_of_ble_eq_true rfl)⟩ dX0_init_40 (fun u6 hp => ?_)
  refine z_astq E 1 2 58 3 rfl rfl (vs := [.ref (u6 0), .int 0, .int 0]) rfl rfl (zvin rfl) (ws' := ((((([(h0, .inr (0, [.ref a1, .int 0, .int 0])), (a1, .inl (cS, 6, .inr (.inr (.inr (.inr (va_up (va_up (va_up (va_up (va_up (fun _ => none) 0 (some q2)) 1 (some q3)) 2 (some q4)) 3 (some q5)) 4 (some q6)))))))]) ++ wSite cI cR q2 u2) ++ wSite cI cR q3 u3) ++ wSite cI cR q4 u4) ++ wSite cI cR q5 u5) ++ wSite cI cR q6 u6) rfl dX0_init_43 ?_
  refine z_iinc (v := 5) (lv' := [(1, .int 5), (0, .ref h0)]) E dX0_init_44 (q := 0) rfl (by decide) (by decide) rfl ?_
  refine z_goto (tgt := 25) E dX0_init_47 (by decide) ?_
  refine z_iload_n E dX0_init_25 rfl 0 rfl ?_
  refine z_bipush (v := 6) E dX0_init_26 (by decide) ?_
  refine z_icmp_ge_f (tgt := 50) E dX0_init_28 (by decide) (by decide) ?_
  refine z_aload_n E dX0_init_31 rfl 1 rfl ?_
  refine z_get E 0 rfl (C := RX0) (T := TX0) (N := 3) rfl (fun _ h => List.mem_cons_of_mem _ (List.mem_append_left _ (List.mem_append_left _ (List.mem_append_right _ h)))) 0 (by decide) (List.mem_of_getElem? (i := 5) (by decide +kernel)) rfl (v := .ref a1) rfl dX0_init_32 ?_
  refine z_iload_n E dX0_init_35 rfl 0 rfl ?_
  refine z_new E (C := RX3) (T := TX3) (N := 3) (ci := 3) (fun _ h => List.mem_cons_of_mem _ (List.mem_append_left _ (List.mem_append_right _ h))) tyX3 tyX3_ok (List.mem_of_getElem? (i := 4) (by decide +kernel)) (List.mem_of_getElem? (i := 8) (by decide +kernel)) (List.mem_of_getElem? (i := 9) (by decide +kernel)) rfl (fs := [.null, .int 0, .int 0]) (fun j hj => by rcases (show j = 0 ∨ j = 1 ∨ j = 2 by omega) with rfl | rfl | rfl <;> rfl) (Nat.le_of_ble_eq_true rfl) (Nat.le_of_ble_eq_true rfl) dX0_init_36 (fun q7 => ?_)
  refine z_dup E dX0_init_39 rfl ?_
  refine z_callI E hZ hO ((i_Site l D cI cR cS cL q7).frR (((((([(h0, .inr (0, [.ref a1, .int 0, .int 0])), (a1, .inl (cS, 6, .inr (.inr (.inr (.inr (va_up (va_up (va_up (va_up (va_up (fun _ => none) 0 (some q2)) 1 (some q3)) 2 (some q4)) 3 (some q5)) 4 (some q6)))))))]) ++ wSite cI cR q2 u2) ++ wSite cI cR q3 u3) ++ wSite cI cR q4 u4) ++ wSite cI cR q5 u5) ++ wSite cI cR q6 u6)) gX0_init_X3_init (n := 0) rfl rfl rfl (List.mem_of_getElem? (i := 9) (by decide +kernel)) (List.mem_of_getElem? (i := 10) (by decide +kernel)) (List.mem_of_getElem? (i := 11) (by decide +kernel)) rfl (by decide +kernel) rfl ⟨(Nat.le_of_ble_eq_true rfl), (Nat.le_of_ble_eq_true rfl)⟩ (As := []) (rest := [.ref q7, .int 5, .ref a1]) rfl (Nat.le_of_ble_eq_true rfl) ⟨(Nat.le_of_ble_eq_true rfl), (Nat.le_of_ble_eq_true rfl)⟩ dX0_init_40 (fun u7 hp => ?_)
  refine z_astq E 1 2 72 3 rfl rfl (vs := [.ref (u7 0), .int 0, .int 0]) rfl rfl (zvin rfl) (ws' := (((((([(h0, .inr (0, [.ref a1, .int 0, .int 0])), (a1, .inl (cS, 6, .inr (.inr (.inr (.inr (va_up (va_up (va_up (va_up (va_up (va_up (fun _ => none) 0 (some q2)) 1 (some q3)) 2 (some q4)) 3 (some q5)) 4 (some q6)) 5 (some q7)))))))]) ++ wSite cI cR q2 u2) ++ wSite cI cR q3 u3) ++ wSite cI cR q4 u4) ++ wSite cI cR q5 u5) ++ wSite cI cR q6 u6) ++ wSite cI cR q7 u7) rfl dX0_init_43 ?_
  refine z_iinc (v := 6) (lv' := [(1, .int 6), (0, .ref h0)]) E dX0_init_44 (q := 0) rfl (by decide) (by decide) rfl ?_
  refine z_goto (tgt := 25) E dX0_init_47 (by decide) ?_
  refine z_iload_n E dX0_init_25 rfl 0 rfl ?_
  refine z_bipush (v := 6) E dX0_init_26 (by decide) ?_
  refine z_icmp_ge_t (tgt := 50) E dX0_init_28 (by decide) (by decide) ?_
  obtain ⟨w, hw⟩ : ∃ w : Nat → Nat, w = fun i => ([a1, q2, u2 0, u2 1, u2 2, u2 3, u2 4, u2 5, u2 6, u2 7, u2 8, u2 9, u2 10, u2 11, u2 12, q3, u3 0, u3 1, u3 2, u3 3, u3 4, u3 5, u3 6, u3 7, u3 8, u3 9, u3 10, u3 11, u3 12, q4, u4 0, u4 1, u4 2, u4 3, u4 4, u4 5, u4 6, u4 7, u4 8, u4 9, u4 10, u4 11, u4 12, q5, u5 0, u5 1, u5 2, u5 3, u5 4, u5 5, u5 6, u5 7, u5 8, u5 9, u5 10, u5 11, u5 12, q6, u6 0, u6 1, u6 2, u6 3, u6 4, u6 5, u6 6, u6 7, u6 8, u6 9, u6 10, u6 11, u6 12, q7, u7 0, u7 1, u7 2, u7 3, u7 4, u7 5, u7 6, u7 7, u7 8, u7 9, u7 10, u7 11, u7 12] : List Nat).getD i 0 := ⟨_, rfl⟩
  refine z_cell 1 (g := fun k => some (w (1 + 14 * k))) rfl (fun k hk => by rcases (show k = 0 ∨ k = 1 ∨ k = 2 ∨ k = 3 ∨ k = 4 ∨ k = 5 by omega) with rfl | rfl | rfl | rfl | rfl | rfl <;> rw [hw] <;> rfl) (ws' := (((((([(h0, .inr (0, [.ref a1, .int 0, .int 0])), (a1, .inl (cS, 6, .inr (.inr (.inr (.inr (fun k => some (w (1 + 14 * k))))))))]) ++ wSite cI cR q2 u2) ++ wSite cI cR q3 u3) ++ wSite cI cR q4 u4) ++ wSite cI cR q5 u5) ++ wSite cI cR q6 u6) ++ wSite cI cR q7 u7) rfl ?_
  refine z_cell 3 (f := fun k => some (u2 (1 + 3 * k))) (g := fun k => some (w (2 + (1 + 3 * k)))) rfl (fun k hk => by rcases (show k = 0 ∨ k = 1 ∨ k = 2 ∨ k = 3 by omega) with rfl | rfl | rfl | rfl <;> rw [hw] <;> rfl) (ws' := (((((([(h0, .inr (0, [.ref a1, .int 0, .int 0])), (a1, .inl (cS, 6, .inr (.inr (.inr (.inr (fun k => some (w (1 + 14 * k))))))))]) ++ wSite cI cR (w 1) (fun i => w (2 + i))) ++ wSite cI cR q3 u3) ++ wSite cI cR q4 u4) ++ wSite cI cR q5 u5) ++ wSite cI cR q6 u6) ++ wSite cI cR q7 u7) (by rw [hw]; rfl) ?_
  refine z_cell 17 (f := fun k => some (u3 (1 + 3 * k))) (g := fun k => some (w (16 + (1 + 3 * k)))) rfl (fun k hk => by rcases (show k = 0 ∨ k = 1 ∨ k = 2 ∨ k = 3 by omega) with rfl | rfl | rfl | rfl <;> rw [hw] <;> rfl) (ws' := (((((([(h0, .inr (0, [.ref a1, .int 0, .int 0])), (a1, .inl (cS, 6, .inr (.inr (.inr (.inr (fun k => some (w (1 + 14 * k))))))))]) ++ wSite cI cR (w 1) (fun i => w (2 + i))) ++ wSite cI cR (w 15) (fun i => w (16 + i))) ++ wSite cI cR q4 u4) ++ wSite cI cR q5 u5) ++ wSite cI cR q6 u6) ++ wSite cI cR q7 u7) (by rw [hw]; rfl) ?_
  refine z_cell 31 (f := fun k => some (u4 (1 + 3 * k))) (g := fun k => some (w (30 + (1 + 3 * k)))) rfl (fun k hk => by rcases (show k = 0 ∨ k = 1 ∨ k = 2 ∨ k = 3 by omega) with rfl | rfl | rfl | rfl <;> rw [hw] <;> rfl) (ws' := (((((([(h0, .inr (0, [.ref a1, .int 0, .int 0])), (a1, .inl (cS, 6, .inr (.inr (.inr (.inr (fun k => some (w (1 + 14 * k))))))))]) ++ wSite cI cR (w 1) (fun i => w (2 + i))) ++ wSite cI cR (w 15) (fun i => w (16 + i))) ++ wSite cI cR (w 29) (fun i => w (30 + i))) ++ wSite cI cR q5 u5) ++ wSite cI cR q6 u6) ++ wSite cI cR q7 u7) (by rw [hw]; rfl) ?_
  refine z_cell 45 (f := fun k => some (u5 (1 + 3 * k))) (g := fun k => some (w (44 + (1 + 3 * k)))) rfl (fun k hk => by rcases (show k = 0 ∨ k = 1 ∨ k = 2 ∨ k = 3 by omega) with rfl | rfl | rfl | rfl <;> rw [hw] <;> rfl) (ws' := (((((([(h0, .inr (0, [.ref a1, .int 0, .int 0])), (a1, .inl (cS, 6, .inr (.inr (.inr (.inr (fun k => some (w (1 + 14 * k))))))))]) ++ wSite cI cR (w 1) (fun i => w (2 + i))) ++ wSite cI cR (w 15) (fun i => w (16 + i))) ++ wSite cI cR (w 29) (fun i => w (30 + i))) ++ wSite cI cR (w 43) (fun i => w (44 + i))) ++ wSite cI cR q6 u6) ++ wSite cI cR q7 u7) (by rw [hw]; rfl) ?_
  refine z_cell 59 (f := fun k => some (u6 (1 + 3 * k))) (g := fun k => some (w (58 + (1 + 3 * k)))) rfl (fun k hk => by rcases (show k = 0 ∨ k = 1 ∨ k = 2 ∨ k = 3 by omega) with rfl | rfl | rfl | rfl <;> rw [hw] <;> rfl) (ws' := (((((([(h0, .inr (0, [.ref a1, .int 0, .int 0])), (a1, .inl (cS, 6, .inr (.inr (.inr (.inr (fun k => some (w (1 + 14 * k))))))))]) ++ wSite cI cR (w 1) (fun i => w (2 + i))) ++ wSite cI cR (w 15) (fun i => w (16 + i))) ++ wSite cI cR (w 29) (fun i => w (30 + i))) ++ wSite cI cR (w 43) (fun i => w (44 + i))) ++ wSite cI cR (w 57) (fun i => w (58 + i))) ++ wSite cI cR q7 u7) (by rw [hw]; rfl) ?_
  refine z_cell 73 (f := fun k => some (u7 (1 + 3 * k))) (g := fun k => some (w (72 + (1 + 3 * k)))) rfl (fun k hk => by rcases (show k = 0 ∨ k = 1 ∨ k = 2 ∨ k = 3 by omega) with rfl | rfl | rfl | rfl <;> rw [hw] <;> rfl) (ws' := (((((([(h0, .inr (0, [.ref a1, .int 0, .int 0])), (a1, .inl (cS, 6, .inr (.inr (.inr (.inr (fun k => some (w (1 + 14 * k))))))))]) ++ wSite cI cR (w 1) (fun i => w (2 + i))) ++ wSite cI cR (w 15) (fun i => w (16 + i))) ++ wSite cI cR (w 29) (fun i => w (30 + i))) ++ wSite cI cR (w 43) (fun i => w (44 + i))) ++ wSite cI cR (w 57) (fun i => w (58 + i))) ++ wSite cI cR (w 71) (fun i => w (72 + i))) (by rw [hw]; rfl) ?_
  exact z_vretM E hr hlocks w (by have e0 : w 0 = a1 := (hw ▸ rfl); unfold wHist; rw [e0]) trivial (Nat.le_of_ble_eq_true rfl) (Nat.le_of_ble_eq_true rfl) dX0_init_50
set_option maxHeartbeats 4000000 in
set_option maxRecDepth 100000 in
theorem i_Works (l : Launch) (D : va_G) (cI cR cS cL : ClassId) (h0 : Nat) : zMI l yX4_init wsX4_init ({ frames := 2, cells := 2, slots := 66, locals := 32 }) D (cK cI cR cS cL) [.ref h0] [(h0, .inr (4, [.null, .int 0, .int 0, .null]))] (fun _ : Nat × Nat => True) (fun u : Nat × Nat => wWorks cI h0 u.1 u.2) 2 66 := by
  refine zMI.of (cc := cX4_init) (maxL := 1) (ret := none) (by decide +kernel) rfl (lv0 := [(0, .ref h0)]) (Nat.le_of_ble_eq_true rfl) rfl ?_
  intro p e s m args below meth c E hZ hO hr hlocks hin0
  refine z_aload_n E dX4_init_0 rfl 0 rfl ?_
  refine z_oi E (List.mem_of_getElem? (i := 1) (by decide +kernel)) (List.mem_of_getElem? (i := 2) (by decide +kernel)) (List.mem_of_getElem? (i := 3) (by decide +kernel)) (Nat.le_of_ble_eq_true rfl) (Nat.le_of_ble_eq_true rfl) dX4_init_1 ?_
  refine z_aload_n E dX4_init_4 rfl 0 rfl ?_
  refine z_bipush (v := 60) E dX4_init_5 (by decide) ?_
  refine z_newa E (atype := .int) (List.mem_of_getElem? (i := 4) (by decide +kernel)) rfl (fun C h => by cases h) 0 rfl (a0 := (60, .inl (fun _ => 0))) (fun _ => rfl) (by decide) (N' := 60) rfl (by decide) (Nat.le_of_ble_eq_true rfl) (Nat.le_of_ble_eq_true rfl) dX4_init_7 (fun a1 => ?_)
  refine z_eq (ws' := [(h0, .inr (4, [.null, .int 0, .int 0, .null])), (a1, .inl (cI, 60, .inl (fun _ => 0)))]) (lv' := [(0, .ref h0)]) (st' := [.ref a1, .ref h0]) rfl rfl rfl ?_
  refine z_putF E hin0 0 rfl (C := RX4) (T := TX4) (N := 4) rfl (fun _ h => List.mem_cons_of_mem _ (List.mem_append_left _ (List.mem_append_right _ h))) tyX4 tyX4_ok nmX4 0 (by decide) (List.mem_of_getElem? (i := 5) (by decide +kernel)) rfl rfl rfl rfl rfl (Nat.le_of_ble_eq_true rfl) (ws' := [(h0, .inr (4, [.ref a1, .int 0, .int 0, .null])), (a1, .inl (cI, 60, .inl (fun _ => 0)))]) rfl dX4_init_9 ?_
  refine z_aload_n E dX4_init_12 rfl 0 rfl ?_
  refine z_iconst (v := 0) E dX4_init_13 (by decide) ?_
  refine z_put E 0 rfl (C := RX4) (T := TX4) (N := 4) rfl (fun _ h => List.mem_cons_of_mem _ (List.mem_append_left _ (List.mem_append_right _ h))) tyX4 tyX4_ok nmX4 1 (by decide) (List.mem_of_getElem? (i := 6) (by decide +kernel)) rfl rfl rfl rfl (Nat.le_of_ble_eq_true rfl) (ws' := [(h0, .inr (4, [.ref a1, .int 0, .int 0, .null])), (a1, .inl (cI, 60, .inl (fun _ => 0)))]) rfl dX4_init_14 ?_
  refine z_aload_n E dX4_init_17 rfl 0 rfl ?_
  refine z_iconst (v := 0) E dX4_init_18 (by decide) ?_
  refine z_put E 0 rfl (C := RX4) (T := TX4) (N := 4) rfl (fun _ h => List.mem_cons_of_mem _ (List.mem_append_left _ (List.mem_append_right _ h))) tyX4 tyX4_ok nmX4 2 (by decide) (List.mem_of_getElem? (i := 7) (by decide +kernel)) rfl rfl rfl rfl (Nat.le_of_ble_eq_true rfl) (ws' := [(h0, .inr (4, [.ref a1, .int 0, .int 0, .null])), (a1, .inl (cI, 60, .inl (fun _ => 0)))]) rfl dX4_init_19 ?_
  refine z_aload_n E dX4_init_22 rfl 0 rfl ?_
  refine z_new E (C := RX1) (T := TX1) (N := 6) (ci := 1) (fun _ h => List.mem_cons_of_mem _ (List.mem_append_right _ h)) tyX1 tyX1_ok (List.mem_of_getElem? (i := 8) (by decide +kernel)) (List.mem_of_getElem? (i := 9) (by decide +kernel)) (List.mem_of_getElem? (i := 10) (by decide +kernel)) rfl (fs := [.int 0, .int 0, .int 0, .int 0, .int 0, .int 0]) (fun j hj => by rcases (show j = 0 ∨ j = 1 ∨ j = 2 ∨ j = 3 ∨ j = 4 ∨ j = 5 by omega) with rfl | rfl | rfl | rfl | rfl | rfl <;> rfl) (Nat.le_of_ble_eq_true rfl) (Nat.le_of_ble_eq_true rfl) dX4_init_23 (fun q2 => ?_)
  refine z_dup E dX4_init_26 rfl ?_
  refine z_callIN E hZ hO ((i_Reader l D cI cR cS cL q2).frR ([(h0, .inr (4, [.ref a1, .int 0, .int 0, .null])), (a1, .inl (cI, 60, .inl (fun _ => 0)))])) gX4_init_X1_init_n24 (n := 0) rfl rfl rfl (List.mem_of_getElem? (i := 10) (by decide +kernel)) hZ.2.2.2.2.2.2.2.2.2.2.2.2.2.2.2.2.1 (List.mem_of_getElem? (i := 12) (by decide +kernel)) rfl (by decide +kernel) rfl ⟨(Nat.le_of_ble_eq_true rfl), (Nat.le_of_ble_eq_true rfl)⟩ (As := []) (rest := [.ref q2, .ref h0]) rfl (Nat.le_of_ble_eq_true rfl) ⟨(Nat.le_of_ble_eq_true rfl), (Nat.le_of_ble_eq_true rfl)⟩ dX4_init_27 (fun u2 hp => ?_)
  refine z_putF E hin0 0 rfl (C := RX4) (T := TX4) (N := 4) rfl (fun _ h => List.mem_cons_of_mem _ (List.mem_append_left _ (List.mem_append_right _ h))) tyX4 tyX4_ok nmX4 3 (by decide) (List.mem_of_getElem? (i := 11) (by decide +kernel)) rfl rfl rfl rfl rfl (Nat.le_of_ble_eq_true rfl) (ws' := ([(h0, .inr (4, [.ref a1, .int 0, .int 0, .ref q2])), (a1, .inl (cI, 60, .inl (fun _ => 0)))]) ++ [(q2, .inr (1, [.int 0, .int 0, .int 0, .int 0, .int 0, .int 0]))]) rfl dX4_init_30 ?_
  exact z_vretM E hr hlocks ((a1, q2)) rfl trivial (Nat.le_of_ble_eq_true rfl) (Nat.le_of_ble_eq_true rfl) dX4_init_33
