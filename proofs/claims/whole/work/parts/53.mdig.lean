/-! the reference's digest -/
theorem ms_dg {am : Nat → Nat} {cI : ClassId} {dg dg' : Int64} {mm : zM} {x : va_E} (hx : x = .inr (6, [.int (mm 0 0), .ref (am 1), .ref (am 2), .int (mm 0 3), .ref (am 3), .int (mm 0 5), .int (mm 0 6), .int (mm 0 7), .int (mm 0 8), .int (mm 0 9), .int (mm 0 10), .int (mm 0 11), .int (mm 0 12), .int (mm 0 13), .int (mm 0 14), .long dg].set 15 (.long dg'))) : (mw am cI dg mm).set 0 (am 0, x) = mw am cI dg' mm := by
  subst hx; rfl
set_option maxHeartbeats 1000000 in
set_option maxRecDepth 100000 in
theorem k_digestOne (l : Launch) (D : va_G) (am : Nat → Nat) (cI cR cS cL : ClassId) (dg : Int64) (mem : zM) (v : Int64) : zMv l yX6_digestOne wsX6_digestOne ({ frames := 0, cells := 0, slots := 0, locals := 0 }) D (cK cI cR cS cL) [.ref (am 0), .long v] (mw am cI dg mem) (fun u => u = (31 * dg + v, mem)) (fun u => mw am cI u.1 u.2) 0 0 := by
  refine zMvM.of (cc := cX6_digestOne) (maxL := 3) (ret := none) (by decide +kernel) rfl (lv0 := [(0, .ref (am 0)), (1, .long v)]) (Nat.le_of_ble_eq_true rfl) rfl ?_
  intro p e s m args below meth c E hZ hr hlocks hnm
  refine z_aload_n E dX6_digestOne_0 rfl 0 rfl ?_
  refine z_ldc2 (v := 31) E dX6_digestOne_1 (List.mem_of_getElem? (i := 1) (by decide +kernel)) ?_
  refine z_aload_n E dX6_digestOne_4 rfl 0 rfl ?_
  refine z_get E 0 mw_obj (C := RX6) (T := TX6) (N := 16) rfl (fun _ h => List.mem_cons_of_mem _ (List.mem_append_right _ h)) 15 (by decide) (List.mem_of_getElem? (i := 2) (by decide +kernel)) rfl (v := .long dg) rfl dX6_digestOne_5 ?_
  refine z_lmul E dX6_digestOne_8 ?_
  refine z_lload_n E dX6_digestOne_9 rfl 1 rfl ?_
  refine z_ladd E dX6_digestOne_10 ?_
  refine z_put E 0 mw_obj (C := RX6) (T := TX6) (N := 16) rfl (fun _ h => List.mem_cons_of_mem _ (List.mem_append_right _ h)) tyX6 tyX6_ok nmX6 15 (by decide) (List.mem_of_getElem? (i := 2) (by decide +kernel)) rfl rfl rfl rfl (Nat.le_of_ble_eq_true rfl) (ws' := mw am cI (31 * dg + v) mem) (ms_dg rfl) dX6_digestOne_11 ?_
  exact z_vretM E hr hlocks (((31 * dg + v), mem)) rfl rfl (Nat.le_of_ble_eq_true rfl) (Nat.le_of_ble_eq_true rfl) dX6_digestOne_14
