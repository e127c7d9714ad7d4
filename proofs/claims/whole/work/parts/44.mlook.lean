/-! the reference: its looks at one ladder -/
set_option maxHeartbeats 1000000 in
set_option maxRecDepth 100000 in
theorem k_mof0 (l : Launch) (D : va_G) (am : Nat → Nat) (cI cR cS cL : ClassId) (dg : Int64) (mem : zM) {k : Nat} (hk : k < 4) {R : Nat → Int32} {p0 : Nat} (hR : mR (mem 1) k R p0) (hpp : rPp R p0) (hfd : rFd R) : zMi l yX6_ofLadder wsX6_ofLadder ({ frames := 4, cells := 0, slots := 0, locals := 97 }) D (cK cI cR cS cL) [.ref (am 0), .int (nI k), .int 0] (mw am cI dg mem) (fun r u => r = R 0 ∧ zScr mem u) (mw am cI dg) 0 0 := by
  refine zMiM.of (cc := cX6_ofLadder) (maxL := 3) (ret := (some .int)) (by decide +kernel) rfl (lv0 := [(0, .ref (am 0)), (1, .int (nI k)), (2, .int 0)]) (Nat.le_of_ble_eq_true rfl) rfl ?_
  intro p e s m args below meth c E hZ hr hlocks hnm
  obtain ⟨q0, q1, q2, q3, q4, q5, q6, q7, qp⟩ := id hR
  have hQ := rQ_of hpp
  have q6r : mem 1 (14 * k + 6) = R 7 := q6.trans hpp.2.1.symm
  refine z_iload_n E dX6_ofLadder_0 rfl 2 rfl ?_
  refine z_tableOut (tgt := 70) E dX6_ofLadder_1 (by decide) (by decide) ?_
  refine z_aload_n E dX6_ofLadder_70 rfl 0 rfl ?_
  refine z_get E 0 mw_obj (C := RX6) (T := TX6) (N := 16) rfl (fun _ h => List.mem_cons_of_mem _ (List.mem_append_right _ h)) 1 (by decide) (List.mem_of_getElem? (i := 1) (by decide +kernel)) rfl (v := .ref (am 1)) rfl dX6_ofLadder_71 ?_
  refine z_iload_n E dX6_ofLadder_74 rfl 1 rfl ?_
  refine z_iload_n E dX6_ofLadder_75 rfl 2 rfl ?_
  refine z_callSi E hZ (k_of l D am cI cR cS cL dg mem (nI k) 0) gX6_ofLadder_X6_of (n := 2) rfl rfl rfl (by decide +kernel) rfl ⟨Nat.le_of_ble_eq_true rfl, Nat.le_of_ble_eq_true rfl⟩ (As := [.int (nI k), .int 0]) (rest := [.ref (am 1)]) rfl (Nat.le_of_ble_eq_true rfl) ⟨Nat.le_of_ble_eq_true rfl, Nat.le_of_ble_eq_true rfl⟩ dX6_ofLadder_76 (fun r u hp => ?_)
  rw [hp.1, hp.2]
  rw [zof k (y := 0) (w := 0) rfl]
  refine z_iald E 1 0 mw_s rfl (vp_in_nI (by omega) (by decide)) (v := R 0) ((congrArg (mem 1) (nI_clamp (by omega))).trans q0) dX6_ofLadder_79 ?_
  exact z_iretM E hr hlocks (mem) rfl ⟨rfl, zScr.refl mem⟩ (Nat.le_of_ble_eq_true rfl) (Nat.le_of_ble_eq_true rfl) dX6_ofLadder_80
set_option maxHeartbeats 1000000 in
set_option maxRecDepth 100000 in
theorem k_mof1 (l : Launch) (D : va_G) (am : Nat → Nat) (cI cR cS cL : ClassId) (dg : Int64) (mem : zM) {k : Nat} (hk : k < 4) {R : Nat → Int32} {p0 : Nat} (hR : mR (mem 1) k R p0) (hpp : rPp R p0) (hfd : rFd R) : zMi l yX6_ofLadder wsX6_ofLadder ({ frames := 4, cells := 0, slots := 0, locals := 97 }) D (cK cI cR cS cL) [.ref (am 0), .int (nI k), .int 1] (mw am cI dg mem) (fun r u => r = R 1 ∧ zScr mem u) (mw am cI dg) 0 0 := by
  refine zMiM.of (cc := cX6_ofLadder) (maxL := 3) (ret := (some .int)) (by decide +kernel) rfl (lv0 := [(0, .ref (am 0)), (1, .int (nI k)), (2, .int 1)]) (Nat.le_of_ble_eq_true rfl) rfl ?_
  intro p e s m args below meth c E hZ hr hlocks hnm
  obtain ⟨q0, q1, q2, q3, q4, q5, q6, q7, qp⟩ := id hR
  have hQ := rQ_of hpp
  have q6r : mem 1 (14 * k + 6) = R 7 := q6.trans hpp.2.1.symm
  refine z_iload_n E dX6_ofLadder_0 rfl 2 rfl ?_
  refine z_tableOut (tgt := 70) E dX6_ofLadder_1 (by decide) (by decide) ?_
  refine z_aload_n E dX6_ofLadder_70 rfl 0 rfl ?_
  refine z_get E 0 mw_obj (C := RX6) (T := TX6) (N := 16) rfl (fun _ h => List.mem_cons_of_mem _ (List.mem_append_right _ h)) 1 (by decide) (List.mem_of_getElem? (i := 1) (by decide +kernel)) rfl (v := .ref (am 1)) rfl dX6_ofLadder_71 ?_
  refine z_iload_n E dX6_ofLadder_74 rfl 1 rfl ?_
  refine z_iload_n E dX6_ofLadder_75 rfl 2 rfl ?_
  refine z_callSi E hZ (k_of l D am cI cR cS cL dg mem (nI k) 1) gX6_ofLadder_X6_of (n := 2) rfl rfl rfl (by decide +kernel) rfl ⟨Nat.le_of_ble_eq_true rfl, Nat.le_of_ble_eq_true rfl⟩ (As := [.int (nI k), .int 1]) (rest := [.ref (am 1)]) rfl (Nat.le_of_ble_eq_true rfl) ⟨Nat.le_of_ble_eq_true rfl, Nat.le_of_ble_eq_true rfl⟩ dX6_ofLadder_76 (fun r u hp => ?_)
  rw [hp.1, hp.2]
  rw [zof k (y := 1) (w := 1) rfl]
  refine z_iald E 1 0 mw_s rfl (vp_in_nI (by omega) (by decide)) (v := R 1) ((congrArg (mem 1) (nI_clamp (by omega))).trans q1) dX6_ofLadder_79 ?_
  exact z_iretM E hr hlocks (mem) rfl ⟨rfl, zScr.refl mem⟩ (Nat.le_of_ble_eq_true rfl) (Nat.le_of_ble_eq_true rfl) dX6_ofLadder_80
set_option maxHeartbeats 1000000 in
set_option maxRecDepth 100000 in
theorem k_mof2 (l : Launch) (D : va_G) (am : Nat → Nat) (cI cR cS cL : ClassId) (dg : Int64) (mem : zM) {k : Nat} (hk : k < 4) {R : Nat → Int32} {p0 : Nat} (hR : mR (mem 1) k R p0) (hpp : rPp R p0) (hfd : rFd R) : zMi l yX6_ofLadder wsX6_ofLadder ({ frames := 4, cells := 0, slots := 0, locals := 97 }) D (cK cI cR cS cL) [.ref (am 0), .int (nI k), .int 2] (mw am cI dg mem) (fun r u => r = R 2 ∧ zScr mem u) (mw am cI dg) 0 0 := by
  refine zMiM.of (cc := cX6_ofLadder) (maxL := 3) (ret := (some .int)) (by decide +kernel) rfl (lv0 := [(0, .ref (am 0)), (1, .int (nI k)), (2, .int 2)]) (Nat.le_of_ble_eq_true rfl) rfl ?_
  intro p e s m args below meth c E hZ hr hlocks hnm
  obtain ⟨q0, q1, q2, q3, q4, q5, q6, q7, qp⟩ := id hR
  have hQ := rQ_of hpp
  have q6r : mem 1 (14 * k + 6) = R 7 := q6.trans hpp.2.1.symm
  refine z_iload_n E dX6_ofLadder_0 rfl 2 rfl ?_
  refine z_tableOut (tgt := 70) E dX6_ofLadder_1 (by decide) (by decide) ?_
  refine z_aload_n E dX6_ofLadder_70 rfl 0 rfl ?_
  refine z_get E 0 mw_obj (C := RX6) (T := TX6) (N := 16) rfl (fun _ h => List.mem_cons_of_mem _ (List.mem_append_right _ h)) 1 (by decide) (List.mem_of_getElem? (i := 1) (by decide +kernel)) rfl (v := .ref (am 1)) rfl dX6_ofLadder_71 ?_
  refine z_iload_n E dX6_ofLadder_74 rfl 1 rfl ?_
  refine z_iload_n E dX6_ofLadder_75 rfl 2 rfl ?_
  refine z_callSi E hZ (k_of l D am cI cR cS cL dg mem (nI k) 2) gX6_ofLadder_X6_of (n := 2) rfl rfl rfl (by decide +kernel) rfl ⟨Nat.le_of_ble_eq_true rfl, Nat.le_of_ble_eq_true rfl⟩ (As := [.int (nI k), .int 2]) (rest := [.ref (am 1)]) rfl (Nat.le_of_ble_eq_true rfl) ⟨Nat.le_of_ble_eq_true rfl, Nat.le_of_ble_eq_true rfl⟩ dX6_ofLadder_76 (fun r u hp => ?_)
  rw [hp.1, hp.2]
  rw [zof k (y := 2) (w := 2) rfl]
  refine z_iald E 1 0 mw_s rfl (vp_in_nI (by omega) (by decide)) (v := R 2) ((congrArg (mem 1) (nI_clamp (by omega))).trans q2) dX6_ofLadder_79 ?_
  exact z_iretM E hr hlocks (mem) rfl ⟨rfl, zScr.refl mem⟩ (Nat.le_of_ble_eq_true rfl) (Nat.le_of_ble_eq_true rfl) dX6_ofLadder_80
set_option maxHeartbeats 1000000 in
set_option maxRecDepth 100000 in
theorem k_mof3 (l : Launch) (D : va_G) (am : Nat → Nat) (cI cR cS cL : ClassId) (dg : Int64) (mem : zM) {k : Nat} (hk : k < 4) {R : Nat → Int32} {p0 : Nat} (hR : mR (mem 1) k R p0) (hpp : rPp R p0) (hfd : rFd R) : zMi l yX6_ofLadder wsX6_ofLadder ({ frames := 4, cells := 0, slots := 0, locals := 97 }) D (cK cI cR cS cL) [.ref (am 0), .int (nI k), .int 3] (mw am cI dg mem) (fun r u => r = R 3 ∧ zScr mem u) (mw am cI dg) 0 0 := by
  refine zMiM.of (cc := cX6_ofLadder) (maxL := 3) (ret := (some .int)) (by decide +kernel) rfl (lv0 := [(0, .ref (am 0)), (1, .int (nI k)), (2, .int 3)]) (Nat.le_of_ble_eq_true rfl) rfl ?_
  intro p e s m args below meth c E hZ hr hlocks hnm
  obtain ⟨q0, q1, q2, q3, q4, q5, q6, q7, qp⟩ := id hR
  have hQ := rQ_of hpp
  have q6r : mem 1 (14 * k + 6) = R 7 := q6.trans hpp.2.1.symm
  refine z_iload_n E dX6_ofLadder_0 rfl 2 rfl ?_
  refine z_tableOut (tgt := 70) E dX6_ofLadder_1 (by decide) (by decide) ?_
  refine z_aload_n E dX6_ofLadder_70 rfl 0 rfl ?_
  refine z_get E 0 mw_obj (C := RX6) (T := TX6) (N := 16) rfl (fun _ h => List.mem_cons_of_mem _ (List.mem_append_right _ h)) 1 (by decide) (List.mem_of_getElem? (i := 1) (by decide +kernel)) rfl (v := .ref (am 1)) rfl dX6_ofLadder_71 ?_
  refine z_iload_n E dX6_ofLadder_74 rfl 1 rfl ?_
  refine z_iload_n E dX6_ofLadder_75 rfl 2 rfl ?_
  refine z_callSi E hZ (k_of l D am cI cR cS cL dg mem (nI k) 3) gX6_ofLadder_X6_of (n := 2) rfl rfl rfl (by decide +kernel) rfl ⟨Nat.le_of_ble_eq_true rfl, Nat.le_of_ble_eq_true rfl⟩ (As := [.int (nI k), .int 3]) (rest := [.ref (am 1)]) rfl (Nat.le_of_ble_eq_true rfl) ⟨Nat.le_of_ble_eq_true rfl, Nat.le_of_ble_eq_true rfl⟩ dX6_ofLadder_76 (fun r u hp => ?_)
  rw [hp.1, hp.2]
  rw [zof k (y := 3) (w := 3) rfl]
  refine z_iald E 1 0 mw_s rfl (vp_in_nI (by omega) (by decide)) (v := R 3) ((congrArg (mem 1) (nI_clamp (by omega))).trans q3) dX6_ofLadder_79 ?_
  exact z_iretM E hr hlocks (mem) rfl ⟨rfl, zScr.refl mem⟩ (Nat.le_of_ble_eq_true rfl) (Nat.le_of_ble_eq_true rfl) dX6_ofLadder_80
set_option maxHeartbeats 1000000 in
set_option maxRecDepth 100000 in
theorem k_mof4 (l : Launch) (D : va_G) (am : Nat → Nat) (cI cR cS cL : ClassId) (dg : Int64) (mem : zM) {k : Nat} (hk : k < 4) {R : Nat → Int32} {p0 : Nat} (hR : mR (mem 1) k R p0) (hpp : rPp R p0) (hfd : rFd R) : zMi l yX6_ofLadder wsX6_ofLadder ({ frames := 4, cells := 0, slots := 0, locals := 97 }) D (cK cI cR cS cL) [.ref (am 0), .int (nI k), .int 4] (mw am cI dg mem) (fun r u => r = R 4 ∧ zScr mem u) (mw am cI dg) 0 0 := by
  refine zMiM.of (cc := cX6_ofLadder) (maxL := 3) (ret := (some .int)) (by decide +kernel) rfl (lv0 := [(0, .ref (am 0)), (1, .int (nI k)), (2, .int 4)]) (Nat.le_of_ble_eq_true rfl) rfl ?_
  intro p e s m args below meth c E hZ hr hlocks hnm
  obtain ⟨q0, q1, q2, q3, q4, q5, q6, q7, qp⟩ := id hR
  have hQ := rQ_of hpp
  have q6r : mem 1 (14 * k + 6) = R 7 := q6.trans hpp.2.1.symm
  refine z_iload_n E dX6_ofLadder_0 rfl 2 rfl ?_
  refine z_tableOut (tgt := 70) E dX6_ofLadder_1 (by decide) (by decide) ?_
  refine z_aload_n E dX6_ofLadder_70 rfl 0 rfl ?_
  refine z_get E 0 mw_obj (C := RX6) (T := TX6) (N := 16) rfl (fun _ h => List.mem_cons_of_mem _ (List.mem_append_right _ h)) 1 (by decide) (List.mem_of_getElem? (i := 1) (by decide +kernel)) rfl (v := .ref (am 1)) rfl dX6_ofLadder_71 ?_
  refine z_iload_n E dX6_ofLadder_74 rfl 1 rfl ?_
  refine z_iload_n E dX6_ofLadder_75 rfl 2 rfl ?_
  refine z_callSi E hZ (k_of l D am cI cR cS cL dg mem (nI k) 4) gX6_ofLadder_X6_of (n := 2) rfl rfl rfl (by decide +kernel) rfl ⟨Nat.le_of_ble_eq_true rfl, Nat.le_of_ble_eq_true rfl⟩ (As := [.int (nI k), .int 4]) (rest := [.ref (am 1)]) rfl (Nat.le_of_ble_eq_true rfl) ⟨Nat.le_of_ble_eq_true rfl, Nat.le_of_ble_eq_true rfl⟩ dX6_ofLadder_76 (fun r u hp => ?_)
  rw [hp.1, hp.2]
  rw [zof k (y := 4) (w := 4) rfl]
  refine z_iald E 1 0 mw_s rfl (vp_in_nI (by omega) (by decide)) (v := R 4) ((congrArg (mem 1) (nI_clamp (by omega))).trans q4) dX6_ofLadder_79 ?_
  exact z_iretM E hr hlocks (mem) rfl ⟨rfl, zScr.refl mem⟩ (Nat.le_of_ble_eq_true rfl) (Nat.le_of_ble_eq_true rfl) dX6_ofLadder_80
set_option maxHeartbeats 1000000 in
set_option maxRecDepth 100000 in
theorem k_mof5 (l : Launch) (D : va_G) (am : Nat → Nat) (cI cR cS cL : ClassId) (dg : Int64) (mem : zM) {k : Nat} (hk : k < 4) {R : Nat → Int32} {p0 : Nat} (hR : mR (mem 1) k R p0) (hpp : rPp R p0) (hfd : rFd R) : zMi l yX6_ofLadder wsX6_ofLadder ({ frames := 4, cells := 0, slots := 0, locals := 97 }) D (cK cI cR cS cL) [.ref (am 0), .int (nI k), .int 5] (mw am cI dg mem) (fun r u => r = R 5 ∧ zScr mem u) (mw am cI dg) 0 0 := by
  refine zMiM.of (cc := cX6_ofLadder) (maxL := 3) (ret := (some .int)) (by decide +kernel) rfl (lv0 := [(0, .ref (am 0)), (1, .int (nI k)), (2, .int 5)]) (Nat.le_of_ble_eq_true rfl) rfl ?_
  intro p e s m args below meth c E hZ hr hlocks hnm
  obtain ⟨q0, q1, q2, q3, q4, q5, q6, q7, qp⟩ := id hR
  have hQ := rQ_of hpp
  have q6r : mem 1 (14 * k + 6) = R 7 := q6.trans hpp.2.1.symm
  refine z_iload_n E dX6_ofLadder_0 rfl 2 rfl ?_
  refine z_tableOut (tgt := 70) E dX6_ofLadder_1 (by decide) (by decide) ?_
  refine z_aload_n E dX6_ofLadder_70 rfl 0 rfl ?_
  refine z_get E 0 mw_obj (C := RX6) (T := TX6) (N := 16) rfl (fun _ h => List.mem_cons_of_mem _ (List.mem_append_right _ h)) 1 (by decide) (List.mem_of_getElem? (i := 1) (by decide +kernel)) rfl (v := .ref (am 1)) rfl dX6_ofLadder_71 ?_
  refine z_iload_n E dX6_ofLadder_74 rfl 1 rfl ?_
  refine z_iload_n E dX6_ofLadder_75 rfl 2 rfl ?_
  refine z_callSi E hZ (k_of l D am cI cR cS cL dg mem (nI k) 5) gX6_ofLadder_X6_of (n := 2) rfl rfl rfl (by decide +kernel) rfl ⟨Nat.le_of_ble_eq_true rfl, Nat.le_of_ble_eq_true rfl⟩ (As := [.int (nI k), .int 5]) (rest := [.ref (am 1)]) rfl (Nat.le_of_ble_eq_true rfl) ⟨Nat.le_of_ble_eq_true rfl, Nat.le_of_ble_eq_true rfl⟩ dX6_ofLadder_76 (fun r u hp => ?_)
  rw [hp.1, hp.2]
  rw [zof k (y := 5) (w := 5) rfl]
  refine z_iald E 1 0 mw_s rfl (vp_in_nI (by omega) (by decide)) (v := R 5) ((congrArg (mem 1) (nI_clamp (by omega))).trans q5) dX6_ofLadder_79 ?_
  exact z_iretM E hr hlocks (mem) rfl ⟨rfl, zScr.refl mem⟩ (Nat.le_of_ble_eq_true rfl) (Nat.le_of_ble_eq_true rfl) dX6_ofLadder_80
set_option maxHeartbeats 1000000 in
set_option maxRecDepth 100000 in
theorem k_mof6 (l : Launch) (D : va_G) (am : Nat → Nat) (cI cR cS cL : ClassId) (dg : Int64) (mem : zM) {k : Nat} (hk : k < 4) {R : Nat → Int32} {p0 : Nat} (hR : mR (mem 1) k R p0) (hpp : rPp R p0) (hfd : rFd R) : zMi l yX6_ofLadder wsX6_ofLadder ({ frames := 4, cells := 0, slots := 0, locals := 97 }) D (cK cI cR cS cL) [.ref (am 0), .int (nI k), .int 6] (mw am cI dg mem) (fun r u => r = R 7 ∧ zScr mem u) (mw am cI dg) 0 0 := by
  refine zMiM.of (cc := cX6_ofLadder) (maxL := 3) (ret := (some .int)) (by decide +kernel) rfl (lv0 := [(0, .ref (am 0)), (1, .int (nI k)), (2, .int 6)]) (Nat.le_of_ble_eq_true rfl) rfl ?_
  intro p e s m args below meth c E hZ hr hlocks hnm
  obtain ⟨q0, q1, q2, q3, q4, q5, q6, q7, qp⟩ := id hR
  have hQ := rQ_of hpp
  have q6r : mem 1 (14 * k + 6) = R 7 := q6.trans hpp.2.1.symm
  refine z_iload_n E dX6_ofLadder_0 rfl 2 rfl ?_
  refine z_tableOut (tgt := 70) E dX6_ofLadder_1 (by decide) (by decide) ?_
  refine z_aload_n E dX6_ofLadder_70 rfl 0 rfl ?_
  refine z_get E 0 mw_obj (C := RX6) (T := TX6) (N := 16) rfl (fun _ h => List.mem_cons_of_mem _ (List.mem_append_right _ h)) 1 (by decide) (List.mem_of_getElem? (i := 1) (by decide +kernel)) rfl (v := .ref (am 1)) rfl dX6_ofLadder_71 ?_
  refine z_iload_n E dX6_ofLadder_74 rfl 1 rfl ?_
  refine z_iload_n E dX6_ofLadder_75 rfl 2 rfl ?_
  refine z_callSi E hZ (k_of l D am cI cR cS cL dg mem (nI k) 6) gX6_ofLadder_X6_of (n := 2) rfl rfl rfl (by decide +kernel) rfl ⟨Nat.le_of_ble_eq_true rfl, Nat.le_of_ble_eq_true rfl⟩ (As := [.int (nI k), .int 6]) (rest := [.ref (am 1)]) rfl (Nat.le_of_ble_eq_true rfl) ⟨Nat.le_of_ble_eq_true rfl, Nat.le_of_ble_eq_true rfl⟩ dX6_ofLadder_76 (fun r u hp => ?_)
  rw [hp.1, hp.2]
  rw [zof k (y := 6) (w := 6) rfl]
  refine z_iald E 1 0 mw_s rfl (vp_in_nI (by omega) (by decide)) (v := R 7) ((congrArg (mem 1) (nI_clamp (by omega))).trans q6r) dX6_ofLadder_79 ?_
  exact z_iretM E hr hlocks (mem) rfl ⟨rfl, zScr.refl mem⟩ (Nat.le_of_ble_eq_true rfl) (Nat.le_of_ble_eq_true rfl) dX6_ofLadder_80
set_option maxHeartbeats 1000000 in
set_option maxRecDepth 100000 in
theorem k_mof7 (l : Launch) (D : va_G) (am : Nat → Nat) (cI cR cS cL : ClassId) (dg : Int64) (mem : zM) {k : Nat} (hk : k < 4) {R : Nat → Int32} {p0 : Nat} (hR : mR (mem 1) k R p0) (hpp : rPp R p0) (hfd : rFd R) : zMi l yX6_ofLadder wsX6_ofLadder ({ frames := 4, cells := 0, slots := 0, locals := 97 }) D (cK cI cR cS cL) [.ref (am 0), .int (nI k), .int 7] (mw am cI dg mem) (fun r u => r = fLoad R ∧ zScr mem u) (mw am cI dg) 0 0 := by
  refine zMiM.of (cc := cX6_ofLadder) (maxL := 3) (ret := (some .int)) (by decide +kernel) rfl (lv0 := [(0, .ref (am 0)), (1, .int (nI k)), (2, .int 7)]) (Nat.le_of_ble_eq_true rfl) rfl ?_
  intro p e s m args below meth c E hZ hr hlocks hnm
  obtain ⟨q0, q1, q2, q3, q4, q5, q6, q7, qp⟩ := id hR
  have hQ := rQ_of hpp
  have q6r : mem 1 (14 * k + 6) = R 7 := q6.trans hpp.2.1.symm
  refine z_iload_n E dX6_ofLadder_0 rfl 2 rfl ?_
  refine z_tableIn (tgt := 32) (off := 31) E dX6_ofLadder_1 (by decide) (by decide) (by decide) (by decide) ?_
  refine z_aload_n E dX6_ofLadder_32 rfl 0 rfl ?_
  refine z_iload_n E dX6_ofLadder_33 rfl 1 rfl ?_
  refine z_callVi E hZ (k_mload l D am cI cR cS cL dg mem hk hR hQ) gX6_ofLadder_X6_loadOf (n := 1) rfl rfl rfl (by decide +kernel) rfl ⟨Nat.le_of_ble_eq_true rfl, Nat.le_of_ble_eq_true rfl⟩  (C := RX6) rfl 0 mw_obj (As := [.int (nI k)]) (rest := []) rfl (Nat.le_of_ble_eq_true rfl) ⟨Nat.le_of_ble_eq_true rfl, Nat.le_of_ble_eq_true rfl⟩ dX6_ofLadder_34 (fun r u hp => ?_)
  rw [hp.1, hp.2]
  exact z_iretM E hr hlocks (mem) rfl ⟨rfl, zScr.refl mem⟩ (Nat.le_of_ble_eq_true rfl) (Nat.le_of_ble_eq_true rfl) dX6_ofLadder_37
set_option maxHeartbeats 1000000 in
set_option maxRecDepth 100000 in
theorem k_mof8 (l : Launch) (D : va_G) (am : Nat → Nat) (cI cR cS cL : ClassId) (dg : Int64) (mem : zM) {k : Nat} (hk : k < 4) {R : Nat → Int32} {p0 : Nat} (hR : mR (mem 1) k R p0) (hpp : rPp R p0) (hfd : rFd R) : zMi l yX6_ofLadder wsX6_ofLadder ({ frames := 4, cells := 0, slots := 0, locals := 97 }) D (cK cI cR cS cL) [.ref (am 0), .int (nI k), .int 8] (mw am cI dg mem) (fun r u => r = fMoment R ∧ zScr mem u) (mw am cI dg) 0 0 := by
  refine zMiM.of (cc := cX6_ofLadder) (maxL := 3) (ret := (some .int)) (by decide +kernel) rfl (lv0 := [(0, .ref (am 0)), (1, .int (nI k)), (2, .int 8)]) (Nat.le_of_ble_eq_true rfl) rfl ?_
  intro p e s m args below meth c E hZ hr hlocks hnm
  obtain ⟨q0, q1, q2, q3, q4, q5, q6, q7, qp⟩ := id hR
  have hQ := rQ_of hpp
  have q6r : mem 1 (14 * k + 6) = R 7 := q6.trans hpp.2.1.symm
  refine z_iload_n E dX6_ofLadder_0 rfl 2 rfl ?_
  refine z_tableIn (tgt := 38) (off := 37) E dX6_ofLadder_1 (by decide) (by decide) (by decide) (by decide) ?_
  refine z_aload_n E dX6_ofLadder_38 rfl 0 rfl ?_
  refine z_iload_n E dX6_ofLadder_39 rfl 1 rfl ?_
  refine z_callVi E hZ (k_mmoment l D am cI cR cS cL dg mem hk hR hQ) gX6_ofLadder_X6_momentOf (n := 1) rfl rfl rfl (by decide +kernel) rfl ⟨Nat.le_of_ble_eq_true rfl, Nat.le_of_ble_eq_true rfl⟩  (C := RX6) rfl 0 mw_obj (As := [.int (nI k)]) (rest := []) rfl (Nat.le_of_ble_eq_true rfl) ⟨Nat.le_of_ble_eq_true rfl, Nat.le_of_ble_eq_true rfl⟩ dX6_ofLadder_40 (fun r u hp => ?_)
  rw [hp.1, hp.2]
  exact z_iretM E hr hlocks (mem) rfl ⟨rfl, zScr.refl mem⟩ (Nat.le_of_ble_eq_true rfl) (Nat.le_of_ble_eq_true rfl) dX6_ofLadder_43
set_option maxHeartbeats 1000000 in
set_option maxRecDepth 100000 in
theorem k_mof9 (l : Launch) (D : va_G) (am : Nat → Nat) (cI cR cS cL : ClassId) (dg : Int64) (mem : zM) {k : Nat} (hk : k < 4) {R : Nat → Int32} {p0 : Nat} (hR : mR (mem 1) k R p0) (hpp : rPp R p0) (hfd : rFd R) : zMi l yX6_ofLadder wsX6_ofLadder ({ frames := 4, cells := 0, slots := 0, locals := 97 }) D (cK cI cR cS cL) [.ref (am 0), .int (nI k), .int 9] (mw am cI dg mem) (fun r u => r = R 6 ∧ zScr mem u) (mw am cI dg) 0 0 := by
  refine zMiM.of (cc := cX6_ofLadder) (maxL := 3) (ret := (some .int)) (by decide +kernel) rfl (lv0 := [(0, .ref (am 0)), (1, .int (nI k)), (2, .int 9)]) (Nat.le_of_ble_eq_true rfl) rfl ?_
  intro p e s m args below meth c E hZ hr hlocks hnm
  obtain ⟨q0, q1, q2, q3, q4, q5, q6, q7, qp⟩ := id hR
  have hQ := rQ_of hpp
  have q6r : mem 1 (14 * k + 6) = R 7 := q6.trans hpp.2.1.symm
  refine z_iload_n E dX6_ofLadder_0 rfl 2 rfl ?_
  refine z_tableIn (tgt := 44) (off := 43) E dX6_ofLadder_1 (by decide) (by decide) (by decide) (by decide) ?_
  refine z_aload_n E dX6_ofLadder_44 rfl 0 rfl ?_
  refine z_get E 0 mw_obj (C := RX6) (T := TX6) (N := 16) rfl (fun _ h => List.mem_cons_of_mem _ (List.mem_append_right _ h)) 1 (by decide) (List.mem_of_getElem? (i := 1) (by decide +kernel)) rfl (v := .ref (am 1)) rfl dX6_ofLadder_45 ?_
  refine z_iload_n E dX6_ofLadder_48 rfl 1 rfl ?_
  refine z_bipush (v := 7) E dX6_ofLadder_49 (by decide) ?_
  refine z_callSi E hZ (k_of l D am cI cR cS cL dg mem (nI k) 7) gX6_ofLadder_X6_of (n := 2) rfl rfl rfl (by decide +kernel) rfl ⟨Nat.le_of_ble_eq_true rfl, Nat.le_of_ble_eq_true rfl⟩ (As := [.int (nI k), .int 7]) (rest := [.ref (am 1)]) rfl (Nat.le_of_ble_eq_true rfl) ⟨Nat.le_of_ble_eq_true rfl, Nat.le_of_ble_eq_true rfl⟩ dX6_ofLadder_51 (fun r u hp => ?_)
  rw [hp.1, hp.2]
  rw [zof k (y := 7) (w := 7) rfl]
  refine z_iald E 1 0 mw_s rfl (vp_in_nI (by omega) (by decide)) (v := R 6) ((congrArg (mem 1) (nI_clamp (by omega))).trans q7) dX6_ofLadder_54 ?_
  exact z_iretM E hr hlocks (mem) rfl ⟨rfl, zScr.refl mem⟩ (Nat.le_of_ble_eq_true rfl) (Nat.le_of_ble_eq_true rfl) dX6_ofLadder_55
set_option maxHeartbeats 1000000 in
set_option maxRecDepth 100000 in
theorem k_mof10 (l : Launch) (D : va_G) (am : Nat → Nat) (cI cR cS cL : ClassId) (dg : Int64) (mem : zM) {k : Nat} (hk : k < 4) {R : Nat → Int32} {p0 : Nat} (hR : mR (mem 1) k R p0) (hpp : rPp R p0) (hfd : rFd R) : zMi l yX6_ofLadder wsX6_ofLadder ({ frames := 4, cells := 0, slots := 0, locals := 97 }) D (cK cI cR cS cL) [.ref (am 0), .int (nI k), .int 10] (mw am cI dg mem) (fun r u => r = fStands R ∧ zScr mem u) (mw am cI dg) 0 0 := by
  refine zMiM.of (cc := cX6_ofLadder) (maxL := 3) (ret := (some .int)) (by decide +kernel) rfl (lv0 := [(0, .ref (am 0)), (1, .int (nI k)), (2, .int 10)]) (Nat.le_of_ble_eq_true rfl) rfl ?_
  intro p e s m args below meth c E hZ hr hlocks hnm
  obtain ⟨q0, q1, q2, q3, q4, q5, q6, q7, qp⟩ := id hR
  have hQ := rQ_of hpp
  have q6r : mem 1 (14 * k + 6) = R 7 := q6.trans hpp.2.1.symm
  refine z_iload_n E dX6_ofLadder_0 rfl 2 rfl ?_
  refine z_tableIn (tgt := 56) (off := 55) E dX6_ofLadder_1 (by decide) (by decide) (by decide) (by decide) ?_
  refine z_aload_n E dX6_ofLadder_56 rfl 0 rfl ?_
  refine z_iload_n E dX6_ofLadder_57 rfl 1 rfl ?_
  refine z_callVi E hZ (k_mstands l D am cI cR cS cL dg mem hk hR hQ hfd) gX6_ofLadder_X6_stands (n := 1) rfl rfl rfl (by decide +kernel) rfl ⟨(Nat.le_of_ble_eq_true rfl), (Nat.le_of_ble_eq_true rfl)⟩ (C := RX6) rfl 0 mw_obj (As := [.int (nI k)]) (rest := []) rfl (Nat.le_of_ble_eq_true rfl) ⟨(Nat.le_of_ble_eq_true rfl), (Nat.le_of_ble_eq_true rfl)⟩ dX6_ofLadder_58 (fun r m1 hp => ?_)
  rw [hp.1]
  have sm1 : zScr mem m1 := (zScr.refl mem).trans hp.2.1
  have km1_0 : m1 1 (14 * k + 0) = R 0 := by rw [hp.2.1.1 1 (by decide)]; exact q0
  have km1_1 : m1 1 (14 * k + 1) = R 1 := by rw [hp.2.1.1 1 (by decide)]; exact q1
  have km1_2 : m1 1 (14 * k + 2) = R 2 := by rw [hp.2.1.1 1 (by decide)]; exact q2
  have km1_3 : m1 1 (14 * k + 3) = R 3 := by rw [hp.2.1.1 1 (by decide)]; exact q3
  have km1_4 : m1 1 (14 * k + 4) = R 4 := by rw [hp.2.1.1 1 (by decide)]; exact q4
  have km1_5 : m1 1 (14 * k + 5) = R 5 := by rw [hp.2.1.1 1 (by decide)]; exact q5
  have km1_6 : m1 1 (14 * k + 7) = R 6 := by rw [hp.2.1.1 1 (by decide)]; exact q7
  have km1_7 : m1 1 (14 * k + 6) = R 7 := by rw [hp.2.1.1 1 (by decide)]; exact q6r
  refine z_if_eq (tgt := 68) E dX6_ofLadder_61 (by decide) (fun c61 => ?_) (fun c61 => ?_)
  · skip
    refine z_iconst (v := 0) E dX6_ofLadder_68 (by decide) ?_
    exact z_iretM E hr hlocks (m1) rfl ⟨c61.symm, sm1⟩ (Nat.le_of_ble_eq_true rfl) (Nat.le_of_ble_eq_true rfl) dX6_ofLadder_69
  · skip
    refine z_iconst (v := 1) E dX6_ofLadder_64 (by decide) ?_
    refine z_goto (tgt := 69) E dX6_ofLadder_65 (by decide) ?_
    exact z_iretM E hr hlocks (m1) rfl ⟨((fStands_01 R).resolve_left c61).symm, sm1⟩ (Nat.le_of_ble_eq_true rfl) (Nat.le_of_ble_eq_true rfl) dX6_ofLadder_69
theorem fForces_0 {R : Nat → Int32} {lo hi : Int} (H : rLH R lo hi) : fForces R = 0 ↔ fStands R = 0 := by
  have e := fStands_iff H
  have ef := fForces_toInt H
  rw [zltI zc0 ef] at e
  rw [zeqI ef zc0]
  constructor
  · intro h; exact Decidable.byContradiction (fun q => by have := e.mpr q; omega)
  · intro h; exact Decidable.byContradiction (fun q => by have : 0 < max 0 (hi - lo + 1) := by { omega }
                                                          exact (e.mp this) h)
set_option maxHeartbeats 1000000 in
set_option maxRecDepth 100000 in
theorem k_mfo0 (l : Launch) (D : va_G) (am : Nat → Nat) (cI cR cS cL : ClassId) (dg : Int64) (mem : zM) {k : Nat} (hk : k < 4) {R : Nat → Int32} {p0 : Nat} (hR : mR (mem 1) k R p0) (hpp : rPp R p0) (hfd : rFd R) : zMi l yX6_ofForce wsX6_ofForce ({ frames := 3, cells := 0, slots := 0, locals := 76 }) D (cK cI cR cS cL) [.ref (am 0), .int (nI k), .int 0] (mw am cI dg mem) (fun r u => r = (if fStands R = 0 then -1 else fLeast R + 1000) ∧ zScr mem u) (mw am cI dg) 0 0 := by
  refine zMiM.of (cc := cX6_ofForce) (maxL := 4) (ret := (some .int)) (by decide +kernel) rfl (lv0 := [(0, .ref (am 0)), (1, .int (nI k)), (2, .int 0)]) (Nat.le_of_ble_eq_true rfl) rfl ?_
  intro p e s m args below meth c E hZ hr hlocks hnm
  have hQ := rQ_of hpp
  obtain ⟨lo, hi, H⟩ := rLH_rig hfd hQ
  refine z_aload_n E dX6_ofForce_0 rfl 0 rfl ?_
  refine z_iload_n E dX6_ofForce_1 rfl 1 rfl ?_
  refine z_callVi E hZ (k_mforces l D am cI cR cS cL dg mem hk hR hQ hfd) gX6_ofForce_X6_forces (n := 1) rfl rfl rfl (by decide +kernel) rfl ⟨(Nat.le_of_ble_eq_true rfl), (Nat.le_of_ble_eq_true rfl)⟩ (C := RX6) rfl 0 mw_obj (As := [.int (nI k)]) (rest := []) rfl (Nat.le_of_ble_eq_true rfl) ⟨(Nat.le_of_ble_eq_true rfl), (Nat.le_of_ble_eq_true rfl)⟩ dX6_ofForce_2 (fun r m1 hp => ?_)
  rw [hp.1]
  have sm1 : zScr mem m1 := (zScr.refl mem).trans hp.2.1
  have fdm1 := hp.2.2
  refine z_istore_n (lv' := [(3, .int (fForces R)), (0, .ref (am 0)), (1, .int (nI k)), (2, .int 0)]) E dX6_ofForce_5 rfl (by decide) rfl ?_
  refine z_iload_n E dX6_ofForce_6 rfl 0 rfl ?_
  refine z_if_eq (tgt := 15) E dX6_ofForce_7 (by decide) (fun c7 => ?_) (fun c7 => ?_)
  · skip
    refine z_iload_n E dX6_ofForce_15 rfl 3 rfl ?_
    refine z_iconst (v := 2) E dX6_ofForce_16 (by decide) ?_
    refine z_icmp_ne_t (tgt := 24) E dX6_ofForce_17 (by decide) (by decide) ?_
    refine z_iconst (v := -1) E dX6_ofForce_24 (by decide) ?_
    exact z_iretM E hr hlocks (m1) rfl ⟨(if_pos ((fForces_0 H).mp c7)).symm, sm1⟩ (Nat.le_of_ble_eq_true rfl) (Nat.le_of_ble_eq_true rfl) dX6_ofForce_25
  · skip
    refine z_iload_n E dX6_ofForce_10 rfl 3 rfl ?_
    refine z_iconst (v := 2) E dX6_ofForce_11 (by decide) ?_
    refine z_icmp_ne_t (tgt := 26) E dX6_ofForce_12 (by decide) (by decide) ?_
    obtain ⟨e7, e8, e9⟩ := fdm1.2 c7
    refine z_iload_n E dX6_ofForce_26 rfl 3 rfl ?_
    refine z_tableIn (tgt := 60) (off := 33) E dX6_ofForce_27 (by decide) (by decide) (by decide) (by decide) ?_
    refine z_aload_n E dX6_ofForce_60 rfl 1 rfl ?_
    refine z_get E 0 mw_obj (C := RX6) (T := TX6) (N := 16) rfl (fun _ h => List.mem_cons_of_mem _ (List.mem_append_right _ h)) 7 (by decide) (List.mem_of_getElem? (i := 1) (by decide +kernel)) rfl (v := .int (fLeast R)) (congrArg (fun z : Int32 => some (Value.int z)) e7) dX6_ofForce_61 ?_
    refine z_sipush (v := 1000) E dX6_ofForce_64 (by decide) ?_
    refine z_iadd E dX6_ofForce_67 ?_
    exact z_iretM E hr hlocks (m1) rfl ⟨(if_neg (fun q => c7 ((fForces_0 H).mpr q))).symm, sm1⟩ (Nat.le_of_ble_eq_true rfl) (Nat.le_of_ble_eq_true rfl) dX6_ofForce_68
set_option maxHeartbeats 1000000 in
set_option maxRecDepth 100000 in
theorem k_mfo1 (l : Launch) (D : va_G) (am : Nat → Nat) (cI cR cS cL : ClassId) (dg : Int64) (mem : zM) {k : Nat} (hk : k < 4) {R : Nat → Int32} {p0 : Nat} (hR : mR (mem 1) k R p0) (hpp : rPp R p0) (hfd : rFd R) : zMi l yX6_ofForce wsX6_ofForce ({ frames := 3, cells := 0, slots := 0, locals := 76 }) D (cK cI cR cS cL) [.ref (am 0), .int (nI k), .int 1] (mw am cI dg mem) (fun r u => r = (if fStands R = 0 then -1 else fGreat R + 1000) ∧ zScr mem u) (mw am cI dg) 0 0 := by
  refine zMiM.of (cc := cX6_ofForce) (maxL := 4) (ret := (some .int)) (by decide +kernel) rfl (lv0 := [(0, .ref (am 0)), (1, .int (nI k)), (2, .int 1)]) (Nat.le_of_ble_eq_true rfl) rfl ?_
  intro p e s m args below meth c E hZ hr hlocks hnm
  have hQ := rQ_of hpp
  obtain ⟨lo, hi, H⟩ := rLH_rig hfd hQ
  refine z_aload_n E dX6_ofForce_0 rfl 0 rfl ?_
  refine z_iload_n E dX6_ofForce_1 rfl 1 rfl ?_
  refine z_callVi E hZ (k_mforces l D am cI cR cS cL dg mem hk hR hQ hfd) gX6_ofForce_X6_forces (n := 1) rfl rfl rfl (by decide +kernel) rfl ⟨(Nat.le_of_ble_eq_true rfl), (Nat.le_of_ble_eq_true rfl)⟩ (C := RX6) rfl 0 mw_obj (As := [.int (nI k)]) (rest := []) rfl (Nat.le_of_ble_eq_true rfl) ⟨(Nat.le_of_ble_eq_true rfl), (Nat.le_of_ble_eq_true rfl)⟩ dX6_ofForce_2 (fun r m1 hp => ?_)
  rw [hp.1]
  have sm1 : zScr mem m1 := (zScr.refl mem).trans hp.2.1
  have fdm1 := hp.2.2
  refine z_istore_n (lv' := [(3, .int (fForces R)), (0, .ref (am 0)), (1, .int (nI k)), (2, .int 1)]) E dX6_ofForce_5 rfl (by decide) rfl ?_
  refine z_iload_n E dX6_ofForce_6 rfl 0 rfl ?_
  refine z_if_eq (tgt := 15) E dX6_ofForce_7 (by decide) (fun c7 => ?_) (fun c7 => ?_)
  · skip
    refine z_iload_n E dX6_ofForce_15 rfl 3 rfl ?_
    refine z_iconst (v := 2) E dX6_ofForce_16 (by decide) ?_
    refine z_icmp_ne_t (tgt := 24) E dX6_ofForce_17 (by decide) (by decide) ?_
    refine z_iconst (v := -1) E dX6_ofForce_24 (by decide) ?_
    exact z_iretM E hr hlocks (m1) rfl ⟨(if_pos ((fForces_0 H).mp c7)).symm, sm1⟩ (Nat.le_of_ble_eq_true rfl) (Nat.le_of_ble_eq_true rfl) dX6_ofForce_25
  · skip
    refine z_iload_n E dX6_ofForce_10 rfl 3 rfl ?_
    refine z_iconst (v := 2) E dX6_ofForce_11 (by decide) ?_
    refine z_icmp_ne_t (tgt := 26) E dX6_ofForce_12 (by decide) (by decide) ?_
    obtain ⟨e7, e8, e9⟩ := fdm1.2 c7
    refine z_iload_n E dX6_ofForce_26 rfl 3 rfl ?_
    refine z_tableIn (tgt := 69) (off := 42) E dX6_ofForce_27 (by decide) (by decide) (by decide) (by decide) ?_
    refine z_aload_n E dX6_ofForce_69 rfl 1 rfl ?_
    refine z_get E 0 mw_obj (C := RX6) (T := TX6) (N := 16) rfl (fun _ h => List.mem_cons_of_mem _ (List.mem_append_right _ h)) 8 (by decide) (List.mem_of_getElem? (i := 2) (by decide +kernel)) rfl (v := .int (fGreat R)) (congrArg (fun z : Int32 => some (Value.int z)) e8) dX6_ofForce_70 ?_
    refine z_sipush (v := 1000) E dX6_ofForce_73 (by decide) ?_
    refine z_iadd E dX6_ofForce_76 ?_
    exact z_iretM E hr hlocks (m1) rfl ⟨(if_neg (fun q => c7 ((fForces_0 H).mpr q))).symm, sm1⟩ (Nat.le_of_ble_eq_true rfl) (Nat.le_of_ble_eq_true rfl) dX6_ofForce_77
set_option maxHeartbeats 1000000 in
set_option maxRecDepth 100000 in
theorem k_mfo2 (l : Launch) (D : va_G) (am : Nat → Nat) (cI cR cS cL : ClassId) (dg : Int64) (mem : zM) {k : Nat} (hk : k < 4) {R : Nat → Int32} {p0 : Nat} (hR : mR (mem 1) k R p0) (hpp : rPp R p0) (hfd : rFd R) : zMi l yX6_ofForce wsX6_ofForce ({ frames := 3, cells := 0, slots := 0, locals := 76 }) D (cK cI cR cS cL) [.ref (am 0), .int (nI k), .int 2] (mw am cI dg mem) (fun r u => r = (fForces R) ∧ zScr mem u) (mw am cI dg) 0 0 := by
  refine zMiM.of (cc := cX6_ofForce) (maxL := 4) (ret := (some .int)) (by decide +kernel) rfl (lv0 := [(0, .ref (am 0)), (1, .int (nI k)), (2, .int 2)]) (Nat.le_of_ble_eq_true rfl) rfl ?_
  intro p e s m args below meth c E hZ hr hlocks hnm
  have hQ := rQ_of hpp
  obtain ⟨lo, hi, H⟩ := rLH_rig hfd hQ
  refine z_aload_n E dX6_ofForce_0 rfl 0 rfl ?_
  refine z_iload_n E dX6_ofForce_1 rfl 1 rfl ?_
  refine z_callVi E hZ (k_mforces l D am cI cR cS cL dg mem hk hR hQ hfd) gX6_ofForce_X6_forces (n := 1) rfl rfl rfl (by decide +kernel) rfl ⟨(Nat.le_of_ble_eq_true rfl), (Nat.le_of_ble_eq_true rfl)⟩ (C := RX6) rfl 0 mw_obj (As := [.int (nI k)]) (rest := []) rfl (Nat.le_of_ble_eq_true rfl) ⟨(Nat.le_of_ble_eq_true rfl), (Nat.le_of_ble_eq_true rfl)⟩ dX6_ofForce_2 (fun r m1 hp => ?_)
  rw [hp.1]
  have sm1 : zScr mem m1 := (zScr.refl mem).trans hp.2.1
  have fdm1 := hp.2.2
  refine z_istore_n (lv' := [(3, .int (fForces R)), (0, .ref (am 0)), (1, .int (nI k)), (2, .int 2)]) E dX6_ofForce_5 rfl (by decide) rfl ?_
  refine z_iload_n E dX6_ofForce_6 rfl 0 rfl ?_
  refine z_if_eq (tgt := 15) E dX6_ofForce_7 (by decide) (fun c7 => ?_) (fun c7 => ?_)
  · skip
    refine z_iload_n E dX6_ofForce_15 rfl 3 rfl ?_
    refine z_iconst (v := 2) E dX6_ofForce_16 (by decide) ?_
    refine z_icmp_ne_f (tgt := 24) E dX6_ofForce_17 (by decide) (by decide) ?_
    refine z_iload_n E dX6_ofForce_20 rfl 0 rfl ?_
    refine z_goto (tgt := 25) E dX6_ofForce_21 (by decide) ?_
    exact z_iretM E hr hlocks (m1) rfl ⟨rfl, sm1⟩ (Nat.le_of_ble_eq_true rfl) (Nat.le_of_ble_eq_true rfl) dX6_ofForce_25
  · skip
    refine z_iload_n E dX6_ofForce_10 rfl 3 rfl ?_
    refine z_iconst (v := 2) E dX6_ofForce_11 (by decide) ?_
    refine z_icmp_ne_f (tgt := 26) E dX6_ofForce_12 (by decide) (by decide) ?_
    refine z_iload_n E dX6_ofForce_15 rfl 3 rfl ?_
    refine z_iconst (v := 2) E dX6_ofForce_16 (by decide) ?_
    refine z_icmp_ne_f (tgt := 24) E dX6_ofForce_17 (by decide) (by decide) ?_
    refine z_iload_n E dX6_ofForce_20 rfl 0 rfl ?_
    refine z_goto (tgt := 25) E dX6_ofForce_21 (by decide) ?_
    exact z_iretM E hr hlocks (m1) rfl ⟨rfl, sm1⟩ (Nat.le_of_ble_eq_true rfl) (Nat.le_of_ble_eq_true rfl) dX6_ofForce_25
set_option maxHeartbeats 1000000 in
set_option maxRecDepth 100000 in
theorem k_mfo3 (l : Launch) (D : va_G) (am : Nat → Nat) (cI cR cS cL : ClassId) (dg : Int64) (mem : zM) {k : Nat} (hk : k < 4) {R : Nat → Int32} {p0 : Nat} (hR : mR (mem 1) k R p0) (hpp : rPp R p0) (hfd : rFd R) : zMi l yX6_ofForce wsX6_ofForce ({ frames := 3, cells := 0, slots := 0, locals := 76 }) D (cK cI cR cS cL) [.ref (am 0), .int (nI k), .int 3] (mw am cI dg mem) (fun r u => r = (if fStands R = 0 then -1 else fNearest R + 1000) ∧ zScr mem u) (mw am cI dg) 0 0 := by
  refine zMiM.of (cc := cX6_ofForce) (maxL := 4) (ret := (some .int)) (by decide +kernel) rfl (lv0 := [(0, .ref (am 0)), (1, .int (nI k)), (2, .int 3)]) (Nat.le_of_ble_eq_true rfl) rfl ?_
  intro p e s m args below meth c E hZ hr hlocks hnm
  have hQ := rQ_of hpp
  obtain ⟨lo, hi, H⟩ := rLH_rig hfd hQ
  refine z_aload_n E dX6_ofForce_0 rfl 0 rfl ?_
  refine z_iload_n E dX6_ofForce_1 rfl 1 rfl ?_
  refine z_callVi E hZ (k_mforces l D am cI cR cS cL dg mem hk hR hQ hfd) gX6_ofForce_X6_forces (n := 1) rfl rfl rfl (by decide +kernel) rfl ⟨(Nat.le_of_ble_eq_true rfl), (Nat.le_of_ble_eq_true rfl)⟩ (C := RX6) rfl 0 mw_obj (As := [.int (nI k)]) (rest := []) rfl (Nat.le_of_ble_eq_true rfl) ⟨(Nat.le_of_ble_eq_true rfl), (Nat.le_of_ble_eq_true rfl)⟩ dX6_ofForce_2 (fun r m1 hp => ?_)
  rw [hp.1]
  have sm1 : zScr mem m1 := (zScr.refl mem).trans hp.2.1
  have fdm1 := hp.2.2
  refine z_istore_n (lv' := [(3, .int (fForces R)), (0, .ref (am 0)), (1, .int (nI k)), (2, .int 3)]) E dX6_ofForce_5 rfl (by decide) rfl ?_
  refine z_iload_n E dX6_ofForce_6 rfl 0 rfl ?_
  refine z_if_eq (tgt := 15) E dX6_ofForce_7 (by decide) (fun c7 => ?_) (fun c7 => ?_)
  · skip
    refine z_iload_n E dX6_ofForce_15 rfl 3 rfl ?_
    refine z_iconst (v := 2) E dX6_ofForce_16 (by decide) ?_
    refine z_icmp_ne_t (tgt := 24) E dX6_ofForce_17 (by decide) (by decide) ?_
    refine z_iconst (v := -1) E dX6_ofForce_24 (by decide) ?_
    exact z_iretM E hr hlocks (m1) rfl ⟨(if_pos ((fForces_0 H).mp c7)).symm, sm1⟩ (Nat.le_of_ble_eq_true rfl) (Nat.le_of_ble_eq_true rfl) dX6_ofForce_25
  · skip
    refine z_iload_n E dX6_ofForce_10 rfl 3 rfl ?_
    refine z_iconst (v := 2) E dX6_ofForce_11 (by decide) ?_
    refine z_icmp_ne_t (tgt := 26) E dX6_ofForce_12 (by decide) (by decide) ?_
    obtain ⟨e7, e8, e9⟩ := fdm1.2 c7
    refine z_iload_n E dX6_ofForce_26 rfl 3 rfl ?_
    refine z_tableIn (tgt := 78) (off := 51) E dX6_ofForce_27 (by decide) (by decide) (by decide) (by decide) ?_
    refine z_aload_n E dX6_ofForce_78 rfl 1 rfl ?_
    refine z_get E 0 mw_obj (C := RX6) (T := TX6) (N := 16) rfl (fun _ h => List.mem_cons_of_mem _ (List.mem_append_right _ h)) 9 (by decide) (List.mem_of_getElem? (i := 3) (by decide +kernel)) rfl (v := .int (fNearest R)) (congrArg (fun z : Int32 => some (Value.int z)) e9) dX6_ofForce_79 ?_
    refine z_sipush (v := 1000) E dX6_ofForce_82 (by decide) ?_
    refine z_iadd E dX6_ofForce_85 ?_
    exact z_iretM E hr hlocks (m1) rfl ⟨(if_neg (fun q => c7 ((fForces_0 H).mpr q))).symm, sm1⟩ (Nat.le_of_ble_eq_true rfl) (Nat.le_of_ble_eq_true rfl) dX6_ofForce_86
set_option maxHeartbeats 1000000 in
set_option maxRecDepth 100000 in
theorem k_mfo4 (l : Launch) (D : va_G) (am : Nat → Nat) (cI cR cS cL : ClassId) (dg : Int64) (mem : zM) {k : Nat} (hk : k < 4) {R : Nat → Int32} {p0 : Nat} (hR : mR (mem 1) k R p0) (hpp : rPp R p0) (hfd : rFd R) : zMi l yX6_ofForce wsX6_ofForce ({ frames := 3, cells := 0, slots := 0, locals := 76 }) D (cK cI cR cS cL) [.ref (am 0), .int (nI k), .int 4] (mw am cI dg mem) (fun r u => r = (if fStands R = 0 then -1 else fPush R (fNearest R)) ∧ zScr mem u) (mw am cI dg) 0 0 := by
  refine zMiM.of (cc := cX6_ofForce) (maxL := 4) (ret := (some .int)) (by decide +kernel) rfl (lv0 := [(0, .ref (am 0)), (1, .int (nI k)), (2, .int 4)]) (Nat.le_of_ble_eq_true rfl) rfl ?_
  intro p e s m args below meth c E hZ hr hlocks hnm
  have hQ := rQ_of hpp
  obtain ⟨lo, hi, H⟩ := rLH_rig hfd hQ
  refine z_aload_n E dX6_ofForce_0 rfl 0 rfl ?_
  refine z_iload_n E dX6_ofForce_1 rfl 1 rfl ?_
  refine z_callVi E hZ (k_mforces l D am cI cR cS cL dg mem hk hR hQ hfd) gX6_ofForce_X6_forces (n := 1) rfl rfl rfl (by decide +kernel) rfl ⟨(Nat.le_of_ble_eq_true rfl), (Nat.le_of_ble_eq_true rfl)⟩ (C := RX6) rfl 0 mw_obj (As := [.int (nI k)]) (rest := []) rfl (Nat.le_of_ble_eq_true rfl) ⟨(Nat.le_of_ble_eq_true rfl), (Nat.le_of_ble_eq_true rfl)⟩ dX6_ofForce_2 (fun r m1 hp => ?_)
  rw [hp.1]
  have sm1 : zScr mem m1 := (zScr.refl mem).trans hp.2.1
  have fdm1 := hp.2.2
  refine z_istore_n (lv' := [(3, .int (fForces R)), (0, .ref (am 0)), (1, .int (nI k)), (2, .int 4)]) E dX6_ofForce_5 rfl (by decide) rfl ?_
  refine z_iload_n E dX6_ofForce_6 rfl 0 rfl ?_
  refine z_if_eq (tgt := 15) E dX6_ofForce_7 (by decide) (fun c7 => ?_) (fun c7 => ?_)
  · skip
    refine z_iload_n E dX6_ofForce_15 rfl 3 rfl ?_
    refine z_iconst (v := 2) E dX6_ofForce_16 (by decide) ?_
    refine z_icmp_ne_t (tgt := 24) E dX6_ofForce_17 (by decide) (by decide) ?_
    refine z_iconst (v := -1) E dX6_ofForce_24 (by decide) ?_
    exact z_iretM E hr hlocks (m1) rfl ⟨(if_pos ((fForces_0 H).mp c7)).symm, sm1⟩ (Nat.le_of_ble_eq_true rfl) (Nat.le_of_ble_eq_true rfl) dX6_ofForce_25
  · skip
    refine z_iload_n E dX6_ofForce_10 rfl 3 rfl ?_
    refine z_iconst (v := 2) E dX6_ofForce_11 (by decide) ?_
    refine z_icmp_ne_t (tgt := 26) E dX6_ofForce_12 (by decide) (by decide) ?_
    obtain ⟨e7, e8, e9⟩ := fdm1.2 c7
    refine z_iload_n E dX6_ofForce_26 rfl 3 rfl ?_
    refine z_tableIn (tgt := 87) (off := 60) E dX6_ofForce_27 (by decide) (by decide) (by decide) (by decide) ?_
    refine z_aload_n E dX6_ofForce_87 rfl 1 rfl ?_
    refine z_iload_n E dX6_ofForce_88 rfl 2 rfl ?_
    refine z_aload_n E dX6_ofForce_89 rfl 1 rfl ?_
    refine z_get E 0 mw_obj (C := RX6) (T := TX6) (N := 16) rfl (fun _ h => List.mem_cons_of_mem _ (List.mem_append_right _ h)) 9 (by decide) (List.mem_of_getElem? (i := 3) (by decide +kernel)) rfl (v := .int (fNearest R)) (congrArg (fun z : Int32 => some (Value.int z)) e9) dX6_ofForce_90 ?_
    refine z_callVi E hZ (k_mpush l D am cI cR cS cL dg m1 hk (by rw [sm1.1 1 (by decide)]; exact hR) hQ (fNearest R)) gX6_ofForce_X6_pushOf (n := 2) rfl rfl rfl (by decide +kernel) rfl ⟨Nat.le_of_ble_eq_true rfl, Nat.le_of_ble_eq_true rfl⟩  (C := RX6) rfl 0 mw_obj (As := [.int (nI k), .int (fNearest R)]) (rest := []) rfl (Nat.le_of_ble_eq_true rfl) ⟨Nat.le_of_ble_eq_true rfl, Nat.le_of_ble_eq_true rfl⟩ dX6_ofForce_93 (fun r u hp => ?_)
    rw [hp.1, hp.2]
    exact z_iretM E hr hlocks (m1) rfl ⟨(if_neg (fun q => c7 ((fForces_0 H).mpr q))).symm, sm1⟩ (Nat.le_of_ble_eq_true rfl) (Nat.le_of_ble_eq_true rfl) dX6_ofForce_96
set_option maxHeartbeats 1000000 in
set_option maxRecDepth 100000 in
theorem k_mfo5 (l : Launch) (D : va_G) (am : Nat → Nat) (cI cR cS cL : ClassId) (dg : Int64) (mem : zM) {k : Nat} (hk : k < 4) {R : Nat → Int32} {p0 : Nat} (hR : mR (mem 1) k R p0) (hpp : rPp R p0) (hfd : rFd R) : zMi l yX6_ofForce wsX6_ofForce ({ frames := 3, cells := 0, slots := 0, locals := 76 }) D (cK cI cR cS cL) [.ref (am 0), .int (nI k), .int 5] (mw am cI dg mem) (fun r u => r = (if fStands R = 0 then -1 else fLoad R - fNearest R) ∧ zScr mem u) (mw am cI dg) 0 0 := by
  refine zMiM.of (cc := cX6_ofForce) (maxL := 4) (ret := (some .int)) (by decide +kernel) rfl (lv0 := [(0, .ref (am 0)), (1, .int (nI k)), (2, .int 5)]) (Nat.le_of_ble_eq_true rfl) rfl ?_
  intro p e s m args below meth c E hZ hr hlocks hnm
  have hQ := rQ_of hpp
  obtain ⟨lo, hi, H⟩ := rLH_rig hfd hQ
  refine z_aload_n E dX6_ofForce_0 rfl 0 rfl ?_
  refine z_iload_n E dX6_ofForce_1 rfl 1 rfl ?_
  refine z_callVi E hZ (k_mforces l D am cI cR cS cL dg mem hk hR hQ hfd) gX6_ofForce_X6_forces (n := 1) rfl rfl rfl (by decide +kernel) rfl ⟨(Nat.le_of_ble_eq_true rfl), (Nat.le_of_ble_eq_true rfl)⟩ (C := RX6) rfl 0 mw_obj (As := [.int (nI k)]) (rest := []) rfl (Nat.le_of_ble_eq_true rfl) ⟨(Nat.le_of_ble_eq_true rfl), (Nat.le_of_ble_eq_true rfl)⟩ dX6_ofForce_2 (fun r m1 hp => ?_)
  rw [hp.1]
  have sm1 : zScr mem m1 := (zScr.refl mem).trans hp.2.1
  have fdm1 := hp.2.2
  refine z_istore_n (lv' := [(3, .int (fForces R)), (0, .ref (am 0)), (1, .int (nI k)), (2, .int 5)]) E dX6_ofForce_5 rfl (by decide) rfl ?_
  refine z_iload_n E dX6_ofForce_6 rfl 0 rfl ?_
  refine z_if_eq (tgt := 15) E dX6_ofForce_7 (by decide) (fun c7 => ?_) (fun c7 => ?_)
  · skip
    refine z_iload_n E dX6_ofForce_15 rfl 3 rfl ?_
    refine z_iconst (v := 2) E dX6_ofForce_16 (by decide) ?_
    refine z_icmp_ne_t (tgt := 24) E dX6_ofForce_17 (by decide) (by decide) ?_
    refine z_iconst (v := -1) E dX6_ofForce_24 (by decide) ?_
    exact z_iretM E hr hlocks (m1) rfl ⟨(if_pos ((fForces_0 H).mp c7)).symm, sm1⟩ (Nat.le_of_ble_eq_true rfl) (Nat.le_of_ble_eq_true rfl) dX6_ofForce_25
  · skip
    refine z_iload_n E dX6_ofForce_10 rfl 3 rfl ?_
    refine z_iconst (v := 2) E dX6_ofForce_11 (by decide) ?_
    refine z_icmp_ne_t (tgt := 26) E dX6_ofForce_12 (by decide) (by decide) ?_
    obtain ⟨e7, e8, e9⟩ := fdm1.2 c7
    refine z_iload_n E dX6_ofForce_26 rfl 3 rfl ?_
    refine z_tableOut (tgt := 97) E dX6_ofForce_27 (by decide) (by decide) ?_
    refine z_aload_n E dX6_ofForce_97 rfl 1 rfl ?_
    refine z_iload_n E dX6_ofForce_98 rfl 2 rfl ?_
    refine z_callVi E hZ (k_mload l D am cI cR cS cL dg m1 hk (by rw [sm1.1 1 (by decide)]; exact hR) hQ) gX6_ofForce_X6_loadOf (n := 1) rfl rfl rfl (by decide +kernel) rfl ⟨Nat.le_of_ble_eq_true rfl, Nat.le_of_ble_eq_true rfl⟩  (C := RX6) rfl 0 mw_obj (As := [.int (nI k)]) (rest := []) rfl (Nat.le_of_ble_eq_true rfl) ⟨Nat.le_of_ble_eq_true rfl, Nat.le_of_ble_eq_true rfl⟩ dX6_ofForce_99 (fun r u hp => ?_)
    rw [hp.1, hp.2]
    refine z_aload_n E dX6_ofForce_102 rfl 1 rfl ?_
    refine z_get E 0 mw_obj (C := RX6) (T := TX6) (N := 16) rfl (fun _ h => List.mem_cons_of_mem _ (List.mem_append_right _ h)) 9 (by decide) (List.mem_of_getElem? (i := 3) (by decide +kernel)) rfl (v := .int (fNearest R)) (congrArg (fun z : Int32 => some (Value.int z)) e9) dX6_ofForce_103 ?_
    refine z_isub E dX6_ofForce_106 ?_
    exact z_iretM E hr hlocks (m1) rfl ⟨(if_neg (fun q => c7 ((fForces_0 H).mpr q))).symm, sm1⟩ (Nat.le_of_ble_eq_true rfl) (Nat.le_of_ble_eq_true rfl) dX6_ofForce_107
set_option maxHeartbeats 1000000 in
set_option maxRecDepth 100000 in
theorem k_mlacking (l : Launch) (D : va_G) (am : Nat → Nat) (cI cR cS cL : ClassId) (dg : Int64) (mem : zM) {k : Nat} (hk : k < 4) {R : Nat → Int32} {p0 : Nat} (hR : mR (mem 1) k R p0) (hpp : rPp R p0) (hfd : rFd R) (f : Int32) : zMi l yX6_lacking wsX6_lacking ({ frames := 3, cells := 0, slots := 0, locals := 67 }) D (cK cI cR cS cL) [.ref (am 0), .int (nI k), .int f] (mw am cI dg mem) (fun r u => r = fWGW R f ∧ u = mem) (mw am cI dg) 0 0 := by
  refine zMiM.of (cc := cX6_lacking) (maxL := 3) (ret := (some .int)) (by decide +kernel) rfl (lv0 := [(0, .ref (am 0)), (1, .int (nI k)), (2, .int f)]) (Nat.le_of_ble_eq_true rfl) rfl ?_
  intro p e s m args below meth c E hZ hr hlocks hnm
  have hQ := rQ_of hpp
  refine z_aload_n E dX6_lacking_0 rfl 0 rfl ?_
  refine z_iload_n E dX6_lacking_1 rfl 1 rfl ?_
  refine z_iload_n E dX6_lacking_2 rfl 2 rfl ?_
  refine z_aload_n E dX6_lacking_3 rfl 0 rfl ?_
  refine z_iload_n E dX6_lacking_4 rfl 1 rfl ?_
  refine z_callVi E hZ (k_mload l D am cI cR cS cL dg mem hk hR hQ) gX6_lacking_X6_loadOf (n := 1) rfl rfl rfl (by decide +kernel) rfl ⟨Nat.le_of_ble_eq_true rfl, Nat.le_of_ble_eq_true rfl⟩  (C := RX6) rfl 0 mw_obj (As := [.int (nI k)]) (rest := [.int f, .int (nI k), .ref (am 0)]) rfl (Nat.le_of_ble_eq_true rfl) ⟨Nat.le_of_ble_eq_true rfl, Nat.le_of_ble_eq_true rfl⟩ dX6_lacking_5 (fun r u hp => ?_)
  rw [hp.1, hp.2]
  refine z_aload_n E dX6_lacking_8 rfl 0 rfl ?_
  refine z_iload_n E dX6_lacking_9 rfl 1 rfl ?_
  refine z_iload_n E dX6_lacking_10 rfl 2 rfl ?_
  refine z_callVi E hZ (k_mpush l D am cI cR cS cL dg mem hk hR hQ f) gX6_lacking_X6_pushOf (n := 2) rfl rfl rfl (by decide +kernel) rfl ⟨Nat.le_of_ble_eq_true rfl, Nat.le_of_ble_eq_true rfl⟩  (C := RX6) rfl 0 mw_obj (As := [.int (nI k), .int f]) (rest := [.int (fLoad R), .int f, .int (nI k), .ref (am 0)]) rfl (Nat.le_of_ble_eq_true rfl) ⟨Nat.le_of_ble_eq_true rfl, Nat.le_of_ble_eq_true rfl⟩ dX6_lacking_11 (fun r u hp => ?_)
  rw [hp.1, hp.2]
  refine z_callVi E hZ (k_lacks l D am cI cR cS cL dg mem hk hR hQ hfd f) gX6_lacking_X6_lacks (n := 4) rfl rfl rfl (by decide +kernel) rfl ⟨Nat.le_of_ble_eq_true rfl, Nat.le_of_ble_eq_true rfl⟩  (C := RX6) rfl 0 mw_obj (As := [.int (nI k), .int f, .int (fLoad R), .int (fPush R f)]) (rest := []) rfl (Nat.le_of_ble_eq_true rfl) ⟨Nat.le_of_ble_eq_true rfl, Nat.le_of_ble_eq_true rfl⟩ dX6_lacking_14 (fun r u hp => ?_)
  rw [hp.1, hp.2]
  exact z_iretM E hr hlocks (mem) rfl ⟨rfl, rfl⟩ (Nat.le_of_ble_eq_true rfl) (Nat.le_of_ble_eq_true rfl) dX6_lacking_17
theorem zScr.s {mem u : zM} (h : zScr mem u) : u 1 = mem 1 := h.1 1 (by decide)
theorem fStanding_sum (cm : zM) : fStanding cm 0 = 0 + fStands (rv cm 0) + fStands (rv cm 1) + fStands (rv cm 2) + fStands (rv cm 3) := by
  have key : ∀ (x acc : Int32) (k : Int32 → Int32), (x = 0 ∨ x = 1) → fCntC x acc k = k (acc + x) := fun x acc k h => by
    rcases h with rfl | rfl
    · rw [fCntC_0 rfl, Int32.add_zero]
    · rw [fCntC_1 (by decide)]
  unfold fStanding
  rw [key _ _ _ (fStands_01 _), key _ _ _ (fStands_01 _), key _ _ _ (fStands_01 _), key _ _ _ (fStands_01 _)]
set_option maxHeartbeats 1000000 in
set_option maxRecDepth 100000 in
theorem k_msum10 (l : Launch) (D : va_G) (am : Nat → Nat) (cI cR cS cL : ClassId) (dg : Int64) (mem : zM) {cm : zM} (hok : zOK cm) (hS : zS cm (mem 1)) : zMi l yX6_sumOf wsX6_sumOf ({ frames := 5, cells := 0, slots := 0, locals := 119 }) D (cK cI cR cS cL) [.ref (am 0), .int 10] (mw am cI dg mem) (fun r u => r = fStanding cm 0 ∧ zScr mem u) (mw am cI dg) 0 0 := by
  refine zMiM.of (cc := cX6_sumOf) (maxL := 4) (ret := (some .int)) (by decide +kernel) rfl (lv0 := [(0, .ref (am 0)), (1, .int 10)]) (Nat.le_of_ble_eq_true rfl) rfl ?_
  intro p e s m args below meth c E hZ hr hlocks hnm
  refine z_iconst (v := 0) E dX6_sumOf_0 (by decide) ?_
  refine z_istore_n (lv' := [(2, .int 0), (0, .ref (am 0)), (1, .int 10)]) E dX6_sumOf_1 rfl (by decide) rfl ?_
  refine z_iconst (v := 0) E dX6_sumOf_2 (by decide) ?_
  refine z_istore_n (lv' := [(3, .int 0), (2, .int 0), (0, .ref (am 0)), (1, .int 10)]) E dX6_sumOf_3 rfl (by decide) rfl ?_
  refine z_iload_n E dX6_sumOf_4 rfl 0 rfl ?_
  refine z_iconst (v := 4) E dX6_sumOf_5 (by decide) ?_
  refine z_icmp_ge_f (tgt := 24) E dX6_sumOf_6 (by decide) (by decide) ?_
  refine z_iload_n E dX6_sumOf_9 rfl 1 rfl ?_
  refine z_aload_n E dX6_sumOf_10 rfl 2 rfl ?_
  refine z_iload_n E dX6_sumOf_11 rfl 0 rfl ?_
  refine z_iload_n E dX6_sumOf_12 rfl 3 rfl ?_
  obtain ⟨pm1, hpm1, hmm1⟩ := hS.1 0 (by omega)
  refine z_callVi E hZ (k_mof10 l D am cI cR cS cL dg mem (k := 0) (by omega) (by rw [(zScr.refl mem).s]; exact hmm1) hpm1 (hok 0 (by omega)).1) gX6_sumOf_X6_ofLadder (n := 2) rfl rfl rfl (by decide +kernel) rfl ⟨(Nat.le_of_ble_eq_true rfl), (Nat.le_of_ble_eq_true rfl)⟩ (C := RX6) rfl 0 mw_obj (As := [.int (nI 0), .int 10]) (rest := [.int 0]) rfl (Nat.le_of_ble_eq_true rfl) ⟨(Nat.le_of_ble_eq_true rfl), (Nat.le_of_ble_eq_true rfl)⟩ dX6_sumOf_13 (fun r m1 hp => ?_)
  rw [hp.1]
  have sm1 : zScr mem m1 := (zScr.refl mem).trans hp.2
  refine z_iadd E dX6_sumOf_16 ?_
  refine z_istore_n (lv' := [(2, .int (0 + (fStands (rv cm 0)))), (3, .int 0), (0, .ref (am 0)), (1, .int 10)]) E dX6_sumOf_17 rfl (by decide) rfl ?_
  refine z_iinc (v := 1) (lv' := [(3, .int 1), (2, .int (0 + (fStands (rv cm 0)))), (0, .ref (am 0)), (1, .int 10)]) E dX6_sumOf_18 (q := 1) rfl (by decide) (by decide) rfl ?_
  refine z_goto (tgt := 4) E dX6_sumOf_21 (by decide) ?_
  refine z_iload_n E dX6_sumOf_4 rfl 0 rfl ?_
  refine z_iconst (v := 4) E dX6_sumOf_5 (by decide) ?_
  refine z_icmp_ge_f (tgt := 24) E dX6_sumOf_6 (by decide) (by decide) ?_
  refine z_iload_n E dX6_sumOf_9 rfl 1 rfl ?_
  refine z_aload_n E dX6_sumOf_10 rfl 2 rfl ?_
  refine z_iload_n E dX6_sumOf_11 rfl 0 rfl ?_
  refine z_iload_n E dX6_sumOf_12 rfl 3 rfl ?_
  obtain ⟨pm2, hpm2, hmm2⟩ := hS.1 1 (by omega)
  refine z_callVi E hZ (k_mof10 l D am cI cR cS cL dg m1 (k := 1) (by omega) (by rw [sm1.s]; exact hmm2) hpm2 (hok 1 (by omega)).1) gX6_sumOf_X6_ofLadder (n := 2) rfl rfl rfl (by decide +kernel) rfl ⟨(Nat.le_of_ble_eq_true rfl), (Nat.le_of_ble_eq_true rfl)⟩ (C := RX6) rfl 0 mw_obj (As := [.int (nI 1), .int 10]) (rest := [.int (0 + (fStands (rv cm 0)))]) rfl (Nat.le_of_ble_eq_true rfl) ⟨(Nat.le_of_ble_eq_true rfl), (Nat.le_of_ble_eq_true rfl)⟩ dX6_sumOf_13 (fun r m2 hp => ?_)
  rw [hp.1]
  have sm2 : zScr mem m2 := sm1.trans hp.2
  refine z_iadd E dX6_sumOf_16 ?_
  refine z_istore_n (lv' := [(2, .int ((0 + (fStands (rv cm 0))) + (fStands (rv cm 1)))), (3, .int 1), (0, .ref (am 0)), (1, .int 10)]) E dX6_sumOf_17 rfl (by decide) rfl ?_
  refine z_iinc (v := 2) (lv' := [(3, .int 2), (2, .int ((0 + (fStands (rv cm 0))) + (fStands (rv cm 1)))), (0, .ref (am 0)), (1, .int 10)]) E dX6_sumOf_18 (q := 1) rfl (by decide) (by decide) rfl ?_
  refine z_goto (tgt := 4) E dX6_sumOf_21 (by decide) ?_
  refine z_iload_n E dX6_sumOf_4 rfl 0 rfl ?_
  refine z_iconst (v := 4) E dX6_sumOf_5 (by decide) ?_
  refine z_icmp_ge_f (tgt := 24) E dX6_sumOf_6 (by decide) (by decide) ?_
  refine z_iload_n E dX6_sumOf_9 rfl 1 rfl ?_
  refine z_aload_n E dX6_sumOf_10 rfl 2 rfl ?_
  refine z_iload_n E dX6_sumOf_11 rfl 0 rfl ?_
  refine z_iload_n E dX6_sumOf_12 rfl 3 rfl ?_
  obtain ⟨pm3, hpm3, hmm3⟩ := hS.1 2 (by omega)
  refine z_callVi E hZ (k_mof10 l D am cI cR cS cL dg m2 (k := 2) (by omega) (by rw [sm2.s]; exact hmm3) hpm3 (hok 2 (by omega)).1) gX6_sumOf_X6_ofLadder (n := 2) rfl rfl rfl (by decide +kernel) rfl ⟨(Nat.le_of_ble_eq_true rfl), (Nat.le_of_ble_eq_true rfl)⟩ (C := RX6) rfl 0 mw_obj (As := [.int (nI 2), .int 10]) (rest := [.int ((0 + (fStands (rv cm 0))) + (fStands (rv cm 1)))]) rfl (Nat.le_of_ble_eq_true rfl) ⟨(Nat.le_of_ble_eq_true rfl), (Nat.le_of_ble_eq_true rfl)⟩ dX6_sumOf_13 (fun r m3 hp => ?_)
  rw [hp.1]
  have sm3 : zScr mem m3 := sm2.trans hp.2
  refine z_iadd E dX6_sumOf_16 ?_
  refine z_istore_n (lv' := [(2, .int (((0 + (fStands (rv cm 0))) + (fStands (rv cm 1))) + (fStands (rv cm 2)))), (3, .int 2), (0, .ref (am 0)), (1, .int 10)]) E dX6_sumOf_17 rfl (by decide) rfl ?_
  refine z_iinc (v := 3) (lv' := [(3, .int 3), (2, .int (((0 + (fStands (rv cm 0))) + (fStands (rv cm 1))) + (fStands (rv cm 2)))), (0, .ref (am 0)), (1, .int 10)]) E dX6_sumOf_18 (q := 1) rfl (by decide) (by decide) rfl ?_
  refine z_goto (tgt := 4) E dX6_sumOf_21 (by decide) ?_
  refine z_iload_n E dX6_sumOf_4 rfl 0 rfl ?_
  refine z_iconst (v := 4) E dX6_sumOf_5 (by decide) ?_
  refine z_icmp_ge_f (tgt := 24) E dX6_sumOf_6 (by decide) (by decide) ?_
  refine z_iload_n E dX6_sumOf_9 rfl 1 rfl ?_
  refine z_aload_n E dX6_sumOf_10 rfl 2 rfl ?_
  refine z_iload_n E dX6_sumOf_11 rfl 0 rfl ?_
  refine z_iload_n E dX6_sumOf_12 rfl 3 rfl ?_
  obtain ⟨pm4, hpm4, hmm4⟩ := hS.1 3 (by omega)
  refine z_callVi E hZ (k_mof10 l D am cI cR cS cL dg m3 (k := 3) (by omega) (by rw [sm3.s]; exact hmm4) hpm4 (hok 3 (by omega)).1) gX6_sumOf_X6_ofLadder (n := 2) rfl rfl rfl (by decide +kernel) rfl ⟨(Nat.le_of_ble_eq_true rfl), (Nat.le_of_ble_eq_true rfl)⟩ (C := RX6) rfl 0 mw_obj (As := [.int (nI 3), .int 10]) (rest := [.int (((0 + (fStands (rv cm 0))) + (fStands (rv cm 1))) + (fStands (rv cm 2)))]) rfl (Nat.le_of_ble_eq_true rfl) ⟨(Nat.le_of_ble_eq_true rfl), (Nat.le_of_ble_eq_true rfl)⟩ dX6_sumOf_13 (fun r m4 hp => ?_)
  rw [hp.1]
  have sm4 : zScr mem m4 := sm3.trans hp.2
  refine z_iadd E dX6_sumOf_16 ?_
  refine z_istore_n (lv' := [(2, .int ((((0 + (fStands (rv cm 0))) + (fStands (rv cm 1))) + (fStands (rv cm 2))) + (fStands (rv cm 3)))), (3, .int 3), (0, .ref (am 0)), (1, .int 10)]) E dX6_sumOf_17 rfl (by decide) rfl ?_
  refine z_iinc (v := 4) (lv' := [(3, .int 4), (2, .int ((((0 + (fStands (rv cm 0))) + (fStands (rv cm 1))) + (fStands (rv cm 2))) + (fStands (rv cm 3)))), (0, .ref (am 0)), (1, .int 10)]) E dX6_sumOf_18 (q := 1) rfl (by decide) (by decide) rfl ?_
  refine z_goto (tgt := 4) E dX6_sumOf_21 (by decide) ?_
  refine z_iload_n E dX6_sumOf_4 rfl 0 rfl ?_
  refine z_iconst (v := 4) E dX6_sumOf_5 (by decide) ?_
  refine z_icmp_ge_t (tgt := 24) E dX6_sumOf_6 (by decide) (by decide) ?_
  refine z_iload_n E dX6_sumOf_24 rfl 1 rfl ?_
  exact z_iretM E hr hlocks (m4) rfl ⟨(fStanding_sum cm).symm, sm4⟩ (Nat.le_of_ble_eq_true rfl) (Nat.le_of_ble_eq_true rfl) dX6_sumOf_25
set_option maxHeartbeats 1000000 in
set_option maxRecDepth 100000 in
theorem k_msum6 (l : Launch) (D : va_G) (am : Nat → Nat) (cI cR cS cL : ClassId) (dg : Int64) (mem : zM) {cm : zM} (hok : zOK cm) (hS : zS cm (mem 1)) : zMi l yX6_sumOf wsX6_sumOf ({ frames := 5, cells := 0, slots := 0, locals := 119 }) D (cK cI cR cS cL) [.ref (am 0), .int 6] (mw am cI dg mem) (fun r u => r = fPeople cm 0 ∧ zScr mem u) (mw am cI dg) 0 0 := by
  refine zMiM.of (cc := cX6_sumOf) (maxL := 4) (ret := (some .int)) (by decide +kernel) rfl (lv0 := [(0, .ref (am 0)), (1, .int 6)]) (Nat.le_of_ble_eq_true rfl) rfl ?_
  intro p e s m args below meth c E hZ hr hlocks hnm
  refine z_iconst (v := 0) E dX6_sumOf_0 (by decide) ?_
  refine z_istore_n (lv' := [(2, .int 0), (0, .ref (am 0)), (1, .int 6)]) E dX6_sumOf_1 rfl (by decide) rfl ?_
  refine z_iconst (v := 0) E dX6_sumOf_2 (by decide) ?_
  refine z_istore_n (lv' := [(3, .int 0), (2, .int 0), (0, .ref (am 0)), (1, .int 6)]) E dX6_sumOf_3 rfl (by decide) rfl ?_
  refine z_iload_n E dX6_sumOf_4 rfl 0 rfl ?_
  refine z_iconst (v := 4) E dX6_sumOf_5 (by decide) ?_
  refine z_icmp_ge_f (tgt := 24) E dX6_sumOf_6 (by decide) (by decide) ?_
  refine z_iload_n E dX6_sumOf_9 rfl 1 rfl ?_
  refine z_aload_n E dX6_sumOf_10 rfl 2 rfl ?_
  refine z_iload_n E dX6_sumOf_11 rfl 0 rfl ?_
  refine z_iload_n E dX6_sumOf_12 rfl 3 rfl ?_
  obtain ⟨pm1, hpm1, hmm1⟩ := hS.1 0 (by omega)
  refine z_callVi E hZ (k_mof6 l D am cI cR cS cL dg mem (k := 0) (by omega) (by rw [(zScr.refl mem).s]; exact hmm1) hpm1 (hok 0 (by omega)).1) gX6_sumOf_X6_ofLadder (n := 2) rfl rfl rfl (by decide +kernel) rfl ⟨(Nat.le_of_ble_eq_true rfl), (Nat.le_of_ble_eq_true rfl)⟩ (C := RX6) rfl 0 mw_obj (As := [.int (nI 0), .int 6]) (rest := [.int 0]) rfl (Nat.le_of_ble_eq_true rfl) ⟨(Nat.le_of_ble_eq_true rfl), (Nat.le_of_ble_eq_true rfl)⟩ dX6_sumOf_13 (fun r m1 hp => ?_)
  rw [hp.1]
  have sm1 : zScr mem m1 := (zScr.refl mem).trans hp.2
  refine z_iadd E dX6_sumOf_16 ?_
  refine z_istore_n (lv' := [(2, .int (0 + ((rv cm 0) 7))), (3, .int 0), (0, .ref (am 0)), (1, .int 6)]) E dX6_sumOf_17 rfl (by decide) rfl ?_
  refine z_iinc (v := 1) (lv' := [(3, .int 1), (2, .int (0 + ((rv cm 0) 7))), (0, .ref (am 0)), (1, .int 6)]) E dX6_sumOf_18 (q := 1) rfl (by decide) (by decide) rfl ?_
  refine z_goto (tgt := 4) E dX6_sumOf_21 (by decide) ?_
  refine z_iload_n E dX6_sumOf_4 rfl 0 rfl ?_
  refine z_iconst (v := 4) E dX6_sumOf_5 (by decide) ?_
  refine z_icmp_ge_f (tgt := 24) E dX6_sumOf_6 (by decide) (by decide) ?_
  refine z_iload_n E dX6_sumOf_9 rfl 1 rfl ?_
  refine z_aload_n E dX6_sumOf_10 rfl 2 rfl ?_
  refine z_iload_n E dX6_sumOf_11 rfl 0 rfl ?_
  refine z_iload_n E dX6_sumOf_12 rfl 3 rfl ?_
  obtain ⟨pm2, hpm2, hmm2⟩ := hS.1 1 (by omega)
  refine z_callVi E hZ (k_mof6 l D am cI cR cS cL dg m1 (k := 1) (by omega) (by rw [sm1.s]; exact hmm2) hpm2 (hok 1 (by omega)).1) gX6_sumOf_X6_ofLadder (n := 2) rfl rfl rfl (by decide +kernel) rfl ⟨(Nat.le_of_ble_eq_true rfl), (Nat.le_of_ble_eq_true rfl)⟩ (C := RX6) rfl 0 mw_obj (As := [.int (nI 1), .int 6]) (rest := [.int (0 + ((rv cm 0) 7))]) rfl (Nat.le_of_ble_eq_true rfl) ⟨(Nat.le_of_ble_eq_true rfl), (Nat.le_of_ble_eq_true rfl)⟩ dX6_sumOf_13 (fun r m2 hp => ?_)
  rw [hp.1]
  have sm2 : zScr mem m2 := sm1.trans hp.2
  refine z_iadd E dX6_sumOf_16 ?_
  refine z_istore_n (lv' := [(2, .int ((0 + ((rv cm 0) 7)) + ((rv cm 1) 7))), (3, .int 1), (0, .ref (am 0)), (1, .int 6)]) E dX6_sumOf_17 rfl (by decide) rfl ?_
  refine z_iinc (v := 2) (lv' := [(3, .int 2), (2, .int ((0 + ((rv cm 0) 7)) + ((rv cm 1) 7))), (0, .ref (am 0)), (1, .int 6)]) E dX6_sumOf_18 (q := 1) rfl (by decide) (by decide) rfl ?_
  refine z_goto (tgt := 4) E dX6_sumOf_21 (by decide) ?_
  refine z_iload_n E dX6_sumOf_4 rfl 0 rfl ?_
  refine z_iconst (v := 4) E dX6_sumOf_5 (by decide) ?_
  refine z_icmp_ge_f (tgt := 24) E dX6_sumOf_6 (by decide) (by decide) ?_
  refine z_iload_n E dX6_sumOf_9 rfl 1 rfl ?_
  refine z_aload_n E dX6_sumOf_10 rfl 2 rfl ?_
  refine z_iload_n E dX6_sumOf_11 rfl 0 rfl ?_
  refine z_iload_n E dX6_sumOf_12 rfl 3 rfl ?_
  obtain ⟨pm3, hpm3, hmm3⟩ := hS.1 2 (by omega)
  refine z_callVi E hZ (k_mof6 l D am cI cR cS cL dg m2 (k := 2) (by omega) (by rw [sm2.s]; exact hmm3) hpm3 (hok 2 (by omega)).1) gX6_sumOf_X6_ofLadder (n := 2) rfl rfl rfl (by decide +kernel) rfl ⟨(Nat.le_of_ble_eq_true rfl), (Nat.le_of_ble_eq_true rfl)⟩ (C := RX6) rfl 0 mw_obj (As := [.int (nI 2), .int 6]) (rest := [.int ((0 + ((rv cm 0) 7)) + ((rv cm 1) 7))]) rfl (Nat.le_of_ble_eq_true rfl) ⟨(Nat.le_of_ble_eq_true rfl), (Nat.le_of_ble_eq_true rfl)⟩ dX6_sumOf_13 (fun r m3 hp => ?_)
  rw [hp.1]
  have sm3 : zScr mem m3 := sm2.trans hp.2
  refine z_iadd E dX6_sumOf_16 ?_
  refine z_istore_n (lv' := [(2, .int (((0 + ((rv cm 0) 7)) + ((rv cm 1) 7)) + ((rv cm 2) 7))), (3, .int 2), (0, .ref (am 0)), (1, .int 6)]) E dX6_sumOf_17 rfl (by decide) rfl ?_
  refine z_iinc (v := 3) (lv' := [(3, .int 3), (2, .int (((0 + ((rv cm 0) 7)) + ((rv cm 1) 7)) + ((rv cm 2) 7))), (0, .ref (am 0)), (1, .int 6)]) E dX6_sumOf_18 (q := 1) rfl (by decide) (by decide) rfl ?_
  refine z_goto (tgt := 4) E dX6_sumOf_21 (by decide) ?_
  refine z_iload_n E dX6_sumOf_4 rfl 0 rfl ?_
  refine z_iconst (v := 4) E dX6_sumOf_5 (by decide) ?_
  refine z_icmp_ge_f (tgt := 24) E dX6_sumOf_6 (by decide) (by decide) ?_
  refine z_iload_n E dX6_sumOf_9 rfl 1 rfl ?_
  refine z_aload_n E dX6_sumOf_10 rfl 2 rfl ?_
  refine z_iload_n E dX6_sumOf_11 rfl 0 rfl ?_
  refine z_iload_n E dX6_sumOf_12 rfl 3 rfl ?_
  obtain ⟨pm4, hpm4, hmm4⟩ := hS.1 3 (by omega)
  refine z_callVi E hZ (k_mof6 l D am cI cR cS cL dg m3 (k := 3) (by omega) (by rw [sm3.s]; exact hmm4) hpm4 (hok 3 (by omega)).1) gX6_sumOf_X6_ofLadder (n := 2) rfl rfl rfl (by decide +kernel) rfl ⟨(Nat.le_of_ble_eq_true rfl), (Nat.le_of_ble_eq_true rfl)⟩ (C := RX6) rfl 0 mw_obj (As := [.int (nI 3), .int 6]) (rest := [.int (((0 + ((rv cm 0) 7)) + ((rv cm 1) 7)) + ((rv cm 2) 7))]) rfl (Nat.le_of_ble_eq_true rfl) ⟨(Nat.le_of_ble_eq_true rfl), (Nat.le_of_ble_eq_true rfl)⟩ dX6_sumOf_13 (fun r m4 hp => ?_)
  rw [hp.1]
  have sm4 : zScr mem m4 := sm3.trans hp.2
  refine z_iadd E dX6_sumOf_16 ?_
  refine z_istore_n (lv' := [(2, .int ((((0 + ((rv cm 0) 7)) + ((rv cm 1) 7)) + ((rv cm 2) 7)) + ((rv cm 3) 7))), (3, .int 3), (0, .ref (am 0)), (1, .int 6)]) E dX6_sumOf_17 rfl (by decide) rfl ?_
  refine z_iinc (v := 4) (lv' := [(3, .int 4), (2, .int ((((0 + ((rv cm 0) 7)) + ((rv cm 1) 7)) + ((rv cm 2) 7)) + ((rv cm 3) 7))), (0, .ref (am 0)), (1, .int 6)]) E dX6_sumOf_18 (q := 1) rfl (by decide) (by decide) rfl ?_
  refine z_goto (tgt := 4) E dX6_sumOf_21 (by decide) ?_
  refine z_iload_n E dX6_sumOf_4 rfl 0 rfl ?_
  refine z_iconst (v := 4) E dX6_sumOf_5 (by decide) ?_
  refine z_icmp_ge_t (tgt := 24) E dX6_sumOf_6 (by decide) (by decide) ?_
  refine z_iload_n E dX6_sumOf_24 rfl 1 rfl ?_
  exact z_iretM E hr hlocks (m4) rfl ⟨rfl, sm4⟩ (Nat.le_of_ble_eq_true rfl) (Nat.le_of_ble_eq_true rfl) dX6_sumOf_25
set_option maxHeartbeats 1000000 in
set_option maxRecDepth 100000 in
theorem k_msum9 (l : Launch) (D : va_G) (am : Nat → Nat) (cI cR cS cL : ClassId) (dg : Int64) (mem : zM) {cm : zM} (hok : zOK cm) (hS : zS cm (mem 1)) : zMi l yX6_sumOf wsX6_sumOf ({ frames := 5, cells := 0, slots := 0, locals := 119 }) D (cK cI cR cS cL) [.ref (am 0), .int 9] (mw am cI dg mem) (fun r u => r = fFalls cm 0 ∧ zScr mem u) (mw am cI dg) 0 0 := by
  refine zMiM.of (cc := cX6_sumOf) (maxL := 4) (ret := (some .int)) (by decide +kernel) rfl (lv0 := [(0, .ref (am 0)), (1, .int 9)]) (Nat.le_of_ble_eq_true rfl) rfl ?_
  intro p e s m args below meth c E hZ hr hlocks hnm
  refine z_iconst (v := 0) E dX6_sumOf_0 (by decide) ?_
  refine z_istore_n (lv' := [(2, .int 0), (0, .ref (am 0)), (1, .int 9)]) E dX6_sumOf_1 rfl (by decide) rfl ?_
  refine z_iconst (v := 0) E dX6_sumOf_2 (by decide) ?_
  refine z_istore_n (lv' := [(3, .int 0), (2, .int 0), (0, .ref (am 0)), (1, .int 9)]) E dX6_sumOf_3 rfl (by decide) rfl ?_
  refine z_iload_n E dX6_sumOf_4 rfl 0 rfl ?_
  refine z_iconst (v := 4) E dX6_sumOf_5 (by decide) ?_
  refine z_icmp_ge_f (tgt := 24) E dX6_sumOf_6 (by decide) (by decide) ?_
  refine z_iload_n E dX6_sumOf_9 rfl 1 rfl ?_
  refine z_aload_n E dX6_sumOf_10 rfl 2 rfl ?_
  refine z_iload_n E dX6_sumOf_11 rfl 0 rfl ?_
  refine z_iload_n E dX6_sumOf_12 rfl 3 rfl ?_
  obtain ⟨pm1, hpm1, hmm1⟩ := hS.1 0 (by omega)
  refine z_callVi E hZ (k_mof9 l D am cI cR cS cL dg mem (k := 0) (by omega) (by rw [(zScr.refl mem).s]; exact hmm1) hpm1 (hok 0 (by omega)).1) gX6_sumOf_X6_ofLadder (n := 2) rfl rfl rfl (by decide +kernel) rfl ⟨(Nat.le_of_ble_eq_true rfl), (Nat.le_of_ble_eq_true rfl)⟩ (C := RX6) rfl 0 mw_obj (As := [.int (nI 0), .int 9]) (rest := [.int 0]) rfl (Nat.le_of_ble_eq_true rfl) ⟨(Nat.le_of_ble_eq_true rfl), (Nat.le_of_ble_eq_true rfl)⟩ dX6_sumOf_13 (fun r m1 hp => ?_)
  rw [hp.1]
  have sm1 : zScr mem m1 := (zScr.refl mem).trans hp.2
  refine z_iadd E dX6_sumOf_16 ?_
  refine z_istore_n (lv' := [(2, .int (0 + ((rv cm 0) 6))), (3, .int 0), (0, .ref (am 0)), (1, .int 9)]) E dX6_sumOf_17 rfl (by decide) rfl ?_
  refine z_iinc (v := 1) (lv' := [(3, .int 1), (2, .int (0 + ((rv cm 0) 6))), (0, .ref (am 0)), (1, .int 9)]) E dX6_sumOf_18 (q := 1) rfl (by decide) (by decide) rfl ?_
  refine z_goto (tgt := 4) E dX6_sumOf_21 (by decide) ?_
  refine z_iload_n E dX6_sumOf_4 rfl 0 rfl ?_
  refine z_iconst (v := 4) E dX6_sumOf_5 (by decide) ?_
  refine z_icmp_ge_f (tgt := 24) E dX6_sumOf_6 (by decide) (by decide) ?_
  refine z_iload_n E dX6_sumOf_9 rfl 1 rfl ?_
  refine z_aload_n E dX6_sumOf_10 rfl 2 rfl ?_
  refine z_iload_n E dX6_sumOf_11 rfl 0 rfl ?_
  refine z_iload_n E dX6_sumOf_12 rfl 3 rfl ?_
  obtain ⟨pm2, hpm2, hmm2⟩ := hS.1 1 (by omega)
  refine z_callVi E hZ (k_mof9 l D am cI cR cS cL dg m1 (k := 1) (by omega) (by rw [sm1.s]; exact hmm2) hpm2 (hok 1 (by omega)).1) gX6_sumOf_X6_ofLadder (n := 2) rfl rfl rfl (by decide +kernel) rfl ⟨(Nat.le_of_ble_eq_true rfl), (Nat.le_of_ble_eq_true rfl)⟩ (C := RX6) rfl 0 mw_obj (As := [.int (nI 1), .int 9]) (rest := [.int (0 + ((rv cm 0) 6))]) rfl (Nat.le_of_ble_eq_true rfl) ⟨(Nat.le_of_ble_eq_true rfl), (Nat.le_of_ble_eq_true rfl)⟩ dX6_sumOf_13 (fun r m2 hp => ?_)
  rw [hp.1]
  have sm2 : zScr mem m2 := sm1.trans hp.2
  refine z_iadd E dX6_sumOf_16 ?_
  refine z_istore_n (lv' := [(2, .int ((0 + ((rv cm 0) 6)) + ((rv cm 1) 6))), (3, .int 1), (0, .ref (am 0)), (1, .int 9)]) E dX6_sumOf_17 rfl (by decide) rfl ?_
  refine z_iinc (v := 2) (lv' := [(3, .int 2), (2, .int ((0 + ((rv cm 0) 6)) + ((rv cm 1) 6))), (0, .ref (am 0)), (1, .int 9)]) E dX6_sumOf_18 (q := 1) rfl (by decide) (by decide) rfl ?_
  refine z_goto (tgt := 4) E dX6_sumOf_21 (by decide) ?_
  refine z_iload_n E dX6_sumOf_4 rfl 0 rfl ?_
  refine z_iconst (v := 4) E dX6_sumOf_5 (by decide) ?_
  refine z_icmp_ge_f (tgt := 24) E dX6_sumOf_6 (by decide) (by decide) ?_
  refine z_iload_n E dX6_sumOf_9 rfl 1 rfl ?_
  refine z_aload_n E dX6_sumOf_10 rfl 2 rfl ?_
  refine z_iload_n E dX6_sumOf_11 rfl 0 rfl ?_
  refine z_iload_n E dX6_sumOf_12 rfl 3 rfl ?_
  obtain ⟨pm3, hpm3, hmm3⟩ := hS.1 2 (by omega)
  refine z_callVi E hZ (k_mof9 l D am cI cR cS cL dg m2 (k := 2) (by omega) (by rw [sm2.s]; exact hmm3) hpm3 (hok 2 (by omega)).1) gX6_sumOf_X6_ofLadder (n := 2) rfl rfl rfl (by decide +kernel) rfl ⟨(Nat.le_of_ble_eq_true rfl), (Nat.le_of_ble_eq_true rfl)⟩ (C := RX6) rfl 0 mw_obj (As := [.int (nI 2), .int 9]) (rest := [.int ((0 + ((rv cm 0) 6)) + ((rv cm 1) 6))]) rfl (Nat.le_of_ble_eq_true rfl) ⟨(Nat.le_of_ble_eq_true rfl), (Nat.le_of_ble_eq_true rfl)⟩ dX6_sumOf_13 (fun r m3 hp => ?_)
  rw [hp.1]
  have sm3 : zScr mem m3 := sm2.trans hp.2
  refine z_iadd E dX6_sumOf_16 ?_
  refine z_istore_n (lv' := [(2, .int (((0 + ((rv cm 0) 6)) + ((rv cm 1) 6)) + ((rv cm 2) 6))), (3, .int 2), (0, .ref (am 0)), (1, .int 9)]) E dX6_sumOf_17 rfl (by decide) rfl ?_
  refine z_iinc (v := 3) (lv' := [(3, .int 3), (2, .int (((0 + ((rv cm 0) 6)) + ((rv cm 1) 6)) + ((rv cm 2) 6))), (0, .ref (am 0)), (1, .int 9)]) E dX6_sumOf_18 (q := 1) rfl (by decide) (by decide) rfl ?_
  refine z_goto (tgt := 4) E dX6_sumOf_21 (by decide) ?_
  refine z_iload_n E dX6_sumOf_4 rfl 0 rfl ?_
  refine z_iconst (v := 4) E dX6_sumOf_5 (by decide) ?_
  refine z_icmp_ge_f (tgt := 24) E dX6_sumOf_6 (by decide) (by decide) ?_
  refine z_iload_n E dX6_sumOf_9 rfl 1 rfl ?_
  refine z_aload_n E dX6_sumOf_10 rfl 2 rfl ?_
  refine z_iload_n E dX6_sumOf_11 rfl 0 rfl ?_
  refine z_iload_n E dX6_sumOf_12 rfl 3 rfl ?_
  obtain ⟨pm4, hpm4, hmm4⟩ := hS.1 3 (by omega)
  refine z_callVi E hZ (k_mof9 l D am cI cR cS cL dg m3 (k := 3) (by omega) (by rw [sm3.s]; exact hmm4) hpm4 (hok 3 (by omega)).1) gX6_sumOf_X6_ofLadder (n := 2) rfl rfl rfl (by decide +kernel) rfl ⟨(Nat.le_of_ble_eq_true rfl), (Nat.le_of_ble_eq_true rfl)⟩ (C := RX6) rfl 0 mw_obj (As := [.int (nI 3), .int 9]) (rest := [.int (((0 + ((rv cm 0) 6)) + ((rv cm 1) 6)) + ((rv cm 2) 6))]) rfl (Nat.le_of_ble_eq_true rfl) ⟨(Nat.le_of_ble_eq_true rfl), (Nat.le_of_ble_eq_true rfl)⟩ dX6_sumOf_13 (fun r m4 hp => ?_)
  rw [hp.1]
  have sm4 : zScr mem m4 := sm3.trans hp.2
  refine z_iadd E dX6_sumOf_16 ?_
  refine z_istore_n (lv' := [(2, .int ((((0 + ((rv cm 0) 6)) + ((rv cm 1) 6)) + ((rv cm 2) 6)) + ((rv cm 3) 6))), (3, .int 3), (0, .ref (am 0)), (1, .int 9)]) E dX6_sumOf_17 rfl (by decide) rfl ?_
  refine z_iinc (v := 4) (lv' := [(3, .int 4), (2, .int ((((0 + ((rv cm 0) 6)) + ((rv cm 1) 6)) + ((rv cm 2) 6)) + ((rv cm 3) 6))), (0, .ref (am 0)), (1, .int 9)]) E dX6_sumOf_18 (q := 1) rfl (by decide) (by decide) rfl ?_
  refine z_goto (tgt := 4) E dX6_sumOf_21 (by decide) ?_
  refine z_iload_n E dX6_sumOf_4 rfl 0 rfl ?_
  refine z_iconst (v := 4) E dX6_sumOf_5 (by decide) ?_
  refine z_icmp_ge_t (tgt := 24) E dX6_sumOf_6 (by decide) (by decide) ?_
  refine z_iload_n E dX6_sumOf_24 rfl 1 rfl ?_
  exact z_iretM E hr hlocks (m4) rfl ⟨rfl, sm4⟩ (Nat.le_of_ble_eq_true rfl) (Nat.le_of_ble_eq_true rfl) dX6_sumOf_25
set_option maxHeartbeats 1000000 in
set_option maxRecDepth 100000 in
theorem k_mcnt0 (l : Launch) (D : va_G) (am : Nat → Nat) (cI cR cS cL : ClassId) (dg : Int64) (mem : zM) {cm : zM} (hok : zOK cm) (hS : zS cm (mem 1)) {Z : Int32} (hZ5 : mem 0 3 = Z) : zMi l yX6_counted wsX6_counted ({ frames := 6, cells := 0, slots := 0, locals := 142 }) D (cK cI cR cS cL) [.ref (am 0), .int 0] (mw am cI dg mem) (fun r u => r = fStanding cm 0 ∧ zScr mem u) (mw am cI dg) 0 0 := by
  refine zMiM.of (cc := cX6_counted) (maxL := 2) (ret := (some .int)) (by decide +kernel) rfl (lv0 := [(0, .ref (am 0)), (1, .int 0)]) (Nat.le_of_ble_eq_true rfl) rfl ?_
  intro p e s m args below meth c E hZ hr hlocks hnm
  have h56 := hS.2.1
  have h57 := hS.2.2
  refine z_iload_n E dX6_counted_0 rfl 1 rfl ?_
  refine z_tableIn (tgt := 36) (off := 35) E dX6_counted_1 (by decide) (by decide) (by decide) (by decide) ?_
  refine z_aload_n E dX6_counted_36 rfl 0 rfl ?_
  refine z_bipush (v := 10) E dX6_counted_37 (by decide) ?_
  refine z_callVi E hZ (k_msum10 l D am cI cR cS cL dg mem hok hS) gX6_counted_X6_sumOf (n := 1) rfl rfl rfl (by decide +kernel) rfl ⟨(Nat.le_of_ble_eq_true rfl), (Nat.le_of_ble_eq_true rfl)⟩ (C := RX6) rfl 0 mw_obj (As := [.int 10]) (rest := []) rfl (Nat.le_of_ble_eq_true rfl) ⟨(Nat.le_of_ble_eq_true rfl), (Nat.le_of_ble_eq_true rfl)⟩ dX6_counted_39 (fun r m1 hp => ?_)
  rw [hp.1]
  have sm1 : zScr mem m1 := hp.2
  exact z_iretM E hr hlocks (m1) rfl ⟨rfl, sm1⟩ (Nat.le_of_ble_eq_true rfl) (Nat.le_of_ble_eq_true rfl) dX6_counted_42
set_option maxHeartbeats 1000000 in
set_option maxRecDepth 100000 in
theorem k_mcnt1 (l : Launch) (D : va_G) (am : Nat → Nat) (cI cR cS cL : ClassId) (dg : Int64) (mem : zM) {cm : zM} (hok : zOK cm) (hS : zS cm (mem 1)) {Z : Int32} (hZ5 : mem 0 3 = Z) : zMi l yX6_counted wsX6_counted ({ frames := 6, cells := 0, slots := 0, locals := 142 }) D (cK cI cR cS cL) [.ref (am 0), .int 1] (mw am cI dg mem) (fun r u => r = fPeople cm 0 ∧ zScr mem u) (mw am cI dg) 0 0 := by
  refine zMiM.of (cc := cX6_counted) (maxL := 2) (ret := (some .int)) (by decide +kernel) rfl (lv0 := [(0, .ref (am 0)), (1, .int 1)]) (Nat.le_of_ble_eq_true rfl) rfl ?_
  intro p e s m args below meth c E hZ hr hlocks hnm
  have h56 := hS.2.1
  have h57 := hS.2.2
  refine z_iload_n E dX6_counted_0 rfl 1 rfl ?_
  refine z_tableIn (tgt := 43) (off := 42) E dX6_counted_1 (by decide) (by decide) (by decide) (by decide) ?_
  refine z_aload_n E dX6_counted_43 rfl 0 rfl ?_
  refine z_bipush (v := 6) E dX6_counted_44 (by decide) ?_
  refine z_callVi E hZ (k_msum6 l D am cI cR cS cL dg mem hok hS) gX6_counted_X6_sumOf (n := 1) rfl rfl rfl (by decide +kernel) rfl ⟨(Nat.le_of_ble_eq_true rfl), (Nat.le_of_ble_eq_true rfl)⟩ (C := RX6) rfl 0 mw_obj (As := [.int 6]) (rest := []) rfl (Nat.le_of_ble_eq_true rfl) ⟨(Nat.le_of_ble_eq_true rfl), (Nat.le_of_ble_eq_true rfl)⟩ dX6_counted_46 (fun r m1 hp => ?_)
  rw [hp.1]
  have sm1 : zScr mem m1 := hp.2
  exact z_iretM E hr hlocks (m1) rfl ⟨rfl, sm1⟩ (Nat.le_of_ble_eq_true rfl) (Nat.le_of_ble_eq_true rfl) dX6_counted_49
set_option maxHeartbeats 1000000 in
set_option maxRecDepth 100000 in
theorem k_mcnt2 (l : Launch) (D : va_G) (am : Nat → Nat) (cI cR cS cL : ClassId) (dg : Int64) (mem : zM) {cm : zM} (hok : zOK cm) (hS : zS cm (mem 1)) {Z : Int32} (hZ5 : mem 0 3 = Z) : zMi l yX6_counted wsX6_counted ({ frames := 6, cells := 0, slots := 0, locals := 142 }) D (cK cI cR cS cL) [.ref (am 0), .int 2] (mw am cI dg mem) (fun r u => r = fFalls cm 0 ∧ zScr mem u) (mw am cI dg) 0 0 := by
  refine zMiM.of (cc := cX6_counted) (maxL := 2) (ret := (some .int)) (by decide +kernel) rfl (lv0 := [(0, .ref (am 0)), (1, .int 2)]) (Nat.le_of_ble_eq_true rfl) rfl ?_
  intro p e s m args below meth c E hZ hr hlocks hnm
  have h56 := hS.2.1
  have h57 := hS.2.2
  refine z_iload_n E dX6_counted_0 rfl 1 rfl ?_
  refine z_tableIn (tgt := 50) (off := 49) E dX6_counted_1 (by decide) (by decide) (by decide) (by decide) ?_
  refine z_aload_n E dX6_counted_50 rfl 0 rfl ?_
  refine z_bipush (v := 9) E dX6_counted_51 (by decide) ?_
  refine z_callVi E hZ (k_msum9 l D am cI cR cS cL dg mem hok hS) gX6_counted_X6_sumOf (n := 1) rfl rfl rfl (by decide +kernel) rfl ⟨(Nat.le_of_ble_eq_true rfl), (Nat.le_of_ble_eq_true rfl)⟩ (C := RX6) rfl 0 mw_obj (As := [.int 9]) (rest := []) rfl (Nat.le_of_ble_eq_true rfl) ⟨(Nat.le_of_ble_eq_true rfl), (Nat.le_of_ble_eq_true rfl)⟩ dX6_counted_53 (fun r m1 hp => ?_)
  rw [hp.1]
  have sm1 : zScr mem m1 := hp.2
  exact z_iretM E hr hlocks (m1) rfl ⟨rfl, sm1⟩ (Nat.le_of_ble_eq_true rfl) (Nat.le_of_ble_eq_true rfl) dX6_counted_56
set_option maxHeartbeats 1000000 in
set_option maxRecDepth 100000 in
theorem k_mcnt3 (l : Launch) (D : va_G) (am : Nat → Nat) (cI cR cS cL : ClassId) (dg : Int64) (mem : zM) {cm : zM} (hok : zOK cm) (hS : zS cm (mem 1)) {Z : Int32} (hZ5 : mem 0 3 = Z) : zMi l yX6_counted wsX6_counted ({ frames := 6, cells := 0, slots := 0, locals := 142 }) D (cK cI cR cS cL) [.ref (am 0), .int 3] (mw am cI dg mem) (fun r u => r = cm 87 1 ∧ zScr mem u) (mw am cI dg) 0 0 := by
  refine zMiM.of (cc := cX6_counted) (maxL := 2) (ret := (some .int)) (by decide +kernel) rfl (lv0 := [(0, .ref (am 0)), (1, .int 3)]) (Nat.le_of_ble_eq_true rfl) rfl ?_
  intro p e s m args below meth c E hZ hr hlocks hnm
  have h56 := hS.2.1
  have h57 := hS.2.2
  refine z_iload_n E dX6_counted_0 rfl 1 rfl ?_
  refine z_tableIn (tgt := 57) (off := 56) E dX6_counted_1 (by decide) (by decide) (by decide) (by decide) ?_
  refine z_aload_n E dX6_counted_57 rfl 0 rfl ?_
  refine z_get E 0 mw_obj (C := RX6) (T := TX6) (N := 16) rfl (fun _ h => List.mem_cons_of_mem _ (List.mem_append_right _ h)) 1 (by decide) (List.mem_of_getElem? (i := 1) (by decide +kernel)) rfl (v := .ref (am 1)) rfl dX6_counted_58 ?_
  refine z_bipush (v := 56) E dX6_counted_61 (by decide) ?_
  refine z_iald E 1 0 mw_s rfl (zvin rfl) (v := cm 87 1) h56 dX6_counted_63 ?_
  exact z_iretM E hr hlocks (mem) rfl ⟨rfl, zScr.refl mem⟩ (Nat.le_of_ble_eq_true rfl) (Nat.le_of_ble_eq_true rfl) dX6_counted_64
set_option maxHeartbeats 1000000 in
set_option maxRecDepth 100000 in
theorem k_mcnt4 (l : Launch) (D : va_G) (am : Nat → Nat) (cI cR cS cL : ClassId) (dg : Int64) (mem : zM) {cm : zM} (hok : zOK cm) (hS : zS cm (mem 1)) {Z : Int32} (hZ5 : mem 0 3 = Z) : zMi l yX6_counted wsX6_counted ({ frames := 6, cells := 0, slots := 0, locals := 142 }) D (cK cI cR cS cL) [.ref (am 0), .int 4] (mw am cI dg mem) (fun r u => r = cm 87 2 ∧ zScr mem u) (mw am cI dg) 0 0 := by
  refine zMiM.of (cc := cX6_counted) (maxL := 2) (ret := (some .int)) (by decide +kernel) rfl (lv0 := [(0, .ref (am 0)), (1, .int 4)]) (Nat.le_of_ble_eq_true rfl) rfl ?_
  intro p e s m args below meth c E hZ hr hlocks hnm
  have h56 := hS.2.1
  have h57 := hS.2.2
  refine z_iload_n E dX6_counted_0 rfl 1 rfl ?_
  refine z_tableIn (tgt := 65) (off := 64) E dX6_counted_1 (by decide) (by decide) (by decide) (by decide) ?_
  refine z_aload_n E dX6_counted_65 rfl 0 rfl ?_
  refine z_get E 0 mw_obj (C := RX6) (T := TX6) (N := 16) rfl (fun _ h => List.mem_cons_of_mem _ (List.mem_append_right _ h)) 1 (by decide) (List.mem_of_getElem? (i := 1) (by decide +kernel)) rfl (v := .ref (am 1)) rfl dX6_counted_66 ?_
  refine z_bipush (v := 57) E dX6_counted_69 (by decide) ?_
  refine z_iald E 1 0 mw_s rfl (zvin rfl) (v := cm 87 2) h57 dX6_counted_71 ?_
  exact z_iretM E hr hlocks (mem) rfl ⟨rfl, zScr.refl mem⟩ (Nat.le_of_ble_eq_true rfl) (Nat.le_of_ble_eq_true rfl) dX6_counted_72
set_option maxHeartbeats 1000000 in
set_option maxRecDepth 100000 in
theorem k_mcnt5 (l : Launch) (D : va_G) (am : Nat → Nat) (cI cR cS cL : ClassId) (dg : Int64) (mem : zM) {cm : zM} (hok : zOK cm) (hS : zS cm (mem 1)) {Z : Int32} (hZ5 : mem 0 3 = Z) : zMi l yX6_counted wsX6_counted ({ frames := 6, cells := 0, slots := 0, locals := 142 }) D (cK cI cR cS cL) [.ref (am 0), .int 5] (mw am cI dg mem) (fun r u => r = Z ∧ zScr mem u) (mw am cI dg) 0 0 := by
  refine zMiM.of (cc := cX6_counted) (maxL := 2) (ret := (some .int)) (by decide +kernel) rfl (lv0 := [(0, .ref (am 0)), (1, .int 5)]) (Nat.le_of_ble_eq_true rfl) rfl ?_
  intro p e s m args below meth c E hZ hr hlocks hnm
  have h56 := hS.2.1
  have h57 := hS.2.2
  refine z_iload_n E dX6_counted_0 rfl 1 rfl ?_
  refine z_tableOut (tgt := 73) E dX6_counted_1 (by decide) (by decide) ?_
  refine z_aload_n E dX6_counted_73 rfl 0 rfl ?_
  refine z_get E 0 mw_obj (C := RX6) (T := TX6) (N := 16) rfl (fun _ h => List.mem_cons_of_mem _ (List.mem_append_right _ h)) 3 (by decide) (List.mem_of_getElem? (i := 2) (by decide +kernel)) rfl (v := .int Z) (congrArg (fun z : Int32 => some (Value.int z)) hZ5) dX6_counted_74 ?_
  exact z_iretM E hr hlocks (mem) rfl ⟨rfl, zScr.refl mem⟩ (Nat.le_of_ble_eq_true rfl) (Nat.le_of_ble_eq_true rfl) dX6_counted_77
