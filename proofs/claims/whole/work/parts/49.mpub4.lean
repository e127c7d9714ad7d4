/-! the reference: what would be, as it is called -/
set_option maxHeartbeats 1000000 in
set_option maxRecDepth 100000 in
theorem k_mneededRope (l : Launch) (D : va_G) (am : Nat → Nat) (cI cR cS cL : ClassId) (dg : Int64) (mem : zM) {B : Nat} {cm : zM} {q z L : Nat} (hR : zR B cm mem q z L) (x : Int32) : zMi l yX6_neededRope wsX6_neededRope ({ frames := 5, cells := 0, slots := 0, locals := 120 }) D (cK cI cR cS cL) [.ref (am 0), .int x] (mw am cI dg mem) (fun r u => mAnsL cdL (sNeeded cm x) r (u 0 0) ∧ zR (B + 180) cm u q z L) (mw am cI dg) 0 0 := by
  refine zMiM.of (cc := cX6_neededRope) (maxL := 2) (ret := (some .int)) (by decide +kernel) rfl (lv0 := [(0, .ref (am 0)), (1, .int x)]) (Nat.le_of_ble_eq_true rfl) rfl ?_
  intro p e s m args below meth c E hZ hr hlocks hnm
  refine z_aload_n E dX6_neededRope_0 rfl 0 rfl ?_
  refine z_iload_n E dX6_neededRope_1 rfl 1 rfl ?_
  refine z_callSi E hZ (k_isLadder l D am cI cR cS cL dg mem x) gX6_neededRope_X6_isLadder (n := 1) rfl rfl rfl (by decide +kernel) rfl ⟨Nat.le_of_ble_eq_true rfl, Nat.le_of_ble_eq_true rfl⟩ (As := [.int x]) (rest := [.ref (am 0)]) rfl (Nat.le_of_ble_eq_true rfl) ⟨Nat.le_of_ble_eq_true rfl, Nat.le_of_ble_eq_true rfl⟩ dX6_neededRope_2 (fun r u hp => ?_)
  rw [hp.1, hp.2]
  by_cases hL : x < 0 ∨ 4 ≤ x
  · skip
    rw [fIn_L0 hL]
    refine z_if_eq_t (tgt := 12) E dX6_neededRope_5 (by decide) (by decide) ?_
    refine z_iconst (v := 1) E dX6_neededRope_12 (by decide) ?_
    refine z_callVi E hZ (k_holds l D am cI cR cS cL dg mem 1) gX6_neededRope_X6_holds (n := 1) rfl rfl rfl (by decide +kernel) rfl ⟨(Nat.le_of_ble_eq_true rfl), (Nat.le_of_ble_eq_true rfl)⟩ (C := RX6) rfl 0 mw_obj (As := [.int 1]) (rest := []) rfl (Nat.le_of_ble_eq_true rfl) ⟨(Nat.le_of_ble_eq_true rfl), (Nat.le_of_ble_eq_true rfl)⟩ dX6_neededRope_13 (fun r m1 hp => ?_)
    have hm1 := hp.2
    rw [hp.1, show (if (1 : Int32) = 0 then (1 : Int32) else 0) = 0 by decide]
    have hR0 : zR B cm m1 q z L := zR_fld hR (by rw [hm1, mset_ne _ _ _ (by decide)]) (by rw [hm1, mset_ne _ _ _ (by decide)]) (by rw [hm1, mset_ne _ _ _ (by decide)]) (by rw [hm1, mset_ne2 _ _ (by decide)]) (by rw [hm1, mset_ne2 _ _ (by decide)])
    have hth : m1 0 0 = 1 := by rw [hm1, mset_at]
    refine z_if_eq_t (tgt := 27) E dX6_neededRope_16 (by decide) (by decide) ?_
    refine z_iconst (v := 0) E dX6_neededRope_27 (by decide) ?_
    exact z_iretM E hr hlocks (m1) rfl ⟨(Or.inl ⟨"java/lang/IndexOutOfBoundsException", if_pos hL, hth⟩), zR_mono (by omega) hR0⟩ (Nat.le_of_ble_eq_true rfl) (Nat.le_of_ble_eq_true rfl) dX6_neededRope_28
  · skip
    rw [fIn_L1 hL]
    obtain ⟨k, hk, rfl⟩ := zx4 hL
    have ek : (nI k).toNatClampNeg = k := nI_clamp (by omega)
    refine z_if_eq_f (tgt := 12) E dX6_neededRope_5 (by decide) (by decide) ?_
    refine z_iconst (v := 0) E dX6_neededRope_8 (by decide) ?_
    refine z_goto (tgt := 13) E dX6_neededRope_9 (by decide) ?_
    refine z_callVi E hZ (k_holds l D am cI cR cS cL dg mem 0) gX6_neededRope_X6_holds (n := 1) rfl rfl rfl (by decide +kernel) rfl ⟨(Nat.le_of_ble_eq_true rfl), (Nat.le_of_ble_eq_true rfl)⟩ (C := RX6) rfl 0 mw_obj (As := [.int 0]) (rest := []) rfl (Nat.le_of_ble_eq_true rfl) ⟨(Nat.le_of_ble_eq_true rfl), (Nat.le_of_ble_eq_true rfl)⟩ dX6_neededRope_13 (fun r m2 hp => ?_)
    have hm2 := hp.2
    rw [hp.1, show (if (0 : Int32) = 0 then (1 : Int32) else 0) = 1 by decide]
    have hR0 : zR B cm m2 q z L := zR_fld hR (by rw [hm2, mset_ne _ _ _ (by decide)]) (by rw [hm2, mset_ne _ _ _ (by decide)]) (by rw [hm2, mset_ne _ _ _ (by decide)]) (by rw [hm2, mset_ne2 _ _ (by decide)]) (by rw [hm2, mset_ne2 _ _ (by decide)])
    have hth : m2 0 0 = 0 := by rw [hm2, mset_at]
    refine z_if_eq_f (tgt := 27) E dX6_neededRope_16 (by decide) (by decide) ?_
    refine z_aload_n E dX6_neededRope_19 rfl 0 rfl ?_
    refine z_iload_n E dX6_neededRope_20 rfl 1 rfl ?_
    obtain ⟨hokX, hSX⟩ := zSite_0 hR0.1
    obtain ⟨p1, hpp1, hmX⟩ := hSX.1 k hk
    refine z_callVi E hZ (k_mropeFor l D am cI cR cS cL dg m2 hk hmX hpp1 (hokX k hk).1 ) gX6_neededRope_X6_ropeFor (n := 1) rfl rfl rfl (by decide +kernel) rfl ⟨(Nat.le_of_ble_eq_true rfl), (Nat.le_of_ble_eq_true rfl)⟩ (C := RX6) rfl 0 mw_obj (As := [.int (nI k)]) (rest := []) rfl (Nat.le_of_ble_eq_true rfl) ⟨(Nat.le_of_ble_eq_true rfl), (Nat.le_of_ble_eq_true rfl)⟩ dX6_neededRope_21 (fun r m3 hp => ?_)
    rw [hp.1]
    have hR2 := zR_scr hR0 hp.2
    have hth2 : m3 0 0 = 0 := by rw [hp.2.2 0 (by omega)]; exact hth
    refine z_goto (tgt := 28) E dX6_neededRope_24 (by decide) ?_
    exact z_iretM E hr hlocks (m3) rfl ⟨(Or.inr ⟨_, (dNeeded zTr.rfl' hk), hth2, rfl⟩), zR_mono (by omega) hR2⟩ (Nat.le_of_ble_eq_true rfl) (Nat.le_of_ble_eq_true rfl) dX6_neededRope_28
set_option maxHeartbeats 1000000 in
set_option maxRecDepth 100000 in
theorem k_mbestBase (l : Launch) (D : va_G) (am : Nat → Nat) (cI cR cS cL : ClassId) (dg : Int64) (mem : zM) {B : Nat} {cm : zM} {q z L : Nat} (hR : zR B cm mem q z L) (x : Int32) : zMi l yX6_bestBase wsX6_bestBase ({ frames := 4, cells := 0, slots := 0, locals := 102 }) D (cK cI cR cS cL) [.ref (am 0), .int x] (mw am cI dg mem) (fun r u => mAnsL cdL (sBest cm x) r (u 0 0) ∧ zR (B + 180) cm u q z L) (mw am cI dg) 0 0 := by
  refine zMiM.of (cc := cX6_bestBase) (maxL := 2) (ret := (some .int)) (by decide +kernel) rfl (lv0 := [(0, .ref (am 0)), (1, .int x)]) (Nat.le_of_ble_eq_true rfl) rfl ?_
  intro p e s m args below meth c E hZ hr hlocks hnm
  refine z_aload_n E dX6_bestBase_0 rfl 0 rfl ?_
  refine z_iload_n E dX6_bestBase_1 rfl 1 rfl ?_
  refine z_callSi E hZ (k_isLadder l D am cI cR cS cL dg mem x) gX6_bestBase_X6_isLadder (n := 1) rfl rfl rfl (by decide +kernel) rfl ⟨Nat.le_of_ble_eq_true rfl, Nat.le_of_ble_eq_true rfl⟩ (As := [.int x]) (rest := [.ref (am 0)]) rfl (Nat.le_of_ble_eq_true rfl) ⟨Nat.le_of_ble_eq_true rfl, Nat.le_of_ble_eq_true rfl⟩ dX6_bestBase_2 (fun r u hp => ?_)
  rw [hp.1, hp.2]
  by_cases hL : x < 0 ∨ 4 ≤ x
  · skip
    rw [fIn_L0 hL]
    refine z_if_eq_t (tgt := 12) E dX6_bestBase_5 (by decide) (by decide) ?_
    refine z_iconst (v := 1) E dX6_bestBase_12 (by decide) ?_
    refine z_callVi E hZ (k_holds l D am cI cR cS cL dg mem 1) gX6_bestBase_X6_holds (n := 1) rfl rfl rfl (by decide +kernel) rfl ⟨(Nat.le_of_ble_eq_true rfl), (Nat.le_of_ble_eq_true rfl)⟩ (C := RX6) rfl 0 mw_obj (As := [.int 1]) (rest := []) rfl (Nat.le_of_ble_eq_true rfl) ⟨(Nat.le_of_ble_eq_true rfl), (Nat.le_of_ble_eq_true rfl)⟩ dX6_bestBase_13 (fun r m1 hp => ?_)
    have hm1 := hp.2
    rw [hp.1, show (if (1 : Int32) = 0 then (1 : Int32) else 0) = 0 by decide]
    have hR0 : zR B cm m1 q z L := zR_fld hR (by rw [hm1, mset_ne _ _ _ (by decide)]) (by rw [hm1, mset_ne _ _ _ (by decide)]) (by rw [hm1, mset_ne _ _ _ (by decide)]) (by rw [hm1, mset_ne2 _ _ (by decide)]) (by rw [hm1, mset_ne2 _ _ (by decide)])
    have hth : m1 0 0 = 1 := by rw [hm1, mset_at]
    refine z_if_eq_t (tgt := 27) E dX6_bestBase_16 (by decide) (by decide) ?_
    refine z_iconst (v := 0) E dX6_bestBase_27 (by decide) ?_
    exact z_iretM E hr hlocks (m1) rfl ⟨(Or.inl ⟨"java/lang/IndexOutOfBoundsException", if_pos hL, hth⟩), zR_mono (by omega) hR0⟩ (Nat.le_of_ble_eq_true rfl) (Nat.le_of_ble_eq_true rfl) dX6_bestBase_28
  · skip
    rw [fIn_L1 hL]
    obtain ⟨k, hk, rfl⟩ := zx4 hL
    have ek : (nI k).toNatClampNeg = k := nI_clamp (by omega)
    refine z_if_eq_f (tgt := 12) E dX6_bestBase_5 (by decide) (by decide) ?_
    refine z_iconst (v := 0) E dX6_bestBase_8 (by decide) ?_
    refine z_goto (tgt := 13) E dX6_bestBase_9 (by decide) ?_
    refine z_callVi E hZ (k_holds l D am cI cR cS cL dg mem 0) gX6_bestBase_X6_holds (n := 1) rfl rfl rfl (by decide +kernel) rfl ⟨(Nat.le_of_ble_eq_true rfl), (Nat.le_of_ble_eq_true rfl)⟩ (C := RX6) rfl 0 mw_obj (As := [.int 0]) (rest := []) rfl (Nat.le_of_ble_eq_true rfl) ⟨(Nat.le_of_ble_eq_true rfl), (Nat.le_of_ble_eq_true rfl)⟩ dX6_bestBase_13 (fun r m2 hp => ?_)
    have hm2 := hp.2
    rw [hp.1, show (if (0 : Int32) = 0 then (1 : Int32) else 0) = 1 by decide]
    have hR0 : zR B cm m2 q z L := zR_fld hR (by rw [hm2, mset_ne _ _ _ (by decide)]) (by rw [hm2, mset_ne _ _ _ (by decide)]) (by rw [hm2, mset_ne _ _ _ (by decide)]) (by rw [hm2, mset_ne2 _ _ (by decide)]) (by rw [hm2, mset_ne2 _ _ (by decide)])
    have hth : m2 0 0 = 0 := by rw [hm2, mset_at]
    refine z_if_eq_f (tgt := 27) E dX6_bestBase_16 (by decide) (by decide) ?_
    refine z_aload_n E dX6_bestBase_19 rfl 0 rfl ?_
    refine z_iload_n E dX6_bestBase_20 rfl 1 rfl ?_
    obtain ⟨hokX, hSX⟩ := zSite_0 hR0.1
    obtain ⟨p1, hpp1, hmX⟩ := hSX.1 k hk
    refine z_callVi E hZ (k_mbaseFor l D am cI cR cS cL dg m2 hk hmX hpp1 (hokX k hk).1 ) gX6_bestBase_X6_baseFor (n := 1) rfl rfl rfl (by decide +kernel) rfl ⟨(Nat.le_of_ble_eq_true rfl), (Nat.le_of_ble_eq_true rfl)⟩ (C := RX6) rfl 0 mw_obj (As := [.int (nI k)]) (rest := []) rfl (Nat.le_of_ble_eq_true rfl) ⟨(Nat.le_of_ble_eq_true rfl), (Nat.le_of_ble_eq_true rfl)⟩ dX6_bestBase_21 (fun r m3 hp => ?_)
    rw [hp.1]
    have hR2 := zR_scr hR0 hp.2
    have hth2 : m3 0 0 = 0 := by rw [hp.2.2 0 (by omega)]; exact hth
    refine z_goto (tgt := 28) E dX6_bestBase_24 (by decide) ?_
    exact z_iretM E hr hlocks (m3) rfl ⟨(Or.inr ⟨_, (dBest zTr.rfl' hk), hth2, rfl⟩), zR_mono (by omega) hR2⟩ (Nat.le_of_ble_eq_true rfl) (Nat.le_of_ble_eq_true rfl) dX6_bestBase_28
set_option maxHeartbeats 1000000 in
set_option maxRecDepth 100000 in
theorem k_mriskiest (l : Launch) (D : va_G) (am : Nat → Nat) (cI cR cS cL : ClassId) (dg : Int64) (mem : zM) {B : Nat} {cm : zM} {q z L : Nat} (hR : zR B cm mem q z L) (x : Int32) : zMi l yX6_riskiest wsX6_riskiest ({ frames := 4, cells := 0, slots := 0, locals := 102 }) D (cK cI cR cS cL) [.ref (am 0), .int x] (mw am cI dg mem) (fun r u => mAnsL cdL (sRisk cm x) r (u 0 0) ∧ zR (B + 180) cm u q z L) (mw am cI dg) 0 0 := by
  refine zMiM.of (cc := cX6_riskiest) (maxL := 2) (ret := (some .int)) (by decide +kernel) rfl (lv0 := [(0, .ref (am 0)), (1, .int x)]) (Nat.le_of_ble_eq_true rfl) rfl ?_
  intro p e s m args below meth c E hZ hr hlocks hnm
  refine z_aload_n E dX6_riskiest_0 rfl 0 rfl ?_
  refine z_iload_n E dX6_riskiest_1 rfl 1 rfl ?_
  refine z_callSi E hZ (k_isLadder l D am cI cR cS cL dg mem x) gX6_riskiest_X6_isLadder (n := 1) rfl rfl rfl (by decide +kernel) rfl ⟨Nat.le_of_ble_eq_true rfl, Nat.le_of_ble_eq_true rfl⟩ (As := [.int x]) (rest := [.ref (am 0)]) rfl (Nat.le_of_ble_eq_true rfl) ⟨Nat.le_of_ble_eq_true rfl, Nat.le_of_ble_eq_true rfl⟩ dX6_riskiest_2 (fun r u hp => ?_)
  rw [hp.1, hp.2]
  by_cases hL : x < 0 ∨ 4 ≤ x
  · skip
    rw [fIn_L0 hL]
    refine z_if_eq_t (tgt := 12) E dX6_riskiest_5 (by decide) (by decide) ?_
    refine z_iconst (v := 1) E dX6_riskiest_12 (by decide) ?_
    refine z_callVi E hZ (k_holds l D am cI cR cS cL dg mem 1) gX6_riskiest_X6_holds (n := 1) rfl rfl rfl (by decide +kernel) rfl ⟨(Nat.le_of_ble_eq_true rfl), (Nat.le_of_ble_eq_true rfl)⟩ (C := RX6) rfl 0 mw_obj (As := [.int 1]) (rest := []) rfl (Nat.le_of_ble_eq_true rfl) ⟨(Nat.le_of_ble_eq_true rfl), (Nat.le_of_ble_eq_true rfl)⟩ dX6_riskiest_13 (fun r m1 hp => ?_)
    have hm1 := hp.2
    rw [hp.1, show (if (1 : Int32) = 0 then (1 : Int32) else 0) = 0 by decide]
    have hR0 : zR B cm m1 q z L := zR_fld hR (by rw [hm1, mset_ne _ _ _ (by decide)]) (by rw [hm1, mset_ne _ _ _ (by decide)]) (by rw [hm1, mset_ne _ _ _ (by decide)]) (by rw [hm1, mset_ne2 _ _ (by decide)]) (by rw [hm1, mset_ne2 _ _ (by decide)])
    have hth : m1 0 0 = 1 := by rw [hm1, mset_at]
    refine z_if_eq_t (tgt := 27) E dX6_riskiest_16 (by decide) (by decide) ?_
    refine z_iconst (v := 0) E dX6_riskiest_27 (by decide) ?_
    exact z_iretM E hr hlocks (m1) rfl ⟨(Or.inl ⟨"java/lang/IndexOutOfBoundsException", if_pos hL, hth⟩), zR_mono (by omega) hR0⟩ (Nat.le_of_ble_eq_true rfl) (Nat.le_of_ble_eq_true rfl) dX6_riskiest_28
  · skip
    rw [fIn_L1 hL]
    obtain ⟨k, hk, rfl⟩ := zx4 hL
    have ek : (nI k).toNatClampNeg = k := nI_clamp (by omega)
    refine z_if_eq_f (tgt := 12) E dX6_riskiest_5 (by decide) (by decide) ?_
    refine z_iconst (v := 0) E dX6_riskiest_8 (by decide) ?_
    refine z_goto (tgt := 13) E dX6_riskiest_9 (by decide) ?_
    refine z_callVi E hZ (k_holds l D am cI cR cS cL dg mem 0) gX6_riskiest_X6_holds (n := 1) rfl rfl rfl (by decide +kernel) rfl ⟨(Nat.le_of_ble_eq_true rfl), (Nat.le_of_ble_eq_true rfl)⟩ (C := RX6) rfl 0 mw_obj (As := [.int 0]) (rest := []) rfl (Nat.le_of_ble_eq_true rfl) ⟨(Nat.le_of_ble_eq_true rfl), (Nat.le_of_ble_eq_true rfl)⟩ dX6_riskiest_13 (fun r m2 hp => ?_)
    have hm2 := hp.2
    rw [hp.1, show (if (0 : Int32) = 0 then (1 : Int32) else 0) = 1 by decide]
    have hR0 : zR B cm m2 q z L := zR_fld hR (by rw [hm2, mset_ne _ _ _ (by decide)]) (by rw [hm2, mset_ne _ _ _ (by decide)]) (by rw [hm2, mset_ne _ _ _ (by decide)]) (by rw [hm2, mset_ne2 _ _ (by decide)]) (by rw [hm2, mset_ne2 _ _ (by decide)])
    have hth : m2 0 0 = 0 := by rw [hm2, mset_at]
    refine z_if_eq_f (tgt := 27) E dX6_riskiest_16 (by decide) (by decide) ?_
    refine z_aload_n E dX6_riskiest_19 rfl 0 rfl ?_
    refine z_iload_n E dX6_riskiest_20 rfl 1 rfl ?_
    obtain ⟨hokX, hSX⟩ := zSite_0 hR0.1
    obtain ⟨p1, hpp1, hmX⟩ := hSX.1 k hk
    refine z_callVi E hZ (k_mriskiestOf l D am cI cR cS cL dg m2 hk hmX hpp1 (hokX k hk).1 ) gX6_riskiest_X6_riskiestOf (n := 1) rfl rfl rfl (by decide +kernel) rfl ⟨(Nat.le_of_ble_eq_true rfl), (Nat.le_of_ble_eq_true rfl)⟩ (C := RX6) rfl 0 mw_obj (As := [.int (nI k)]) (rest := []) rfl (Nat.le_of_ble_eq_true rfl) ⟨(Nat.le_of_ble_eq_true rfl), (Nat.le_of_ble_eq_true rfl)⟩ dX6_riskiest_21 (fun r m3 hp => ?_)
    rw [hp.1]
    have hR2 := zR_scr hR0 hp.2
    have hth2 : m3 0 0 = 0 := by rw [hp.2.2 0 (by omega)]; exact hth
    refine z_goto (tgt := 28) E dX6_riskiest_24 (by decide) ?_
    exact z_iretM E hr hlocks (m3) rfl ⟨(Or.inr ⟨_, (dRisk zTr.rfl' hk), hth2, rfl⟩), zR_mono (by omega) hR2⟩ (Nat.le_of_ble_eq_true rfl) (Nat.le_of_ble_eq_true rfl) dX6_riskiest_28
set_option maxHeartbeats 1000000 in
set_option maxRecDepth 100000 in
theorem k_mwalls (l : Launch) (D : va_G) (am : Nat → Nat) (cI cR cS cL : ClassId) (dg : Int64) (mem : zM) {B : Nat} {cm : zM} {q z L : Nat} (hR : zR B cm mem q z L) (x : Int32) : zMi l yX6_walls wsX6_walls ({ frames := 5, cells := 0, slots := 0, locals := 121 }) D (cK cI cR cS cL) [.ref (am 0), .int x] (mw am cI dg mem) (fun r u => mAnsL cdL (sWalls cm x) r (u 0 0) ∧ zR (B + 180) cm u q z L) (mw am cI dg) 0 0 := by
  refine zMiM.of (cc := cX6_walls) (maxL := 2) (ret := (some .int)) (by decide +kernel) rfl (lv0 := [(0, .ref (am 0)), (1, .int x)]) (Nat.le_of_ble_eq_true rfl) rfl ?_
  intro p e s m args below meth c E hZ hr hlocks hnm
  refine z_aload_n E dX6_walls_0 rfl 0 rfl ?_
  refine z_iload_n E dX6_walls_1 rfl 1 rfl ?_
  refine z_callSi E hZ (k_isLadder l D am cI cR cS cL dg mem x) gX6_walls_X6_isLadder (n := 1) rfl rfl rfl (by decide +kernel) rfl ⟨Nat.le_of_ble_eq_true rfl, Nat.le_of_ble_eq_true rfl⟩ (As := [.int x]) (rest := [.ref (am 0)]) rfl (Nat.le_of_ble_eq_true rfl) ⟨Nat.le_of_ble_eq_true rfl, Nat.le_of_ble_eq_true rfl⟩ dX6_walls_2 (fun r u hp => ?_)
  rw [hp.1, hp.2]
  by_cases hL : x < 0 ∨ 4 ≤ x
  · skip
    rw [fIn_L0 hL]
    refine z_if_eq_t (tgt := 12) E dX6_walls_5 (by decide) (by decide) ?_
    refine z_iconst (v := 1) E dX6_walls_12 (by decide) ?_
    refine z_callVi E hZ (k_holds l D am cI cR cS cL dg mem 1) gX6_walls_X6_holds (n := 1) rfl rfl rfl (by decide +kernel) rfl ⟨(Nat.le_of_ble_eq_true rfl), (Nat.le_of_ble_eq_true rfl)⟩ (C := RX6) rfl 0 mw_obj (As := [.int 1]) (rest := []) rfl (Nat.le_of_ble_eq_true rfl) ⟨(Nat.le_of_ble_eq_true rfl), (Nat.le_of_ble_eq_true rfl)⟩ dX6_walls_13 (fun r m1 hp => ?_)
    have hm1 := hp.2
    rw [hp.1, show (if (1 : Int32) = 0 then (1 : Int32) else 0) = 0 by decide]
    have hR0 : zR B cm m1 q z L := zR_fld hR (by rw [hm1, mset_ne _ _ _ (by decide)]) (by rw [hm1, mset_ne _ _ _ (by decide)]) (by rw [hm1, mset_ne _ _ _ (by decide)]) (by rw [hm1, mset_ne2 _ _ (by decide)]) (by rw [hm1, mset_ne2 _ _ (by decide)])
    have hth : m1 0 0 = 1 := by rw [hm1, mset_at]
    refine z_if_eq_t (tgt := 27) E dX6_walls_16 (by decide) (by decide) ?_
    refine z_iconst (v := 0) E dX6_walls_27 (by decide) ?_
    exact z_iretM E hr hlocks (m1) rfl ⟨(Or.inl ⟨"java/lang/IndexOutOfBoundsException", if_pos hL, hth⟩), zR_mono (by omega) hR0⟩ (Nat.le_of_ble_eq_true rfl) (Nat.le_of_ble_eq_true rfl) dX6_walls_28
  · skip
    rw [fIn_L1 hL]
    obtain ⟨k, hk, rfl⟩ := zx4 hL
    have ek : (nI k).toNatClampNeg = k := nI_clamp (by omega)
    refine z_if_eq_f (tgt := 12) E dX6_walls_5 (by decide) (by decide) ?_
    refine z_iconst (v := 0) E dX6_walls_8 (by decide) ?_
    refine z_goto (tgt := 13) E dX6_walls_9 (by decide) ?_
    refine z_callVi E hZ (k_holds l D am cI cR cS cL dg mem 0) gX6_walls_X6_holds (n := 1) rfl rfl rfl (by decide +kernel) rfl ⟨(Nat.le_of_ble_eq_true rfl), (Nat.le_of_ble_eq_true rfl)⟩ (C := RX6) rfl 0 mw_obj (As := [.int 0]) (rest := []) rfl (Nat.le_of_ble_eq_true rfl) ⟨(Nat.le_of_ble_eq_true rfl), (Nat.le_of_ble_eq_true rfl)⟩ dX6_walls_13 (fun r m2 hp => ?_)
    have hm2 := hp.2
    rw [hp.1, show (if (0 : Int32) = 0 then (1 : Int32) else 0) = 1 by decide]
    have hR0 : zR B cm m2 q z L := zR_fld hR (by rw [hm2, mset_ne _ _ _ (by decide)]) (by rw [hm2, mset_ne _ _ _ (by decide)]) (by rw [hm2, mset_ne _ _ _ (by decide)]) (by rw [hm2, mset_ne2 _ _ (by decide)]) (by rw [hm2, mset_ne2 _ _ (by decide)])
    have hth : m2 0 0 = 0 := by rw [hm2, mset_at]
    refine z_if_eq_f (tgt := 27) E dX6_walls_16 (by decide) (by decide) ?_
    refine z_aload_n E dX6_walls_19 rfl 0 rfl ?_
    refine z_iload_n E dX6_walls_20 rfl 1 rfl ?_
    obtain ⟨hokX, hSX⟩ := zSite_0 hR0.1
    obtain ⟨p1, hpp1, hmX⟩ := hSX.1 k hk
    refine z_callVi E hZ (k_mwallsFor l D am cI cR cS cL dg m2 hk hmX hpp1 (hokX k hk).1 ) gX6_walls_X6_wallsFor (n := 1) rfl rfl rfl (by decide +kernel) rfl ⟨(Nat.le_of_ble_eq_true rfl), (Nat.le_of_ble_eq_true rfl)⟩ (C := RX6) rfl 0 mw_obj (As := [.int (nI k)]) (rest := []) rfl (Nat.le_of_ble_eq_true rfl) ⟨(Nat.le_of_ble_eq_true rfl), (Nat.le_of_ble_eq_true rfl)⟩ dX6_walls_21 (fun r m3 hp => ?_)
    rw [hp.1]
    have hR2 := zR_scr hR0 hp.2
    have hth2 : m3 0 0 = 0 := by rw [hp.2.2 0 (by omega)]; exact hth
    refine z_goto (tgt := 28) E dX6_walls_24 (by decide) ?_
    exact z_iretM E hr hlocks (m3) rfl ⟨(Or.inr ⟨_, (dWalls zTr.rfl' hk), hth2, rfl⟩), zR_mono (by omega) hR2⟩ (Nat.le_of_ble_eq_true rfl) (Nat.le_of_ble_eq_true rfl) dX6_walls_28
set_option maxHeartbeats 1000000 in
set_option maxRecDepth 100000 in
theorem k_mhighest (l : Launch) (D : va_G) (am : Nat → Nat) (cI cR cS cL : ClassId) (dg : Int64) (mem : zM) {B : Nat} {cm : zM} {q z L : Nat} (hR : zR B cm mem q z L) (x b : Int32) : zMi l yX6_highest wsX6_highest ({ frames := 5, cells := 0, slots := 0, locals := 123 }) D (cK cI cR cS cL) [.ref (am 0), .int x, .int b] (mw am cI dg mem) (fun r u => mAnsL cdL (sHigh cm x b) r (u 0 0) ∧ zR (B + 180) cm u q z L) (mw am cI dg) 0 0 := by
  refine zMiM.of (cc := cX6_highest) (maxL := 3) (ret := (some .int)) (by decide +kernel) rfl (lv0 := [(0, .ref (am 0)), (1, .int x), (2, .int b)]) (Nat.le_of_ble_eq_true rfl) rfl ?_
  intro p e s m args below meth c E hZ hr hlocks hnm
  refine z_aload_n E dX6_highest_0 rfl 0 rfl ?_
  refine z_aload_n E dX6_highest_1 rfl 0 rfl ?_
  refine z_iload_n E dX6_highest_2 rfl 1 rfl ?_
  refine z_iload_n E dX6_highest_3 rfl 2 rfl ?_
  refine z_callVi E hZ (k_isPerson l D am cI cR cS cL dg mem hR x b) gX6_highest_X6_isPerson (n := 2) rfl rfl rfl (by decide +kernel) rfl ⟨(Nat.le_of_ble_eq_true rfl), (Nat.le_of_ble_eq_true rfl)⟩ (C := RX6) rfl 0 mw_obj (As := [.int x, .int b]) (rest := [.ref (am 0)]) rfl (Nat.le_of_ble_eq_true rfl) ⟨(Nat.le_of_ble_eq_true rfl), (Nat.le_of_ble_eq_true rfl)⟩ dX6_highest_4 (fun r u hp => ?_)
  rw [hp.1, hp.2]
  by_cases hL : x < 0 ∨ 4 ≤ x
  · skip
    rw [show fIsP cm x b = 0 from if_pos hL]
    refine z_if_eq_t (tgt := 14) E dX6_highest_7 (by decide) (by decide) ?_
    refine z_iconst (v := 1) E dX6_highest_14 (by decide) ?_
    refine z_callVi E hZ (k_holds l D am cI cR cS cL dg mem 1) gX6_highest_X6_holds (n := 1) rfl rfl rfl (by decide +kernel) rfl ⟨(Nat.le_of_ble_eq_true rfl), (Nat.le_of_ble_eq_true rfl)⟩ (C := RX6) rfl 0 mw_obj (As := [.int 1]) (rest := []) rfl (Nat.le_of_ble_eq_true rfl) ⟨(Nat.le_of_ble_eq_true rfl), (Nat.le_of_ble_eq_true rfl)⟩ dX6_highest_15 (fun r m1 hp => ?_)
    have hm1 := hp.2
    rw [hp.1, show (if (1 : Int32) = 0 then (1 : Int32) else 0) = 0 by decide]
    have hR0 : zR B cm m1 q z L := zR_fld hR (by rw [hm1, mset_ne _ _ _ (by decide)]) (by rw [hm1, mset_ne _ _ _ (by decide)]) (by rw [hm1, mset_ne _ _ _ (by decide)]) (by rw [hm1, mset_ne2 _ _ (by decide)]) (by rw [hm1, mset_ne2 _ _ (by decide)])
    have hth : m1 0 0 = 1 := by rw [hm1, mset_at]
    refine z_if_eq_t (tgt := 30) E dX6_highest_18 (by decide) (by decide) ?_
    refine z_iconst (v := 0) E dX6_highest_30 (by decide) ?_
    exact z_iretM E hr hlocks (m1) rfl ⟨(Or.inl ⟨"java/lang/IndexOutOfBoundsException", if_pos hL, hth⟩), zR_mono (by omega) hR0⟩ (Nat.le_of_ble_eq_true rfl) (Nat.le_of_ble_eq_true rfl) dX6_highest_31
  · skip
    obtain ⟨k, hk, rfl⟩ := zx4 hL
    have ek : (nI k).toNatClampNeg = k := nI_clamp (by omega)
    by_cases hPe : fBears (rv cm k) b = 0
    · skip
      rw [show fIsP cm (nI k) b = 0 from (if_neg hL).trans (by rw [ek]; exact hPe)]
      refine z_if_eq_t (tgt := 14) E dX6_highest_7 (by decide) (by decide) ?_
      refine z_iconst (v := 1) E dX6_highest_14 (by decide) ?_
      refine z_callVi E hZ (k_holds l D am cI cR cS cL dg mem 1) gX6_highest_X6_holds (n := 1) rfl rfl rfl (by decide +kernel) rfl ⟨(Nat.le_of_ble_eq_true rfl), (Nat.le_of_ble_eq_true rfl)⟩ (C := RX6) rfl 0 mw_obj (As := [.int 1]) (rest := []) rfl (Nat.le_of_ble_eq_true rfl) ⟨(Nat.le_of_ble_eq_true rfl), (Nat.le_of_ble_eq_true rfl)⟩ dX6_highest_15 (fun r m2 hp => ?_)
      have hm2 := hp.2
      rw [hp.1, show (if (1 : Int32) = 0 then (1 : Int32) else 0) = 0 by decide]
      have hR0 : zR B cm m2 q z L := zR_fld hR (by rw [hm2, mset_ne _ _ _ (by decide)]) (by rw [hm2, mset_ne _ _ _ (by decide)]) (by rw [hm2, mset_ne _ _ _ (by decide)]) (by rw [hm2, mset_ne2 _ _ (by decide)]) (by rw [hm2, mset_ne2 _ _ (by decide)])
      have hth : m2 0 0 = 1 := by rw [hm2, mset_at]
      refine z_if_eq_t (tgt := 30) E dX6_highest_18 (by decide) (by decide) ?_
      refine z_iconst (v := 0) E dX6_highest_30 (by decide) ?_
      exact z_iretM E hr hlocks (m2) rfl ⟨(Or.inl ⟨"java/lang/IndexOutOfBoundsException", (if_neg hL).trans (by rw [ek]; exact if_pos hPe), hth⟩), zR_mono (by omega) hR0⟩ (Nat.le_of_ble_eq_true rfl) (Nat.le_of_ble_eq_true rfl) dX6_highest_31
    · skip
      rw [show fIsP cm (nI k) b = 1 from (if_neg hL).trans (by rw [ek]; exact (fBears_01 _ _).resolve_left hPe)]
      obtain ⟨t, ht3, rfl⟩ := fBears_nI hPe
      obtain ⟨p0, hpp0, hm0⟩ := hR.1.1 k hk |>.2
      rw [show 4 * 0 + k = k by omega] at hpp0 hm0
      have htp := fBears_lt hpp0 ht3 hPe
      have et : (nI t).toNatClampNeg = t := nI_clamp (by omega)
      refine z_if_eq_f (tgt := 14) E dX6_highest_7 (by decide) (by decide) ?_
      refine z_iconst (v := 0) E dX6_highest_10 (by decide) ?_
      refine z_goto (tgt := 15) E dX6_highest_11 (by decide) ?_
      refine z_callVi E hZ (k_holds l D am cI cR cS cL dg mem 0) gX6_highest_X6_holds (n := 1) rfl rfl rfl (by decide +kernel) rfl ⟨(Nat.le_of_ble_eq_true rfl), (Nat.le_of_ble_eq_true rfl)⟩ (C := RX6) rfl 0 mw_obj (As := [.int 0]) (rest := []) rfl (Nat.le_of_ble_eq_true rfl) ⟨(Nat.le_of_ble_eq_true rfl), (Nat.le_of_ble_eq_true rfl)⟩ dX6_highest_15 (fun r m3 hp => ?_)
      have hm3 := hp.2
      rw [hp.1, show (if (0 : Int32) = 0 then (1 : Int32) else 0) = 1 by decide]
      have hR0 : zR B cm m3 q z L := zR_fld hR (by rw [hm3, mset_ne _ _ _ (by decide)]) (by rw [hm3, mset_ne _ _ _ (by decide)]) (by rw [hm3, mset_ne _ _ _ (by decide)]) (by rw [hm3, mset_ne2 _ _ (by decide)]) (by rw [hm3, mset_ne2 _ _ (by decide)])
      have hth : m3 0 0 = 0 := by rw [hm3, mset_at]
      refine z_if_eq_f (tgt := 30) E dX6_highest_18 (by decide) (by decide) ?_
      refine z_aload_n E dX6_highest_21 rfl 0 rfl ?_
      refine z_iload_n E dX6_highest_22 rfl 1 rfl ?_
      refine z_iload_n E dX6_highest_23 rfl 2 rfl ?_
      obtain ⟨hokX, hSX⟩ := zSite_0 hR0.1
      obtain ⟨p1, hpp1, hmX⟩ := hSX.1 k hk
      have htp1 : t < p1 := by rw [← rPp_unique hpp0 hpp1]; exact htp
      refine z_callVi E hZ (k_mhighestOf l D am cI cR cS cL dg m3 hk hmX hpp1 (hokX k hk).1 htp1) gX6_highest_X6_highestOf (n := 2) rfl rfl rfl (by decide +kernel) rfl ⟨(Nat.le_of_ble_eq_true rfl), (Nat.le_of_ble_eq_true rfl)⟩ (C := RX6) rfl 0 mw_obj (As := [.int (nI k), .int (nI t)]) (rest := []) rfl (Nat.le_of_ble_eq_true rfl) ⟨(Nat.le_of_ble_eq_true rfl), (Nat.le_of_ble_eq_true rfl)⟩ dX6_highest_24 (fun r m4 hp => ?_)
      rw [hp.1]
      have hR2 := zR_scr hR0 hp.2
      have hth2 : m4 0 0 = 0 := by rw [hp.2.2 0 (by omega)]; exact hth
      refine z_goto (tgt := 31) E dX6_highest_27 (by decide) ?_
      exact z_iretM E hr hlocks (m4) rfl ⟨(Or.inr ⟨_, (dHigh zTr.rfl' hk hpp0.2.1 hpp0.1 htp), hth2, rfl⟩), zR_mono (by omega) hR2⟩ (Nat.le_of_ble_eq_true rfl) (Nat.le_of_ble_eq_true rfl) dX6_highest_31
set_option maxHeartbeats 1000000 in
set_option maxRecDepth 100000 in
theorem k_mperson (l : Launch) (D : va_G) (am : Nat → Nat) (cI cR cS cL : ClassId) (dg : Int64) (mem : zM) {B : Nat} {cm : zM} {q z L : Nat} (hR : zR B cm mem q z L) (x b g : Int32) : zMi l yX6_person wsX6_person ({ frames := 3, cells := 0, slots := 0, locals := 64 }) D (cK cI cR cS cL) [.ref (am 0), .int x, .int b, .int g] (mw am cI dg mem) (fun r u => mAns cdL (fun c' => ∃ q' z', zR (B + 180) c' u q' z' L) (sPerson cm x b g) r (u 0 0)) (mw am cI dg) 0 0 := by
  refine zMiM.of (cc := cX6_person) (maxL := 4) (ret := (some .int)) (by decide +kernel) rfl (lv0 := [(0, .ref (am 0)), (1, .int x), (2, .int b), (3, .int g)]) (Nat.le_of_ble_eq_true rfl) rfl ?_
  intro p e s m args below meth c E hZ hr hlocks hnm
  refine z_aload_n E dX6_person_0 rfl 0 rfl ?_
  refine z_aload_n E dX6_person_1 rfl 0 rfl ?_
  refine z_iload_n E dX6_person_2 rfl 1 rfl ?_
  refine z_iload_n E dX6_person_3 rfl 2 rfl ?_
  refine z_callVi E hZ (k_isPerson l D am cI cR cS cL dg mem hR x b) gX6_person_X6_isPerson (n := 2) rfl rfl rfl (by decide +kernel) rfl ⟨(Nat.le_of_ble_eq_true rfl), (Nat.le_of_ble_eq_true rfl)⟩ (C := RX6) rfl 0 mw_obj (As := [.int x, .int b]) (rest := [.ref (am 0)]) rfl (Nat.le_of_ble_eq_true rfl) ⟨(Nat.le_of_ble_eq_true rfl), (Nat.le_of_ble_eq_true rfl)⟩ dX6_person_4 (fun r u hp => ?_)
  rw [hp.1, hp.2]
  by_cases hL : x < 0 ∨ 4 ≤ x
  · skip
    rw [show fIsP cm x b = 0 from if_pos hL]
    refine z_if_ne_f (tgt := 14) E dX6_person_7 (by decide) (by decide) ?_
    refine z_iconst (v := 1) E dX6_person_10 (by decide) ?_
    refine z_goto (tgt := 28) E dX6_person_11 (by decide) ?_
    refine z_callVi E hZ (k_holds l D am cI cR cS cL dg mem 1) gX6_person_X6_holds (n := 1) rfl rfl rfl (by decide +kernel) rfl ⟨(Nat.le_of_ble_eq_true rfl), (Nat.le_of_ble_eq_true rfl)⟩ (C := RX6) rfl 0 mw_obj (As := [.int 1]) (rest := []) rfl (Nat.le_of_ble_eq_true rfl) ⟨(Nat.le_of_ble_eq_true rfl), (Nat.le_of_ble_eq_true rfl)⟩ dX6_person_28 (fun r m1 hp => ?_)
    have hm1 := hp.2
    rw [hp.1, show (if (1 : Int32) = 0 then (1 : Int32) else 0) = 0 by decide]
    have hR0 : zR B cm m1 q z L := zR_fld hR (by rw [hm1, mset_ne _ _ _ (by decide)]) (by rw [hm1, mset_ne _ _ _ (by decide)]) (by rw [hm1, mset_ne _ _ _ (by decide)]) (by rw [hm1, mset_ne2 _ _ (by decide)]) (by rw [hm1, mset_ne2 _ _ (by decide)])
    have hth : m1 0 0 = 1 := by rw [hm1, mset_at]
    refine z_if_eq_t (tgt := 48) E dX6_person_31 (by decide) (by decide) ?_
    refine z_iconst (v := 0) E dX6_person_48 (by decide) ?_
    exact z_iretM E hr hlocks (m1) rfl (Or.inl ⟨"java/lang/IndexOutOfBoundsException", cm, if_pos hL, hth, q, z, zR_mono (by omega) hR0⟩) (Nat.le_of_ble_eq_true rfl) (Nat.le_of_ble_eq_true rfl) dX6_person_49
  · skip
    obtain ⟨k, hk, rfl⟩ := zx4 hL
    have ek : (nI k).toNatClampNeg = k := nI_clamp (by omega)
    by_cases hPe : fBears (rv cm k) b = 0
    · skip
      rw [show fIsP cm (nI k) b = 0 from (if_neg hL).trans (by rw [ek]; exact hPe)]
      refine z_if_ne_f (tgt := 14) E dX6_person_7 (by decide) (by decide) ?_
      refine z_iconst (v := 1) E dX6_person_10 (by decide) ?_
      refine z_goto (tgt := 28) E dX6_person_11 (by decide) ?_
      refine z_callVi E hZ (k_holds l D am cI cR cS cL dg mem 1) gX6_person_X6_holds (n := 1) rfl rfl rfl (by decide +kernel) rfl ⟨(Nat.le_of_ble_eq_true rfl), (Nat.le_of_ble_eq_true rfl)⟩ (C := RX6) rfl 0 mw_obj (As := [.int 1]) (rest := []) rfl (Nat.le_of_ble_eq_true rfl) ⟨(Nat.le_of_ble_eq_true rfl), (Nat.le_of_ble_eq_true rfl)⟩ dX6_person_28 (fun r m2 hp => ?_)
      have hm2 := hp.2
      rw [hp.1, show (if (1 : Int32) = 0 then (1 : Int32) else 0) = 0 by decide]
      have hR0 : zR B cm m2 q z L := zR_fld hR (by rw [hm2, mset_ne _ _ _ (by decide)]) (by rw [hm2, mset_ne _ _ _ (by decide)]) (by rw [hm2, mset_ne _ _ _ (by decide)]) (by rw [hm2, mset_ne2 _ _ (by decide)]) (by rw [hm2, mset_ne2 _ _ (by decide)])
      have hth : m2 0 0 = 1 := by rw [hm2, mset_at]
      refine z_if_eq_t (tgt := 48) E dX6_person_31 (by decide) (by decide) ?_
      refine z_iconst (v := 0) E dX6_person_48 (by decide) ?_
      exact z_iretM E hr hlocks (m2) rfl (Or.inl ⟨"java/lang/IndexOutOfBoundsException", cm, (if_neg hL).trans (by rw [ek]; exact if_pos hPe), hth, q, z, zR_mono (by omega) hR0⟩) (Nat.le_of_ble_eq_true rfl) (Nat.le_of_ble_eq_true rfl) dX6_person_49
    · skip
      rw [show fIsP cm (nI k) b = 1 from (if_neg hL).trans (by rw [ek]; exact (fBears_01 _ _).resolve_left hPe)]
      obtain ⟨t, ht3, rfl⟩ := fBears_nI hPe
      obtain ⟨p0, hpp0, hm0⟩ := hR.1.1 k hk |>.2
      rw [show 4 * 0 + k = k by omega] at hpp0 hm0
      have htp := fBears_lt hpp0 ht3 hPe
      have et : (nI t).toNatClampNeg = t := nI_clamp (by omega)
      refine z_if_ne_t (tgt := 14) E dX6_person_7 (by decide) (by decide) ?_
      refine z_iload_n E dX6_person_14 rfl 3 rfl ?_
      refine z_iconst (v := 0) E dX6_person_15 (by decide) ?_
      refine z_iconst (v := 1) E dX6_person_16 (by decide) ?_
      refine z_callSi E hZ (k_in l D am cI cR cS cL dg mem g 0 1) gX6_person_X6_in (n := 3) rfl rfl rfl (by decide +kernel) rfl ⟨Nat.le_of_ble_eq_true rfl, Nat.le_of_ble_eq_true rfl⟩ (As := [.int g, .int 0, .int 1]) (rest := [.ref (am 0)]) rfl (Nat.le_of_ble_eq_true rfl) ⟨Nat.le_of_ble_eq_true rfl, Nat.le_of_ble_eq_true rfl⟩ dX6_person_17 (fun r u hp => ?_)
      rw [hp.1, hp.2]
      by_cases hg : g < 0 ∨ 1 < g
      · skip
        rw [fIn_0 hg]
        refine z_if_ne_f (tgt := 27) E dX6_person_20 (by decide) (by decide) ?_
        refine z_iconst (v := 2) E dX6_person_23 (by decide) ?_
        refine z_goto (tgt := 28) E dX6_person_24 (by decide) ?_
        refine z_callVi E hZ (k_holds l D am cI cR cS cL dg mem 2) gX6_person_X6_holds (n := 1) rfl rfl rfl (by decide +kernel) rfl ⟨(Nat.le_of_ble_eq_true rfl), (Nat.le_of_ble_eq_true rfl)⟩ (C := RX6) rfl 0 mw_obj (As := [.int 2]) (rest := []) rfl (Nat.le_of_ble_eq_true rfl) ⟨(Nat.le_of_ble_eq_true rfl), (Nat.le_of_ble_eq_true rfl)⟩ dX6_person_28 (fun r m3 hp => ?_)
        have hm3 := hp.2
        rw [hp.1, show (if (2 : Int32) = 0 then (1 : Int32) else 0) = 0 by decide]
        have hR0 : zR B cm m3 q z L := zR_fld hR (by rw [hm3, mset_ne _ _ _ (by decide)]) (by rw [hm3, mset_ne _ _ _ (by decide)]) (by rw [hm3, mset_ne _ _ _ (by decide)]) (by rw [hm3, mset_ne2 _ _ (by decide)]) (by rw [hm3, mset_ne2 _ _ (by decide)])
        have hth : m3 0 0 = 2 := by rw [hm3, mset_at]
        refine z_if_eq_t (tgt := 48) E dX6_person_31 (by decide) (by decide) ?_
        refine z_iconst (v := 0) E dX6_person_48 (by decide) ?_
        exact z_iretM E hr hlocks (m3) rfl (Or.inl ⟨"java/lang/IllegalArgumentException", cm, sPerson_bw hL (by rw [ek]; exact hPe) hg, hth, q, z, zR_mono (by omega) hR0⟩) (Nat.le_of_ble_eq_true rfl) (Nat.le_of_ble_eq_true rfl) dX6_person_49
      · skip
        rw [fIn_1 hg]
        refine z_if_ne_t (tgt := 27) E dX6_person_20 (by decide) (by decide) ?_
        refine z_iconst (v := 0) E dX6_person_27 (by decide) ?_
        refine z_callVi E hZ (k_holds l D am cI cR cS cL dg mem 0) gX6_person_X6_holds (n := 1) rfl rfl rfl (by decide +kernel) rfl ⟨(Nat.le_of_ble_eq_true rfl), (Nat.le_of_ble_eq_true rfl)⟩ (C := RX6) rfl 0 mw_obj (As := [.int 0]) (rest := []) rfl (Nat.le_of_ble_eq_true rfl) ⟨(Nat.le_of_ble_eq_true rfl), (Nat.le_of_ble_eq_true rfl)⟩ dX6_person_28 (fun r m4 hp => ?_)
        have hm4 := hp.2
        rw [hp.1, show (if (0 : Int32) = 0 then (1 : Int32) else 0) = 1 by decide]
        have hR0 : zR B cm m4 q z L := zR_fld hR (by rw [hm4, mset_ne _ _ _ (by decide)]) (by rw [hm4, mset_ne _ _ _ (by decide)]) (by rw [hm4, mset_ne _ _ _ (by decide)]) (by rw [hm4, mset_ne2 _ _ (by decide)]) (by rw [hm4, mset_ne2 _ _ (by decide)])
        have hth : m4 0 0 = 0 := by rw [hm4, mset_at]
        refine z_if_eq_f (tgt := 48) E dX6_person_31 (by decide) (by decide) ?_
        obtain ⟨hokX, hSX⟩ := zSite_0 hR0.1
        obtain ⟨p1, hpp1, hmX⟩ := hSX.1 k hk
        have htp1 : t < p1 := by rw [← rPp_unique hpp0 hpp1]; exact htp
        have w8 := (hmX.2.2.2.2.2.2.2.2 t htp1).1
        have w9 := (hmX.2.2.2.2.2.2.2.2 t htp1).2
        have hR2 := hR0
        have hth2 := hth
        obtain ⟨j, hj, hje⟩ := zin_nI (n := 1) (by decide) hg
        rcases (show j = 0 ∨ j = 1 by omega) with hjj | hjj
        · skip
          have hgi : g = 0 := by rw [hje, hjj]; rfl
          clear hje hjj
          subst hgi
          refine z_aload_n E dX6_person_34 rfl 0 rfl ?_
          refine z_get E 0 mw_obj (C := RX6) (T := TX6) (N := 16) rfl (fun _ h => List.mem_cons_of_mem _ (List.mem_append_right _ h)) 1 (by decide) (List.mem_of_getElem? (i := 1) (by decide +kernel)) rfl (v := .ref (am 1)) rfl dX6_person_35 ?_
          refine z_iload_n E dX6_person_38 rfl 1 rfl ?_
          refine z_iload_n E dX6_person_39 rfl 2 rfl ?_
          refine z_iload_n E dX6_person_40 rfl 3 rfl ?_
          refine z_callSi E hZ (k_ofP l D am cI cR cS cL dg m4 (nI k) (nI t) 0) gX6_person_X6_ofPerson (n := 3) rfl rfl rfl (by decide +kernel) rfl ⟨Nat.le_of_ble_eq_true rfl, Nat.le_of_ble_eq_true rfl⟩ (As := [.int (nI k), .int (nI t), .int 0]) (rest := [.ref (am 1)]) rfl (Nat.le_of_ble_eq_true rfl) ⟨Nat.le_of_ble_eq_true rfl, Nat.le_of_ble_eq_true rfl⟩ dX6_person_41 (fun r u hp => ?_)
          rw [hp.1, hp.2]
          rw [zofP k t (y := nI t) (z := 0) (w := 0) (N := 14 * k + 8 + 2 * t) rfl rfl (by omega)]
          refine z_iald E 1 0 mw_s rfl (vp_in_nI (by omega) (by decide)) (v := rv cm k (8 + t)) ((congrArg (m4 1) (nI_clamp (by omega))).trans w8) dX6_person_44 ?_
          refine z_goto (tgt := 49) E dX6_person_45 (by decide) ?_
          exact z_iretM E hr hlocks (m4) rfl (Or.inr ⟨_, _, (dPer0 zTr.rfl' hk hpp0.2.1 hpp0.1 htp), hth2, rfl, q, z, zR_mono (by omega) hR2⟩) (Nat.le_of_ble_eq_true rfl) (Nat.le_of_ble_eq_true rfl) dX6_person_49
        · skip
          have hgi : g = 1 := by rw [hje, hjj]; rfl
          clear hje hjj
          subst hgi
          refine z_aload_n E dX6_person_34 rfl 0 rfl ?_
          refine z_get E 0 mw_obj (C := RX6) (T := TX6) (N := 16) rfl (fun _ h => List.mem_cons_of_mem _ (List.mem_append_right _ h)) 1 (by decide) (List.mem_of_getElem? (i := 1) (by decide +kernel)) rfl (v := .ref (am 1)) rfl dX6_person_35 ?_
          refine z_iload_n E dX6_person_38 rfl 1 rfl ?_
          refine z_iload_n E dX6_person_39 rfl 2 rfl ?_
          refine z_iload_n E dX6_person_40 rfl 3 rfl ?_
          refine z_callSi E hZ (k_ofP l D am cI cR cS cL dg m4 (nI k) (nI t) 1) gX6_person_X6_ofPerson (n := 3) rfl rfl rfl (by decide +kernel) rfl ⟨Nat.le_of_ble_eq_true rfl, Nat.le_of_ble_eq_true rfl⟩ (As := [.int (nI k), .int (nI t), .int 1]) (rest := [.ref (am 1)]) rfl (Nat.le_of_ble_eq_true rfl) ⟨Nat.le_of_ble_eq_true rfl, Nat.le_of_ble_eq_true rfl⟩ dX6_person_41 (fun r u hp => ?_)
          rw [hp.1, hp.2]
          rw [zofP k t (y := nI t) (z := 1) (w := 1) (N := 14 * k + 9 + 2 * t) rfl rfl (by omega)]
          refine z_iald E 1 0 mw_s rfl (vp_in_nI (by omega) (by decide)) (v := rv cm k (11 + t)) ((congrArg (m4 1) (nI_clamp (by omega))).trans w9) dX6_person_44 ?_
          refine z_goto (tgt := 49) E dX6_person_45 (by decide) ?_
          exact z_iretM E hr hlocks (m4) rfl (Or.inr ⟨_, _, (dPer1 zTr.rfl' hk hpp0.2.1 hpp0.1 htp), hth2, rfl, q, z, zR_mono (by omega) hR2⟩) (Nat.le_of_ble_eq_true rfl) (Nat.le_of_ble_eq_true rfl) dX6_person_49
