/-! the reference: put, kinds, rope -/
set_option maxHeartbeats 1000000 in
set_option maxRecDepth 100000 in
theorem k_mput (l : Launch) (D : va_G) (am : Nat → Nat) (cI cR cS cL : ClassId) (dg : Int64) (mem : zM) {B : Nat} {cm : zM} {q z L : Nat} (hR : zR B cm mem q z L) (x b h g : Int32) : zMi l yX6_put wsX6_put ({ frames := 5, cells := 0, slots := 0, locals := 119 }) D (cK cI cR cS cL) [.ref (am 0), .int x, .int b, .int h, .int g] (mw am cI dg mem) (fun r u => mAns cdL (fun c' => ∃ q' z', zR (B + 180) c' u q' z' L) (sPut cm q z x b h g) r (u 0 0)) (mw am cI dg) 0 0 := by
  refine zMiM.of (cc := cX6_put) (maxL := 6) (ret := (some .int)) (by decide +kernel) rfl (lv0 := [(0, .ref (am 0)), (1, .int x), (2, .int b), (3, .int h), (4, .int g)]) (Nat.le_of_ble_eq_true rfl) rfl ?_
  intro p e s m args below meth c E hZ hr hlocks hnm
  refine z_iload_n E dX6_put_0 rfl 2 rfl ?_
  refine z_bipush (v := 10) E dX6_put_1 (by decide) ?_
  refine z_bipush (v := 100) E dX6_put_3 (by decide) ?_
  refine z_callSi E hZ (k_in l D am cI cR cS cL dg mem b 10 100) gX6_put_X6_in (n := 3) rfl rfl rfl (by decide +kernel) rfl ⟨Nat.le_of_ble_eq_true rfl, Nat.le_of_ble_eq_true rfl⟩ (As := [.int b, .int 10, .int 100]) (rest := []) rfl (Nat.le_of_ble_eq_true rfl) ⟨Nat.le_of_ble_eq_true rfl, Nat.le_of_ble_eq_true rfl⟩ dX6_put_5 (fun r u hp => ?_)
  rw [hp.1, hp.2]
  by_cases hb : b < 10 ∨ 100 < b
  · skip
    rw [fIn_0 hb]
    refine z_if_eq_t (tgt := 38) E dX6_put_8 (by decide) (by decide) ?_
    refine z_iconst (v := 0) E dX6_put_38 (by decide) ?_
    refine z_istore (lv' := [(5, .int 0), (0, .ref (am 0)), (1, .int x), (2, .int b), (3, .int h), (4, .int g)]) E dX6_put_39 (by decide) rfl ?_
    refine z_aload_n E dX6_put_41 rfl 1 rfl ?_
    refine z_iload_n E dX6_put_42 rfl 2 rfl ?_
    refine z_callSi E hZ (k_isLadder l D am cI cR cS cL dg mem x) gX6_put_X6_isLadder (n := 1) rfl rfl rfl (by decide +kernel) rfl ⟨Nat.le_of_ble_eq_true rfl, Nat.le_of_ble_eq_true rfl⟩ (As := [.int x]) (rest := [.ref (am 0)]) rfl (Nat.le_of_ble_eq_true rfl) ⟨Nat.le_of_ble_eq_true rfl, Nat.le_of_ble_eq_true rfl⟩ dX6_put_43 (fun r u hp => ?_)
    rw [hp.1, hp.2]
    by_cases hL : x < 0 ∨ 4 ≤ x
    · skip
      rw [fIn_L0 hL]
      refine z_if_ne_f (tgt := 53) E dX6_put_46 (by decide) (by decide) ?_
      refine z_iconst (v := 1) E dX6_put_49 (by decide) ?_
      refine z_goto (tgt := 63) E dX6_put_50 (by decide) ?_
      refine z_callVi E hZ (k_holds l D am cI cR cS cL dg mem 1) gX6_put_X6_holds (n := 1) rfl rfl rfl (by decide +kernel) rfl ⟨(Nat.le_of_ble_eq_true rfl), (Nat.le_of_ble_eq_true rfl)⟩ (C := RX6) rfl 0 mw_obj (As := [.int 1]) (rest := []) rfl (Nat.le_of_ble_eq_true rfl) ⟨(Nat.le_of_ble_eq_true rfl), (Nat.le_of_ble_eq_true rfl)⟩ dX6_put_63 (fun r m1 hp => ?_)
      have hm1 := hp.2
      rw [hp.1, show (if (1 : Int32) = 0 then (1 : Int32) else 0) = 0 by decide]
      have hR0 : zR B cm m1 q z L := zR_fld hR (by rw [hm1, mset_ne _ _ _ (by decide)]) (by rw [hm1, mset_ne _ _ _ (by decide)]) (by rw [hm1, mset_ne _ _ _ (by decide)]) (by rw [hm1, mset_ne2 _ _ (by decide)]) (by rw [hm1, mset_ne2 _ _ (by decide)])
      have hth : m1 0 0 = 1 := by rw [hm1, mset_at]
      refine z_if_ne_f (tgt := 71) E dX6_put_66 (by decide) (by decide) ?_
      refine z_iconst (v := 0) E dX6_put_69 (by decide) ?_
      exact z_iretM E hr hlocks (m1) rfl (Or.inl ⟨_, cm, (if_pos hL), hth, q, z, zR_mono (by omega) hR0⟩) (Nat.le_of_ble_eq_true rfl) (Nat.le_of_ble_eq_true rfl) dX6_put_70
    · skip
      rw [fIn_L1 hL]
      obtain ⟨k, hk, rfl⟩ := zx4 hL
      have ek : (nI k).toNatClampNeg = k := nI_clamp (by omega)
      refine z_if_ne_t (tgt := 53) E dX6_put_46 (by decide) (by decide) ?_
      refine z_iload E dX6_put_53 0 rfl ?_
      refine z_if_eq_t (tgt := 62) E dX6_put_55 (by decide) (by decide) ?_
      refine z_iconst (v := 2) E dX6_put_62 (by decide) ?_
      refine z_callVi E hZ (k_holds l D am cI cR cS cL dg mem 2) gX6_put_X6_holds (n := 1) rfl rfl rfl (by decide +kernel) rfl ⟨(Nat.le_of_ble_eq_true rfl), (Nat.le_of_ble_eq_true rfl)⟩ (C := RX6) rfl 0 mw_obj (As := [.int 2]) (rest := []) rfl (Nat.le_of_ble_eq_true rfl) ⟨(Nat.le_of_ble_eq_true rfl), (Nat.le_of_ble_eq_true rfl)⟩ dX6_put_63 (fun r m2 hp => ?_)
      have hm2 := hp.2
      rw [hp.1, show (if (2 : Int32) = 0 then (1 : Int32) else 0) = 0 by decide]
      have hR0 : zR B cm m2 q z L := zR_fld hR (by rw [hm2, mset_ne _ _ _ (by decide)]) (by rw [hm2, mset_ne _ _ _ (by decide)]) (by rw [hm2, mset_ne _ _ _ (by decide)]) (by rw [hm2, mset_ne2 _ _ (by decide)]) (by rw [hm2, mset_ne2 _ _ (by decide)])
      have hth : m2 0 0 = 2 := by rw [hm2, mset_at]
      refine z_if_ne_f (tgt := 71) E dX6_put_66 (by decide) (by decide) ?_
      refine z_iconst (v := 0) E dX6_put_69 (by decide) ?_
      exact z_iretM E hr hlocks (m2) rfl (Or.inl ⟨_, cm, ((if_neg hL).trans (if_pos hb)), hth, q, z, zR_mono (by omega) hR0⟩) (Nat.le_of_ble_eq_true rfl) (Nat.le_of_ble_eq_true rfl) dX6_put_70
  · skip
    rw [fIn_1 hb]
    refine z_if_eq_f (tgt := 38) E dX6_put_8 (by decide) (by decide) ?_
    refine z_iload_n E dX6_put_11 rfl 3 rfl ?_
    refine z_bipush (v := 50) E dX6_put_12 (by decide) ?_
    refine z_sipush (v := 300) E dX6_put_14 (by decide) ?_
    refine z_callSi E hZ (k_in l D am cI cR cS cL dg mem h 50 300) gX6_put_X6_in (n := 3) rfl rfl rfl (by decide +kernel) rfl ⟨Nat.le_of_ble_eq_true rfl, Nat.le_of_ble_eq_true rfl⟩ (As := [.int h, .int 50, .int 300]) (rest := []) rfl (Nat.le_of_ble_eq_true rfl) ⟨Nat.le_of_ble_eq_true rfl, Nat.le_of_ble_eq_true rfl⟩ dX6_put_17 (fun r u hp => ?_)
    rw [hp.1, hp.2]
    by_cases hh : h < 50 ∨ 300 < h
    · skip
      rw [fIn_0 hh]
      refine z_if_eq_t (tgt := 38) E dX6_put_20 (by decide) (by decide) ?_
      refine z_iconst (v := 0) E dX6_put_38 (by decide) ?_
      refine z_istore (lv' := [(5, .int 0), (0, .ref (am 0)), (1, .int x), (2, .int b), (3, .int h), (4, .int g)]) E dX6_put_39 (by decide) rfl ?_
      refine z_aload_n E dX6_put_41 rfl 1 rfl ?_
      refine z_iload_n E dX6_put_42 rfl 2 rfl ?_
      refine z_callSi E hZ (k_isLadder l D am cI cR cS cL dg mem x) gX6_put_X6_isLadder (n := 1) rfl rfl rfl (by decide +kernel) rfl ⟨Nat.le_of_ble_eq_true rfl, Nat.le_of_ble_eq_true rfl⟩ (As := [.int x]) (rest := [.ref (am 0)]) rfl (Nat.le_of_ble_eq_true rfl) ⟨Nat.le_of_ble_eq_true rfl, Nat.le_of_ble_eq_true rfl⟩ dX6_put_43 (fun r u hp => ?_)
      rw [hp.1, hp.2]
      by_cases hL : x < 0 ∨ 4 ≤ x
      · skip
        rw [fIn_L0 hL]
        refine z_if_ne_f (tgt := 53) E dX6_put_46 (by decide) (by decide) ?_
        refine z_iconst (v := 1) E dX6_put_49 (by decide) ?_
        refine z_goto (tgt := 63) E dX6_put_50 (by decide) ?_
        refine z_callVi E hZ (k_holds l D am cI cR cS cL dg mem 1) gX6_put_X6_holds (n := 1) rfl rfl rfl (by decide +kernel) rfl ⟨(Nat.le_of_ble_eq_true rfl), (Nat.le_of_ble_eq_true rfl)⟩ (C := RX6) rfl 0 mw_obj (As := [.int 1]) (rest := []) rfl (Nat.le_of_ble_eq_true rfl) ⟨(Nat.le_of_ble_eq_true rfl), (Nat.le_of_ble_eq_true rfl)⟩ dX6_put_63 (fun r m3 hp => ?_)
        have hm3 := hp.2
        rw [hp.1, show (if (1 : Int32) = 0 then (1 : Int32) else 0) = 0 by decide]
        have hR0 : zR B cm m3 q z L := zR_fld hR (by rw [hm3, mset_ne _ _ _ (by decide)]) (by rw [hm3, mset_ne _ _ _ (by decide)]) (by rw [hm3, mset_ne _ _ _ (by decide)]) (by rw [hm3, mset_ne2 _ _ (by decide)]) (by rw [hm3, mset_ne2 _ _ (by decide)])
        have hth : m3 0 0 = 1 := by rw [hm3, mset_at]
        refine z_if_ne_f (tgt := 71) E dX6_put_66 (by decide) (by decide) ?_
        refine z_iconst (v := 0) E dX6_put_69 (by decide) ?_
        exact z_iretM E hr hlocks (m3) rfl (Or.inl ⟨_, cm, (if_pos hL), hth, q, z, zR_mono (by omega) hR0⟩) (Nat.le_of_ble_eq_true rfl) (Nat.le_of_ble_eq_true rfl) dX6_put_70
      · skip
        rw [fIn_L1 hL]
        obtain ⟨k, hk, rfl⟩ := zx4 hL
        have ek : (nI k).toNatClampNeg = k := nI_clamp (by omega)
        refine z_if_ne_t (tgt := 53) E dX6_put_46 (by decide) (by decide) ?_
        refine z_iload E dX6_put_53 0 rfl ?_
        refine z_if_eq_t (tgt := 62) E dX6_put_55 (by decide) (by decide) ?_
        refine z_iconst (v := 2) E dX6_put_62 (by decide) ?_
        refine z_callVi E hZ (k_holds l D am cI cR cS cL dg mem 2) gX6_put_X6_holds (n := 1) rfl rfl rfl (by decide +kernel) rfl ⟨(Nat.le_of_ble_eq_true rfl), (Nat.le_of_ble_eq_true rfl)⟩ (C := RX6) rfl 0 mw_obj (As := [.int 2]) (rest := []) rfl (Nat.le_of_ble_eq_true rfl) ⟨(Nat.le_of_ble_eq_true rfl), (Nat.le_of_ble_eq_true rfl)⟩ dX6_put_63 (fun r m4 hp => ?_)
        have hm4 := hp.2
        rw [hp.1, show (if (2 : Int32) = 0 then (1 : Int32) else 0) = 0 by decide]
        have hR0 : zR B cm m4 q z L := zR_fld hR (by rw [hm4, mset_ne _ _ _ (by decide)]) (by rw [hm4, mset_ne _ _ _ (by decide)]) (by rw [hm4, mset_ne _ _ _ (by decide)]) (by rw [hm4, mset_ne2 _ _ (by decide)]) (by rw [hm4, mset_ne2 _ _ (by decide)])
        have hth : m4 0 0 = 2 := by rw [hm4, mset_at]
        refine z_if_ne_f (tgt := 71) E dX6_put_66 (by decide) (by decide) ?_
        refine z_iconst (v := 0) E dX6_put_69 (by decide) ?_
        exact z_iretM E hr hlocks (m4) rfl (Or.inl ⟨_, cm, ((if_neg hL).trans ((if_neg hb).trans (if_pos hh))), hth, q, z, zR_mono (by omega) hR0⟩) (Nat.le_of_ble_eq_true rfl) (Nat.le_of_ble_eq_true rfl) dX6_put_70
    · skip
      rw [fIn_1 hh]
      refine z_if_eq_f (tgt := 38) E dX6_put_20 (by decide) (by decide) ?_
      refine z_iload E dX6_put_23 4 rfl ?_
      refine z_iconst (v := 1) E dX6_put_25 (by decide) ?_
      refine z_bipush (v := 100) E dX6_put_26 (by decide) ?_
      refine z_callSi E hZ (k_in l D am cI cR cS cL dg mem g 1 100) gX6_put_X6_in (n := 3) rfl rfl rfl (by decide +kernel) rfl ⟨Nat.le_of_ble_eq_true rfl, Nat.le_of_ble_eq_true rfl⟩ (As := [.int g, .int 1, .int 100]) (rest := []) rfl (Nat.le_of_ble_eq_true rfl) ⟨Nat.le_of_ble_eq_true rfl, Nat.le_of_ble_eq_true rfl⟩ dX6_put_28 (fun r u hp => ?_)
      rw [hp.1, hp.2]
      by_cases hg : g < 1 ∨ 100 < g
      · skip
        rw [fIn_0 hg]
        refine z_if_eq_t (tgt := 38) E dX6_put_31 (by decide) (by decide) ?_
        refine z_iconst (v := 0) E dX6_put_38 (by decide) ?_
        refine z_istore (lv' := [(5, .int 0), (0, .ref (am 0)), (1, .int x), (2, .int b), (3, .int h), (4, .int g)]) E dX6_put_39 (by decide) rfl ?_
        refine z_aload_n E dX6_put_41 rfl 1 rfl ?_
        refine z_iload_n E dX6_put_42 rfl 2 rfl ?_
        refine z_callSi E hZ (k_isLadder l D am cI cR cS cL dg mem x) gX6_put_X6_isLadder (n := 1) rfl rfl rfl (by decide +kernel) rfl ⟨Nat.le_of_ble_eq_true rfl, Nat.le_of_ble_eq_true rfl⟩ (As := [.int x]) (rest := [.ref (am 0)]) rfl (Nat.le_of_ble_eq_true rfl) ⟨Nat.le_of_ble_eq_true rfl, Nat.le_of_ble_eq_true rfl⟩ dX6_put_43 (fun r u hp => ?_)
        rw [hp.1, hp.2]
        by_cases hL : x < 0 ∨ 4 ≤ x
        · skip
          rw [fIn_L0 hL]
          refine z_if_ne_f (tgt := 53) E dX6_put_46 (by decide) (by decide) ?_
          refine z_iconst (v := 1) E dX6_put_49 (by decide) ?_
          refine z_goto (tgt := 63) E dX6_put_50 (by decide) ?_
          refine z_callVi E hZ (k_holds l D am cI cR cS cL dg mem 1) gX6_put_X6_holds (n := 1) rfl rfl rfl (by decide +kernel) rfl ⟨(Nat.le_of_ble_eq_true rfl), (Nat.le_of_ble_eq_true rfl)⟩ (C := RX6) rfl 0 mw_obj (As := [.int 1]) (rest := []) rfl (Nat.le_of_ble_eq_true rfl) ⟨(Nat.le_of_ble_eq_true rfl), (Nat.le_of_ble_eq_true rfl)⟩ dX6_put_63 (fun r m5 hp => ?_)
          have hm5 := hp.2
          rw [hp.1, show (if (1 : Int32) = 0 then (1 : Int32) else 0) = 0 by decide]
          have hR0 : zR B cm m5 q z L := zR_fld hR (by rw [hm5, mset_ne _ _ _ (by decide)]) (by rw [hm5, mset_ne _ _ _ (by decide)]) (by rw [hm5, mset_ne _ _ _ (by decide)]) (by rw [hm5, mset_ne2 _ _ (by decide)]) (by rw [hm5, mset_ne2 _ _ (by decide)])
          have hth : m5 0 0 = 1 := by rw [hm5, mset_at]
          refine z_if_ne_f (tgt := 71) E dX6_put_66 (by decide) (by decide) ?_
          refine z_iconst (v := 0) E dX6_put_69 (by decide) ?_
          exact z_iretM E hr hlocks (m5) rfl (Or.inl ⟨_, cm, (if_pos hL), hth, q, z, zR_mono (by omega) hR0⟩) (Nat.le_of_ble_eq_true rfl) (Nat.le_of_ble_eq_true rfl) dX6_put_70
        · skip
          rw [fIn_L1 hL]
          obtain ⟨k, hk, rfl⟩ := zx4 hL
          have ek : (nI k).toNatClampNeg = k := nI_clamp (by omega)
          refine z_if_ne_t (tgt := 53) E dX6_put_46 (by decide) (by decide) ?_
          refine z_iload E dX6_put_53 0 rfl ?_
          refine z_if_eq_t (tgt := 62) E dX6_put_55 (by decide) (by decide) ?_
          refine z_iconst (v := 2) E dX6_put_62 (by decide) ?_
          refine z_callVi E hZ (k_holds l D am cI cR cS cL dg mem 2) gX6_put_X6_holds (n := 1) rfl rfl rfl (by decide +kernel) rfl ⟨(Nat.le_of_ble_eq_true rfl), (Nat.le_of_ble_eq_true rfl)⟩ (C := RX6) rfl 0 mw_obj (As := [.int 2]) (rest := []) rfl (Nat.le_of_ble_eq_true rfl) ⟨(Nat.le_of_ble_eq_true rfl), (Nat.le_of_ble_eq_true rfl)⟩ dX6_put_63 (fun r m6 hp => ?_)
          have hm6 := hp.2
          rw [hp.1, show (if (2 : Int32) = 0 then (1 : Int32) else 0) = 0 by decide]
          have hR0 : zR B cm m6 q z L := zR_fld hR (by rw [hm6, mset_ne _ _ _ (by decide)]) (by rw [hm6, mset_ne _ _ _ (by decide)]) (by rw [hm6, mset_ne _ _ _ (by decide)]) (by rw [hm6, mset_ne2 _ _ (by decide)]) (by rw [hm6, mset_ne2 _ _ (by decide)])
          have hth : m6 0 0 = 2 := by rw [hm6, mset_at]
          refine z_if_ne_f (tgt := 71) E dX6_put_66 (by decide) (by decide) ?_
          refine z_iconst (v := 0) E dX6_put_69 (by decide) ?_
          exact z_iretM E hr hlocks (m6) rfl (Or.inl ⟨_, cm, ((if_neg hL).trans ((if_neg hb).trans ((if_neg hh).trans (if_pos hg)))), hth, q, z, zR_mono (by omega) hR0⟩) (Nat.le_of_ble_eq_true rfl) (Nat.le_of_ble_eq_true rfl) dX6_put_70
      · skip
        rw [fIn_1 hg]
        refine z_if_eq_f (tgt := 38) E dX6_put_31 (by decide) (by decide) ?_
        refine z_iconst (v := 1) E dX6_put_34 (by decide) ?_
        refine z_goto (tgt := 39) E dX6_put_35 (by decide) ?_
        refine z_istore (lv' := [(5, .int 1), (0, .ref (am 0)), (1, .int x), (2, .int b), (3, .int h), (4, .int g)]) E dX6_put_39 (by decide) rfl ?_
        refine z_aload_n E dX6_put_41 rfl 1 rfl ?_
        refine z_iload_n E dX6_put_42 rfl 2 rfl ?_
        refine z_callSi E hZ (k_isLadder l D am cI cR cS cL dg mem x) gX6_put_X6_isLadder (n := 1) rfl rfl rfl (by decide +kernel) rfl ⟨Nat.le_of_ble_eq_true rfl, Nat.le_of_ble_eq_true rfl⟩ (As := [.int x]) (rest := [.ref (am 0)]) rfl (Nat.le_of_ble_eq_true rfl) ⟨Nat.le_of_ble_eq_true rfl, Nat.le_of_ble_eq_true rfl⟩ dX6_put_43 (fun r u hp => ?_)
        rw [hp.1, hp.2]
        by_cases hL : x < 0 ∨ 4 ≤ x
        · skip
          rw [fIn_L0 hL]
          refine z_if_ne_f (tgt := 53) E dX6_put_46 (by decide) (by decide) ?_
          refine z_iconst (v := 1) E dX6_put_49 (by decide) ?_
          refine z_goto (tgt := 63) E dX6_put_50 (by decide) ?_
          refine z_callVi E hZ (k_holds l D am cI cR cS cL dg mem 1) gX6_put_X6_holds (n := 1) rfl rfl rfl (by decide +kernel) rfl ⟨(Nat.le_of_ble_eq_true rfl), (Nat.le_of_ble_eq_true rfl)⟩ (C := RX6) rfl 0 mw_obj (As := [.int 1]) (rest := []) rfl (Nat.le_of_ble_eq_true rfl) ⟨(Nat.le_of_ble_eq_true rfl), (Nat.le_of_ble_eq_true rfl)⟩ dX6_put_63 (fun r m7 hp => ?_)
          have hm7 := hp.2
          rw [hp.1, show (if (1 : Int32) = 0 then (1 : Int32) else 0) = 0 by decide]
          have hR0 : zR B cm m7 q z L := zR_fld hR (by rw [hm7, mset_ne _ _ _ (by decide)]) (by rw [hm7, mset_ne _ _ _ (by decide)]) (by rw [hm7, mset_ne _ _ _ (by decide)]) (by rw [hm7, mset_ne2 _ _ (by decide)]) (by rw [hm7, mset_ne2 _ _ (by decide)])
          have hth : m7 0 0 = 1 := by rw [hm7, mset_at]
          refine z_if_ne_f (tgt := 71) E dX6_put_66 (by decide) (by decide) ?_
          refine z_iconst (v := 0) E dX6_put_69 (by decide) ?_
          exact z_iretM E hr hlocks (m7) rfl (Or.inl ⟨_, cm, (if_pos hL), hth, q, z, zR_mono (by omega) hR0⟩) (Nat.le_of_ble_eq_true rfl) (Nat.le_of_ble_eq_true rfl) dX6_put_70
        · skip
          rw [fIn_L1 hL]
          obtain ⟨k, hk, rfl⟩ := zx4 hL
          have ek : (nI k).toNatClampNeg = k := nI_clamp (by omega)
          refine z_if_ne_t (tgt := 53) E dX6_put_46 (by decide) (by decide) ?_
          refine z_iload E dX6_put_53 0 rfl ?_
          refine z_if_eq_f (tgt := 62) E dX6_put_55 (by decide) (by decide) ?_
          refine z_iconst (v := 0) E dX6_put_58 (by decide) ?_
          refine z_goto (tgt := 63) E dX6_put_59 (by decide) ?_
          refine z_callVi E hZ (k_holds l D am cI cR cS cL dg mem 0) gX6_put_X6_holds (n := 1) rfl rfl rfl (by decide +kernel) rfl ⟨(Nat.le_of_ble_eq_true rfl), (Nat.le_of_ble_eq_true rfl)⟩ (C := RX6) rfl 0 mw_obj (As := [.int 0]) (rest := []) rfl (Nat.le_of_ble_eq_true rfl) ⟨(Nat.le_of_ble_eq_true rfl), (Nat.le_of_ble_eq_true rfl)⟩ dX6_put_63 (fun r m8 hp => ?_)
          have hm8 := hp.2
          rw [hp.1, show (if (0 : Int32) = 0 then (1 : Int32) else 0) = 1 by decide]
          have hR0 : zR B cm m8 q z L := zR_fld hR (by rw [hm8, mset_ne _ _ _ (by decide)]) (by rw [hm8, mset_ne _ _ _ (by decide)]) (by rw [hm8, mset_ne _ _ _ (by decide)]) (by rw [hm8, mset_ne2 _ _ (by decide)]) (by rw [hm8, mset_ne2 _ _ (by decide)])
          have hth : m8 0 0 = 0 := by rw [hm8, mset_at]
          refine z_if_ne_t (tgt := 71) E dX6_put_66 (by decide) (by decide) ?_
          refine z_aload_n E dX6_put_71 rfl 1 rfl ?_
          refine z_callVv E hZ (k_msave l D am cI cR cS cL dg m8 hR0.2.1.2.1 hR0.2.1.2.2.2.2.1) gX6_put_X6_save (n := 0) rfl rfl rfl (by decide +kernel) rfl ⟨(Nat.le_of_ble_eq_true rfl), (Nat.le_of_ble_eq_true rfl)⟩ (C := RX6) rfl 0 mw_obj (As := []) (rest := []) rfl (Nat.le_of_ble_eq_true rfl) ⟨(Nat.le_of_ble_eq_true rfl), (Nat.le_of_ble_eq_true rfl)⟩ dX6_put_72 (fun m9 hp => ?_)
          have hR1 := zR_save hR0 hp.1 hp.2.2.2 hp.2.1 hp.2.2.1
          have th1 : m9 0 0 = 0 := by rw [hp.2.2.1, pk_un (by decide)]; exact hth
          obtain ⟨hok1, hS1⟩ := zSite_0 hR1.1
          refine z_aload_n E dX6_put_75 rfl 1 rfl ?_
          refine z_get E 0 mw_obj (C := RX6) (T := TX6) (N := 16) rfl (fun _ h => List.mem_cons_of_mem _ (List.mem_append_right _ h)) 1 (by decide) (List.mem_of_getElem? (i := 1) (by decide +kernel)) rfl (v := .ref (am 1)) rfl dX6_put_76 ?_
          refine z_iload_n E dX6_put_79 rfl 2 rfl ?_
          refine z_iconst (v := 0) E dX6_put_80 (by decide) ?_
          refine z_callSi E hZ (k_of l D am cI cR cS cL dg m9 (nI k) 0) gX6_put_X6_of (n := 2) rfl rfl rfl (by decide +kernel) rfl ⟨Nat.le_of_ble_eq_true rfl, Nat.le_of_ble_eq_true rfl⟩ (As := [.int (nI k), .int 0]) (rest := [.ref (am 1)]) rfl (Nat.le_of_ble_eq_true rfl) ⟨Nat.le_of_ble_eq_true rfl, Nat.le_of_ble_eq_true rfl⟩ dX6_put_81 (fun r u hp => ?_)
          rw [hp.1, hp.2]
          rw [zof k (y := 0) (w := 0) rfl]
          refine z_iload_n E dX6_put_84 rfl 3 rfl ?_
          refine z_iast E 1 0 mw_s rfl (vp_in_nI (by omega) (by decide)) (ws' := mw am cI dg (mset m9 1 (14 * k + 0) b)) (by rw [nI_clamp (by omega)]; exact (ms_s (14 * k + 0) b)) dX6_put_85 ?_
          refine z_gm2 (fun m10 hm10 => ?_)
          refine z_aload_n E dX6_put_86 rfl 1 rfl ?_
          refine z_get E 0 mw_obj (C := RX6) (T := TX6) (N := 16) rfl (fun _ h => List.mem_cons_of_mem _ (List.mem_append_right _ h)) 1 (by decide) (List.mem_of_getElem? (i := 1) (by decide +kernel)) rfl (v := .ref (am 1)) rfl dX6_put_87 ?_
          refine z_iload_n E dX6_put_90 rfl 2 rfl ?_
          refine z_iconst (v := 1) E dX6_put_91 (by decide) ?_
          refine z_callSi E hZ (k_of l D am cI cR cS cL dg m10 (nI k) 1) gX6_put_X6_of (n := 2) rfl rfl rfl (by decide +kernel) rfl ⟨Nat.le_of_ble_eq_true rfl, Nat.le_of_ble_eq_true rfl⟩ (As := [.int (nI k), .int 1]) (rest := [.ref (am 1)]) rfl (Nat.le_of_ble_eq_true rfl) ⟨Nat.le_of_ble_eq_true rfl, Nat.le_of_ble_eq_true rfl⟩ dX6_put_92 (fun r u hp => ?_)
          rw [hp.1, hp.2]
          rw [zof k (y := 1) (w := 1) rfl]
          refine z_iload_n E dX6_put_95 rfl 4 rfl ?_
          refine z_iast E 1 0 mw_s rfl (vp_in_nI (by omega) (by decide)) (ws' := mw am cI dg (mset m10 1 (14 * k + 1) h)) (by rw [nI_clamp (by omega)]; exact (ms_s (14 * k + 1) h)) dX6_put_96 ?_
          refine z_gm2 (fun m11 hm11 => ?_)
          refine z_aload_n E dX6_put_97 rfl 1 rfl ?_
          refine z_get E 0 mw_obj (C := RX6) (T := TX6) (N := 16) rfl (fun _ h => List.mem_cons_of_mem _ (List.mem_append_right _ h)) 1 (by decide) (List.mem_of_getElem? (i := 1) (by decide +kernel)) rfl (v := .ref (am 1)) rfl dX6_put_98 ?_
          refine z_iload_n E dX6_put_101 rfl 2 rfl ?_
          refine z_iconst (v := 2) E dX6_put_102 (by decide) ?_
          refine z_callSi E hZ (k_of l D am cI cR cS cL dg m11 (nI k) 2) gX6_put_X6_of (n := 2) rfl rfl rfl (by decide +kernel) rfl ⟨Nat.le_of_ble_eq_true rfl, Nat.le_of_ble_eq_true rfl⟩ (As := [.int (nI k), .int 2]) (rest := [.ref (am 1)]) rfl (Nat.le_of_ble_eq_true rfl) ⟨Nat.le_of_ble_eq_true rfl, Nat.le_of_ble_eq_true rfl⟩ dX6_put_103 (fun r u hp => ?_)
          rw [hp.1, hp.2]
          rw [zof k (y := 2) (w := 2) rfl]
          refine z_iload E dX6_put_106 5 rfl ?_
          refine z_iast E 1 0 mw_s rfl (vp_in_nI (by omega) (by decide)) (ws' := mw am cI dg (mset m11 1 (14 * k + 2) g)) (by rw [nI_clamp (by omega)]; exact (ms_s (14 * k + 2) g)) dX6_put_108 ?_
          refine z_gm2 (fun m12 hm12 => ?_)
          have hSx0 : zS (mset (sSave cm q z) (3 * k) 0 b) (m10 1) := zS_fld hk (by omega) hS1 (by rw [hm10, mset_self])
          have hok0x : zOK (mset (sSave cm q z) (3 * k) 0 b) := zOK_fld hok1 hk (by omega) ((rFd_in ((hok1 k hk).1)).1 hb)
          have hSx1 : zS (mset (mset (sSave cm q z) (3 * k) 0 b) (3 * k) 1 h) (m11 1) := zS_fld hk (by omega) hSx0 (by rw [hm11, mset_self])
          have hok1x : zOK (mset (mset (sSave cm q z) (3 * k) 0 b) (3 * k) 1 h) := zOK_fld hok0x hk (by omega) ((rFd_in ((hok0x k hk).1)).2.1 hh)
          have hSx2 : zS (mset (mset (mset (sSave cm q z) (3 * k) 0 b) (3 * k) 1 h) (3 * k) 2 g) (m12 1) := zS_fld hk (by omega) hSx1 (by rw [hm12, mset_self])
          have hok2x : zOK (mset (mset (mset (sSave cm q z) (3 * k) 0 b) (3 * k) 1 h) (3 * k) 2 g) := zOK_fld hok1x hk (by omega) ((rFd_in ((hok1x k hk).1)).2.2.1 hg)
          have hSz := hSx2
          have hokz := hok2x
          have frz : zFr m9 m12 := by rw [hm12, hm11, hm10]; exact (((zFr_s _ _ _).trans (zFr_s _ _ _)).trans (zFr_s _ _ _))
          refine z_aload_n E dX6_put_109 rfl 1 rfl ?_
          refine z_iload_n E dX6_put_110 rfl 2 rfl ?_
          refine z_callVi E hZ (k_mfalls l D am cI cR cS cL dg m12 hokz hSz hk) gX6_put_X6_falls (n := 1) rfl rfl rfl (by decide +kernel) rfl ⟨(Nat.le_of_ble_eq_true rfl), (Nat.le_of_ble_eq_true rfl)⟩ (C := RX6) rfl 0 mw_obj (As := [.int (nI k)]) (rest := []) rfl (Nat.le_of_ble_eq_true rfl) ⟨(Nat.le_of_ble_eq_true rfl), (Nat.le_of_ble_eq_true rfl)⟩ dX6_put_111 (fun r m13 hp => ?_)
          rw [hp.1]
          have frm13 := hp.2.1
          have hSm13 := hp.2.2
          refine z_if_eq (tgt := 121) E dX6_put_114 (by decide) (fun c114 => ?_) (fun c114 => ?_)
          · skip
            refine z_iconst (v := 0) E dX6_put_121 (by decide) ?_
            exact z_iretM E hr hlocks (m13) rfl (Or.inr ⟨_, _, ((if_neg hL).trans ((if_neg hb).trans ((if_neg hh).trans ((if_neg hg).trans (by rw [ek]; exact (zO_eq c114 rfl)))))), by rw [frm13.2.2 0 (by omega), hm12, mset_ne _ _ _ (by decide), hm11, mset_ne _ _ _ (by decide), hm10, mset_ne _ _ _ (by decide)]; exact th1, rfl, _, _, zR_tail hk hR1 (fun i hi => by rw [mset_ne _ _ _ (by omega), mset_ne _ _ _ (by omega), mset_ne _ _ _ (by omega)]) hokz hSm13 frz frm13⟩) (Nat.le_of_ble_eq_true rfl) (Nat.le_of_ble_eq_true rfl) dX6_put_122
          · skip
            refine z_iconst (v := 1) E dX6_put_117 (by decide) ?_
            refine z_goto (tgt := 122) E dX6_put_118 (by decide) ?_
            exact z_iretM E hr hlocks (m13) rfl (Or.inr ⟨_, _, ((if_neg hL).trans ((if_neg hb).trans ((if_neg hh).trans ((if_neg hg).trans (by rw [ek]; exact (zO_eq ((fFN_01 _).resolve_left c114) rfl)))))), by rw [frm13.2.2 0 (by omega), hm12, mset_ne _ _ _ (by decide), hm11, mset_ne _ _ _ (by decide), hm10, mset_ne _ _ _ (by decide)]; exact th1, rfl, _, _, zR_tail hk hR1 (fun i hi => by rw [mset_ne _ _ _ (by omega), mset_ne _ _ _ (by omega), mset_ne _ _ _ (by omega)]) hokz hSm13 frz frm13⟩) (Nat.le_of_ble_eq_true rfl) (Nat.le_of_ble_eq_true rfl) dX6_put_122
set_option maxHeartbeats 1000000 in
set_option maxRecDepth 100000 in
theorem k_mkinds (l : Launch) (D : va_G) (am : Nat → Nat) (cI cR cS cL : ClassId) (dg : Int64) (mem : zM) {B : Nat} {cm : zM} {q z L : Nat} (hR : zR B cm mem q z L) (x b h : Int32) : zMi l yX6_kinds wsX6_kinds ({ frames := 5, cells := 0, slots := 0, locals := 119 }) D (cK cI cR cS cL) [.ref (am 0), .int x, .int b, .int h] (mw am cI dg mem) (fun r u => mAns cdL (fun c' => ∃ q' z', zR (B + 180) c' u q' z' L) (sKinds cm q z x b h) r (u 0 0)) (mw am cI dg) 0 0 := by
  refine zMiM.of (cc := cX6_kinds) (maxL := 4) (ret := (some .int)) (by decide +kernel) rfl (lv0 := [(0, .ref (am 0)), (1, .int x), (2, .int b), (3, .int h)]) (Nat.le_of_ble_eq_true rfl) rfl ?_
  intro p e s m args below meth c E hZ hr hlocks hnm
  refine z_aload_n E dX6_kinds_0 rfl 0 rfl ?_
  refine z_iload_n E dX6_kinds_1 rfl 1 rfl ?_
  refine z_callSi E hZ (k_isLadder l D am cI cR cS cL dg mem x) gX6_kinds_X6_isLadder (n := 1) rfl rfl rfl (by decide +kernel) rfl ⟨Nat.le_of_ble_eq_true rfl, Nat.le_of_ble_eq_true rfl⟩ (As := [.int x]) (rest := [.ref (am 0)]) rfl (Nat.le_of_ble_eq_true rfl) ⟨Nat.le_of_ble_eq_true rfl, Nat.le_of_ble_eq_true rfl⟩ dX6_kinds_2 (fun r u hp => ?_)
  rw [hp.1, hp.2]
  by_cases hL : x < 0 ∨ 4 ≤ x
  · skip
    rw [fIn_L0 hL]
    refine z_if_ne_f (tgt := 12) E dX6_kinds_5 (by decide) (by decide) ?_
    refine z_iconst (v := 1) E dX6_kinds_8 (by decide) ?_
    refine z_goto (tgt := 35) E dX6_kinds_9 (by decide) ?_
    refine z_callVi E hZ (k_holds l D am cI cR cS cL dg mem 1) gX6_kinds_X6_holds (n := 1) rfl rfl rfl (by decide +kernel) rfl ⟨(Nat.le_of_ble_eq_true rfl), (Nat.le_of_ble_eq_true rfl)⟩ (C := RX6) rfl 0 mw_obj (As := [.int 1]) (rest := []) rfl (Nat.le_of_ble_eq_true rfl) ⟨(Nat.le_of_ble_eq_true rfl), (Nat.le_of_ble_eq_true rfl)⟩ dX6_kinds_35 (fun r m1 hp => ?_)
    have hm1 := hp.2
    rw [hp.1, show (if (1 : Int32) = 0 then (1 : Int32) else 0) = 0 by decide]
    have hR0 : zR B cm m1 q z L := zR_fld hR (by rw [hm1, mset_ne _ _ _ (by decide)]) (by rw [hm1, mset_ne _ _ _ (by decide)]) (by rw [hm1, mset_ne _ _ _ (by decide)]) (by rw [hm1, mset_ne2 _ _ (by decide)]) (by rw [hm1, mset_ne2 _ _ (by decide)])
    have hth : m1 0 0 = 1 := by rw [hm1, mset_at]
    refine z_if_ne_f (tgt := 43) E dX6_kinds_38 (by decide) (by decide) ?_
    refine z_iconst (v := 0) E dX6_kinds_41 (by decide) ?_
    exact z_iretM E hr hlocks (m1) rfl (Or.inl ⟨_, cm, (if_pos hL), hth, q, z, zR_mono (by omega) hR0⟩) (Nat.le_of_ble_eq_true rfl) (Nat.le_of_ble_eq_true rfl) dX6_kinds_42
  · skip
    rw [fIn_L1 hL]
    obtain ⟨k, hk, rfl⟩ := zx4 hL
    have ek : (nI k).toNatClampNeg = k := nI_clamp (by omega)
    refine z_if_ne_t (tgt := 12) E dX6_kinds_5 (by decide) (by decide) ?_
    refine z_iload_n E dX6_kinds_12 rfl 2 rfl ?_
    refine z_iconst (v := 0) E dX6_kinds_13 (by decide) ?_
    refine z_iconst (v := 3) E dX6_kinds_14 (by decide) ?_
    refine z_callSi E hZ (k_in l D am cI cR cS cL dg mem b 0 3) gX6_kinds_X6_in (n := 3) rfl rfl rfl (by decide +kernel) rfl ⟨Nat.le_of_ble_eq_true rfl, Nat.le_of_ble_eq_true rfl⟩ (As := [.int b, .int 0, .int 3]) (rest := [.ref (am 0)]) rfl (Nat.le_of_ble_eq_true rfl) ⟨Nat.le_of_ble_eq_true rfl, Nat.le_of_ble_eq_true rfl⟩ dX6_kinds_15 (fun r u hp => ?_)
    rw [hp.1, hp.2]
    by_cases hb : b < 0 ∨ 3 < b
    · skip
      rw [fIn_0 hb]
      refine z_if_eq_t (tgt := 34) E dX6_kinds_18 (by decide) (by decide) ?_
      refine z_iconst (v := 2) E dX6_kinds_34 (by decide) ?_
      refine z_callVi E hZ (k_holds l D am cI cR cS cL dg mem 2) gX6_kinds_X6_holds (n := 1) rfl rfl rfl (by decide +kernel) rfl ⟨(Nat.le_of_ble_eq_true rfl), (Nat.le_of_ble_eq_true rfl)⟩ (C := RX6) rfl 0 mw_obj (As := [.int 2]) (rest := []) rfl (Nat.le_of_ble_eq_true rfl) ⟨(Nat.le_of_ble_eq_true rfl), (Nat.le_of_ble_eq_true rfl)⟩ dX6_kinds_35 (fun r m2 hp => ?_)
      have hm2 := hp.2
      rw [hp.1, show (if (2 : Int32) = 0 then (1 : Int32) else 0) = 0 by decide]
      have hR0 : zR B cm m2 q z L := zR_fld hR (by rw [hm2, mset_ne _ _ _ (by decide)]) (by rw [hm2, mset_ne _ _ _ (by decide)]) (by rw [hm2, mset_ne _ _ _ (by decide)]) (by rw [hm2, mset_ne2 _ _ (by decide)]) (by rw [hm2, mset_ne2 _ _ (by decide)])
      have hth : m2 0 0 = 2 := by rw [hm2, mset_at]
      refine z_if_ne_f (tgt := 43) E dX6_kinds_38 (by decide) (by decide) ?_
      refine z_iconst (v := 0) E dX6_kinds_41 (by decide) ?_
      exact z_iretM E hr hlocks (m2) rfl (Or.inl ⟨_, cm, ((if_neg hL).trans (if_pos hb)), hth, q, z, zR_mono (by omega) hR0⟩) (Nat.le_of_ble_eq_true rfl) (Nat.le_of_ble_eq_true rfl) dX6_kinds_42
    · skip
      rw [fIn_1 hb]
      refine z_if_eq_f (tgt := 34) E dX6_kinds_18 (by decide) (by decide) ?_
      refine z_iload_n E dX6_kinds_21 rfl 3 rfl ?_
      refine z_iconst (v := 0) E dX6_kinds_22 (by decide) ?_
      refine z_iconst (v := 3) E dX6_kinds_23 (by decide) ?_
      refine z_callSi E hZ (k_in l D am cI cR cS cL dg mem h 0 3) gX6_kinds_X6_in (n := 3) rfl rfl rfl (by decide +kernel) rfl ⟨Nat.le_of_ble_eq_true rfl, Nat.le_of_ble_eq_true rfl⟩ (As := [.int h, .int 0, .int 3]) (rest := [.ref (am 0)]) rfl (Nat.le_of_ble_eq_true rfl) ⟨Nat.le_of_ble_eq_true rfl, Nat.le_of_ble_eq_true rfl⟩ dX6_kinds_24 (fun r u hp => ?_)
      rw [hp.1, hp.2]
      by_cases hh : h < 0 ∨ 3 < h
      · skip
        rw [fIn_0 hh]
        refine z_if_eq_t (tgt := 34) E dX6_kinds_27 (by decide) (by decide) ?_
        refine z_iconst (v := 2) E dX6_kinds_34 (by decide) ?_
        refine z_callVi E hZ (k_holds l D am cI cR cS cL dg mem 2) gX6_kinds_X6_holds (n := 1) rfl rfl rfl (by decide +kernel) rfl ⟨(Nat.le_of_ble_eq_true rfl), (Nat.le_of_ble_eq_true rfl)⟩ (C := RX6) rfl 0 mw_obj (As := [.int 2]) (rest := []) rfl (Nat.le_of_ble_eq_true rfl) ⟨(Nat.le_of_ble_eq_true rfl), (Nat.le_of_ble_eq_true rfl)⟩ dX6_kinds_35 (fun r m3 hp => ?_)
        have hm3 := hp.2
        rw [hp.1, show (if (2 : Int32) = 0 then (1 : Int32) else 0) = 0 by decide]
        have hR0 : zR B cm m3 q z L := zR_fld hR (by rw [hm3, mset_ne _ _ _ (by decide)]) (by rw [hm3, mset_ne _ _ _ (by decide)]) (by rw [hm3, mset_ne _ _ _ (by decide)]) (by rw [hm3, mset_ne2 _ _ (by decide)]) (by rw [hm3, mset_ne2 _ _ (by decide)])
        have hth : m3 0 0 = 2 := by rw [hm3, mset_at]
        refine z_if_ne_f (tgt := 43) E dX6_kinds_38 (by decide) (by decide) ?_
        refine z_iconst (v := 0) E dX6_kinds_41 (by decide) ?_
        exact z_iretM E hr hlocks (m3) rfl (Or.inl ⟨_, cm, ((if_neg hL).trans ((if_neg hb).trans (if_pos hh))), hth, q, z, zR_mono (by omega) hR0⟩) (Nat.le_of_ble_eq_true rfl) (Nat.le_of_ble_eq_true rfl) dX6_kinds_42
      · skip
        rw [fIn_1 hh]
        refine z_if_eq_f (tgt := 34) E dX6_kinds_27 (by decide) (by decide) ?_
        refine z_iconst (v := 0) E dX6_kinds_30 (by decide) ?_
        refine z_goto (tgt := 35) E dX6_kinds_31 (by decide) ?_
        refine z_callVi E hZ (k_holds l D am cI cR cS cL dg mem 0) gX6_kinds_X6_holds (n := 1) rfl rfl rfl (by decide +kernel) rfl ⟨(Nat.le_of_ble_eq_true rfl), (Nat.le_of_ble_eq_true rfl)⟩ (C := RX6) rfl 0 mw_obj (As := [.int 0]) (rest := []) rfl (Nat.le_of_ble_eq_true rfl) ⟨(Nat.le_of_ble_eq_true rfl), (Nat.le_of_ble_eq_true rfl)⟩ dX6_kinds_35 (fun r m4 hp => ?_)
        have hm4 := hp.2
        rw [hp.1, show (if (0 : Int32) = 0 then (1 : Int32) else 0) = 1 by decide]
        have hR0 : zR B cm m4 q z L := zR_fld hR (by rw [hm4, mset_ne _ _ _ (by decide)]) (by rw [hm4, mset_ne _ _ _ (by decide)]) (by rw [hm4, mset_ne _ _ _ (by decide)]) (by rw [hm4, mset_ne2 _ _ (by decide)]) (by rw [hm4, mset_ne2 _ _ (by decide)])
        have hth : m4 0 0 = 0 := by rw [hm4, mset_at]
        refine z_if_ne_t (tgt := 43) E dX6_kinds_38 (by decide) (by decide) ?_
        refine z_aload_n E dX6_kinds_43 rfl 0 rfl ?_
        refine z_callVv E hZ (k_msave l D am cI cR cS cL dg m4 hR0.2.1.2.1 hR0.2.1.2.2.2.2.1) gX6_kinds_X6_save (n := 0) rfl rfl rfl (by decide +kernel) rfl ⟨(Nat.le_of_ble_eq_true rfl), (Nat.le_of_ble_eq_true rfl)⟩ (C := RX6) rfl 0 mw_obj (As := []) (rest := []) rfl (Nat.le_of_ble_eq_true rfl) ⟨(Nat.le_of_ble_eq_true rfl), (Nat.le_of_ble_eq_true rfl)⟩ dX6_kinds_44 (fun m5 hp => ?_)
        have hR1 := zR_save hR0 hp.1 hp.2.2.2 hp.2.1 hp.2.2.1
        have th1 : m5 0 0 = 0 := by rw [hp.2.2.1, pk_un (by decide)]; exact hth
        obtain ⟨hok1, hS1⟩ := zSite_0 hR1.1
        refine z_aload_n E dX6_kinds_47 rfl 0 rfl ?_
        refine z_get E 0 mw_obj (C := RX6) (T := TX6) (N := 16) rfl (fun _ h => List.mem_cons_of_mem _ (List.mem_append_right _ h)) 1 (by decide) (List.mem_of_getElem? (i := 1) (by decide +kernel)) rfl (v := .ref (am 1)) rfl dX6_kinds_48 ?_
        refine z_iload_n E dX6_kinds_51 rfl 1 rfl ?_
        refine z_iconst (v := 3) E dX6_kinds_52 (by decide) ?_
        refine z_callSi E hZ (k_of l D am cI cR cS cL dg m5 (nI k) 3) gX6_kinds_X6_of (n := 2) rfl rfl rfl (by decide +kernel) rfl ⟨Nat.le_of_ble_eq_true rfl, Nat.le_of_ble_eq_true rfl⟩ (As := [.int (nI k), .int 3]) (rest := [.ref (am 1)]) rfl (Nat.le_of_ble_eq_true rfl) ⟨Nat.le_of_ble_eq_true rfl, Nat.le_of_ble_eq_true rfl⟩ dX6_kinds_53 (fun r u hp => ?_)
        rw [hp.1, hp.2]
        rw [zof k (y := 3) (w := 3) rfl]
        refine z_iload_n E dX6_kinds_56 rfl 2 rfl ?_
        refine z_iast E 1 0 mw_s rfl (vp_in_nI (by omega) (by decide)) (ws' := mw am cI dg (mset m5 1 (14 * k + 3) b)) (by rw [nI_clamp (by omega)]; exact (ms_s (14 * k + 3) b)) dX6_kinds_57 ?_
        refine z_gm2 (fun m6 hm6 => ?_)
        refine z_aload_n E dX6_kinds_58 rfl 0 rfl ?_
        refine z_get E 0 mw_obj (C := RX6) (T := TX6) (N := 16) rfl (fun _ h => List.mem_cons_of_mem _ (List.mem_append_right _ h)) 1 (by decide) (List.mem_of_getElem? (i := 1) (by decide +kernel)) rfl (v := .ref (am 1)) rfl dX6_kinds_59 ?_
        refine z_iload_n E dX6_kinds_62 rfl 1 rfl ?_
        refine z_iconst (v := 4) E dX6_kinds_63 (by decide) ?_
        refine z_callSi E hZ (k_of l D am cI cR cS cL dg m6 (nI k) 4) gX6_kinds_X6_of (n := 2) rfl rfl rfl (by decide +kernel) rfl ⟨Nat.le_of_ble_eq_true rfl, Nat.le_of_ble_eq_true rfl⟩ (As := [.int (nI k), .int 4]) (rest := [.ref (am 1)]) rfl (Nat.le_of_ble_eq_true rfl) ⟨Nat.le_of_ble_eq_true rfl, Nat.le_of_ble_eq_true rfl⟩ dX6_kinds_64 (fun r u hp => ?_)
        rw [hp.1, hp.2]
        rw [zof k (y := 4) (w := 4) rfl]
        refine z_iload_n E dX6_kinds_67 rfl 3 rfl ?_
        refine z_iast E 1 0 mw_s rfl (vp_in_nI (by omega) (by decide)) (ws' := mw am cI dg (mset m6 1 (14 * k + 4) h)) (by rw [nI_clamp (by omega)]; exact (ms_s (14 * k + 4) h)) dX6_kinds_68 ?_
        refine z_gm2 (fun m7 hm7 => ?_)
        have hSx0 : zS (mset (sSave cm q z) (3 * k) 3 b) (m6 1) := zS_fld hk (by omega) hS1 (by rw [hm6, mset_self])
        have hok0x : zOK (mset (sSave cm q z) (3 * k) 3 b) := zOK_fld hok1 hk (by omega) (((rFd_in ((hok1 k hk).1)).2.2.2.1 hb).1)
        have hSx1 : zS (mset (mset (sSave cm q z) (3 * k) 3 b) (3 * k) 4 h) (m7 1) := zS_fld hk (by omega) hSx0 (by rw [hm7, mset_self])
        have hok1x : zOK (mset (mset (sSave cm q z) (3 * k) 3 b) (3 * k) 4 h) := zOK_fld hok0x hk (by omega) (((rFd_in ((hok0x k hk).1)).2.2.2.1 hh).2)
        have hSz := hSx1
        have hokz := hok1x
        have frz : zFr m5 m7 := by rw [hm7, hm6]; exact ((zFr_s _ _ _).trans (zFr_s _ _ _))
        refine z_aload_n E dX6_kinds_69 rfl 0 rfl ?_
        refine z_iload_n E dX6_kinds_70 rfl 1 rfl ?_
        refine z_callVi E hZ (k_mfalls l D am cI cR cS cL dg m7 hokz hSz hk) gX6_kinds_X6_falls (n := 1) rfl rfl rfl (by decide +kernel) rfl ⟨(Nat.le_of_ble_eq_true rfl), (Nat.le_of_ble_eq_true rfl)⟩ (C := RX6) rfl 0 mw_obj (As := [.int (nI k)]) (rest := []) rfl (Nat.le_of_ble_eq_true rfl) ⟨(Nat.le_of_ble_eq_true rfl), (Nat.le_of_ble_eq_true rfl)⟩ dX6_kinds_71 (fun r m8 hp => ?_)
        rw [hp.1]
        have frm8 := hp.2.1
        have hSm8 := hp.2.2
        refine z_if_eq (tgt := 81) E dX6_kinds_74 (by decide) (fun c74 => ?_) (fun c74 => ?_)
        · skip
          refine z_iconst (v := 0) E dX6_kinds_81 (by decide) ?_
          exact z_iretM E hr hlocks (m8) rfl (Or.inr ⟨_, _, ((if_neg hL).trans ((if_neg hb).trans ((if_neg hh).trans (by rw [ek]; exact (zO_eq c74 rfl))))), by rw [frm8.2.2 0 (by omega), hm7, mset_ne _ _ _ (by decide), hm6, mset_ne _ _ _ (by decide)]; exact th1, rfl, _, _, zR_tail hk hR1 (fun i hi => by rw [mset_ne _ _ _ (by omega), mset_ne _ _ _ (by omega)]) hokz hSm8 frz frm8⟩) (Nat.le_of_ble_eq_true rfl) (Nat.le_of_ble_eq_true rfl) dX6_kinds_82
        · skip
          refine z_iconst (v := 1) E dX6_kinds_77 (by decide) ?_
          refine z_goto (tgt := 82) E dX6_kinds_78 (by decide) ?_
          exact z_iretM E hr hlocks (m8) rfl (Or.inr ⟨_, _, ((if_neg hL).trans ((if_neg hb).trans ((if_neg hh).trans (by rw [ek]; exact (zO_eq ((fFN_01 _).resolve_left c74) rfl))))), by rw [frm8.2.2 0 (by omega), hm7, mset_ne _ _ _ (by decide), hm6, mset_ne _ _ _ (by decide)]; exact th1, rfl, _, _, zR_tail hk hR1 (fun i hi => by rw [mset_ne _ _ _ (by omega), mset_ne _ _ _ (by omega)]) hokz hSm8 frz frm8⟩) (Nat.le_of_ble_eq_true rfl) (Nat.le_of_ble_eq_true rfl) dX6_kinds_82
set_option maxHeartbeats 1000000 in
set_option maxRecDepth 100000 in
theorem k_mrope (l : Launch) (D : va_G) (am : Nat → Nat) (cI cR cS cL : ClassId) (dg : Int64) (mem : zM) {B : Nat} {cm : zM} {q z L : Nat} (hR : zR B cm mem q z L) (x b : Int32) : zMi l yX6_rope wsX6_rope ({ frames := 5, cells := 0, slots := 0, locals := 119 }) D (cK cI cR cS cL) [.ref (am 0), .int x, .int b] (mw am cI dg mem) (fun r u => mAns cdL (fun c' => ∃ q' z', zR (B + 180) c' u q' z' L) (sRope cm q z x b) r (u 0 0)) (mw am cI dg) 0 0 := by
  refine zMiM.of (cc := cX6_rope) (maxL := 3) (ret := (some .int)) (by decide +kernel) rfl (lv0 := [(0, .ref (am 0)), (1, .int x), (2, .int b)]) (Nat.le_of_ble_eq_true rfl) rfl ?_
  intro p e s m args below meth c E hZ hr hlocks hnm
  refine z_aload_n E dX6_rope_0 rfl 0 rfl ?_
  refine z_iload_n E dX6_rope_1 rfl 1 rfl ?_
  refine z_callSi E hZ (k_isLadder l D am cI cR cS cL dg mem x) gX6_rope_X6_isLadder (n := 1) rfl rfl rfl (by decide +kernel) rfl ⟨Nat.le_of_ble_eq_true rfl, Nat.le_of_ble_eq_true rfl⟩ (As := [.int x]) (rest := [.ref (am 0)]) rfl (Nat.le_of_ble_eq_true rfl) ⟨Nat.le_of_ble_eq_true rfl, Nat.le_of_ble_eq_true rfl⟩ dX6_rope_2 (fun r u hp => ?_)
  rw [hp.1, hp.2]
  by_cases hL : x < 0 ∨ 4 ≤ x
  · skip
    rw [fIn_L0 hL]
    refine z_if_ne_f (tgt := 12) E dX6_rope_5 (by decide) (by decide) ?_
    refine z_iconst (v := 1) E dX6_rope_8 (by decide) ?_
    refine z_goto (tgt := 28) E dX6_rope_9 (by decide) ?_
    refine z_callVi E hZ (k_holds l D am cI cR cS cL dg mem 1) gX6_rope_X6_holds (n := 1) rfl rfl rfl (by decide +kernel) rfl ⟨(Nat.le_of_ble_eq_true rfl), (Nat.le_of_ble_eq_true rfl)⟩ (C := RX6) rfl 0 mw_obj (As := [.int 1]) (rest := []) rfl (Nat.le_of_ble_eq_true rfl) ⟨(Nat.le_of_ble_eq_true rfl), (Nat.le_of_ble_eq_true rfl)⟩ dX6_rope_28 (fun r m1 hp => ?_)
    have hm1 := hp.2
    rw [hp.1, show (if (1 : Int32) = 0 then (1 : Int32) else 0) = 0 by decide]
    have hR0 : zR B cm m1 q z L := zR_fld hR (by rw [hm1, mset_ne _ _ _ (by decide)]) (by rw [hm1, mset_ne _ _ _ (by decide)]) (by rw [hm1, mset_ne _ _ _ (by decide)]) (by rw [hm1, mset_ne2 _ _ (by decide)]) (by rw [hm1, mset_ne2 _ _ (by decide)])
    have hth : m1 0 0 = 1 := by rw [hm1, mset_at]
    refine z_if_ne_f (tgt := 36) E dX6_rope_31 (by decide) (by decide) ?_
    refine z_iconst (v := 0) E dX6_rope_34 (by decide) ?_
    exact z_iretM E hr hlocks (m1) rfl (Or.inl ⟨_, cm, (if_pos hL), hth, q, z, zR_mono (by omega) hR0⟩) (Nat.le_of_ble_eq_true rfl) (Nat.le_of_ble_eq_true rfl) dX6_rope_35
  · skip
    rw [fIn_L1 hL]
    obtain ⟨k, hk, rfl⟩ := zx4 hL
    have ek : (nI k).toNatClampNeg = k := nI_clamp (by omega)
    refine z_if_ne_t (tgt := 12) E dX6_rope_5 (by decide) (by decide) ?_
    refine z_iload_n E dX6_rope_12 rfl 2 rfl ?_
    refine z_iconst (v := 0) E dX6_rope_13 (by decide) ?_
    refine z_sipush (v := 200) E dX6_rope_14 (by decide) ?_
    refine z_callSi E hZ (k_in l D am cI cR cS cL dg mem b 0 200) gX6_rope_X6_in (n := 3) rfl rfl rfl (by decide +kernel) rfl ⟨Nat.le_of_ble_eq_true rfl, Nat.le_of_ble_eq_true rfl⟩ (As := [.int b, .int 0, .int 200]) (rest := [.ref (am 0)]) rfl (Nat.le_of_ble_eq_true rfl) ⟨Nat.le_of_ble_eq_true rfl, Nat.le_of_ble_eq_true rfl⟩ dX6_rope_17 (fun r u hp => ?_)
    rw [hp.1, hp.2]
    by_cases hb : b < 0 ∨ 200 < b
    · skip
      rw [fIn_0 hb]
      refine z_if_eq_t (tgt := 27) E dX6_rope_20 (by decide) (by decide) ?_
      refine z_iconst (v := 2) E dX6_rope_27 (by decide) ?_
      refine z_callVi E hZ (k_holds l D am cI cR cS cL dg mem 2) gX6_rope_X6_holds (n := 1) rfl rfl rfl (by decide +kernel) rfl ⟨(Nat.le_of_ble_eq_true rfl), (Nat.le_of_ble_eq_true rfl)⟩ (C := RX6) rfl 0 mw_obj (As := [.int 2]) (rest := []) rfl (Nat.le_of_ble_eq_true rfl) ⟨(Nat.le_of_ble_eq_true rfl), (Nat.le_of_ble_eq_true rfl)⟩ dX6_rope_28 (fun r m2 hp => ?_)
      have hm2 := hp.2
      rw [hp.1, show (if (2 : Int32) = 0 then (1 : Int32) else 0) = 0 by decide]
      have hR0 : zR B cm m2 q z L := zR_fld hR (by rw [hm2, mset_ne _ _ _ (by decide)]) (by rw [hm2, mset_ne _ _ _ (by decide)]) (by rw [hm2, mset_ne _ _ _ (by decide)]) (by rw [hm2, mset_ne2 _ _ (by decide)]) (by rw [hm2, mset_ne2 _ _ (by decide)])
      have hth : m2 0 0 = 2 := by rw [hm2, mset_at]
      refine z_if_ne_f (tgt := 36) E dX6_rope_31 (by decide) (by decide) ?_
      refine z_iconst (v := 0) E dX6_rope_34 (by decide) ?_
      exact z_iretM E hr hlocks (m2) rfl (Or.inl ⟨_, cm, ((if_neg hL).trans (if_pos hb)), hth, q, z, zR_mono (by omega) hR0⟩) (Nat.le_of_ble_eq_true rfl) (Nat.le_of_ble_eq_true rfl) dX6_rope_35
    · skip
      rw [fIn_1 hb]
      refine z_if_eq_f (tgt := 27) E dX6_rope_20 (by decide) (by decide) ?_
      refine z_iconst (v := 0) E dX6_rope_23 (by decide) ?_
      refine z_goto (tgt := 28) E dX6_rope_24 (by decide) ?_
      refine z_callVi E hZ (k_holds l D am cI cR cS cL dg mem 0) gX6_rope_X6_holds (n := 1) rfl rfl rfl (by decide +kernel) rfl ⟨(Nat.le_of_ble_eq_true rfl), (Nat.le_of_ble_eq_true rfl)⟩ (C := RX6) rfl 0 mw_obj (As := [.int 0]) (rest := []) rfl (Nat.le_of_ble_eq_true rfl) ⟨(Nat.le_of_ble_eq_true rfl), (Nat.le_of_ble_eq_true rfl)⟩ dX6_rope_28 (fun r m3 hp => ?_)
      have hm3 := hp.2
      rw [hp.1, show (if (0 : Int32) = 0 then (1 : Int32) else 0) = 1 by decide]
      have hR0 : zR B cm m3 q z L := zR_fld hR (by rw [hm3, mset_ne _ _ _ (by decide)]) (by rw [hm3, mset_ne _ _ _ (by decide)]) (by rw [hm3, mset_ne _ _ _ (by decide)]) (by rw [hm3, mset_ne2 _ _ (by decide)]) (by rw [hm3, mset_ne2 _ _ (by decide)])
      have hth : m3 0 0 = 0 := by rw [hm3, mset_at]
      refine z_if_ne_t (tgt := 36) E dX6_rope_31 (by decide) (by decide) ?_
      refine z_aload_n E dX6_rope_36 rfl 0 rfl ?_
      refine z_callVv E hZ (k_msave l D am cI cR cS cL dg m3 hR0.2.1.2.1 hR0.2.1.2.2.2.2.1) gX6_rope_X6_save (n := 0) rfl rfl rfl (by decide +kernel) rfl ⟨(Nat.le_of_ble_eq_true rfl), (Nat.le_of_ble_eq_true rfl)⟩ (C := RX6) rfl 0 mw_obj (As := []) (rest := []) rfl (Nat.le_of_ble_eq_true rfl) ⟨(Nat.le_of_ble_eq_true rfl), (Nat.le_of_ble_eq_true rfl)⟩ dX6_rope_37 (fun m4 hp => ?_)
      have hR1 := zR_save hR0 hp.1 hp.2.2.2 hp.2.1 hp.2.2.1
      have th1 : m4 0 0 = 0 := by rw [hp.2.2.1, pk_un (by decide)]; exact hth
      obtain ⟨hok1, hS1⟩ := zSite_0 hR1.1
      refine z_aload_n E dX6_rope_40 rfl 0 rfl ?_
      refine z_get E 0 mw_obj (C := RX6) (T := TX6) (N := 16) rfl (fun _ h => List.mem_cons_of_mem _ (List.mem_append_right _ h)) 1 (by decide) (List.mem_of_getElem? (i := 1) (by decide +kernel)) rfl (v := .ref (am 1)) rfl dX6_rope_41 ?_
      refine z_iload_n E dX6_rope_44 rfl 1 rfl ?_
      refine z_iconst (v := 5) E dX6_rope_45 (by decide) ?_
      refine z_callSi E hZ (k_of l D am cI cR cS cL dg m4 (nI k) 5) gX6_rope_X6_of (n := 2) rfl rfl rfl (by decide +kernel) rfl ⟨Nat.le_of_ble_eq_true rfl, Nat.le_of_ble_eq_true rfl⟩ (As := [.int (nI k), .int 5]) (rest := [.ref (am 1)]) rfl (Nat.le_of_ble_eq_true rfl) ⟨Nat.le_of_ble_eq_true rfl, Nat.le_of_ble_eq_true rfl⟩ dX6_rope_46 (fun r u hp => ?_)
      rw [hp.1, hp.2]
      rw [zof k (y := 5) (w := 5) rfl]
      refine z_iload_n E dX6_rope_49 rfl 2 rfl ?_
      refine z_iast E 1 0 mw_s rfl (vp_in_nI (by omega) (by decide)) (ws' := mw am cI dg (mset m4 1 (14 * k + 5) b)) (by rw [nI_clamp (by omega)]; exact (ms_s (14 * k + 5) b)) dX6_rope_50 ?_
      refine z_gm2 (fun m5 hm5 => ?_)
      have hSx0 : zS (mset (sSave cm q z) (3 * k) 5 b) (m5 1) := zS_fld hk (by omega) hS1 (by rw [hm5, mset_self])
      have hok0x : zOK (mset (sSave cm q z) (3 * k) 5 b) := zOK_fld hok1 hk (by omega) ((rFd_in ((hok1 k hk).1)).2.2.2.2 hb)
      have hSz := hSx0
      have hokz := hok0x
      have frz : zFr m4 m5 := by rw [hm5]; exact (zFr_s _ _ _)
      refine z_aload_n E dX6_rope_51 rfl 0 rfl ?_
      refine z_iload_n E dX6_rope_52 rfl 1 rfl ?_
      refine z_callVi E hZ (k_mfalls l D am cI cR cS cL dg m5 hokz hSz hk) gX6_rope_X6_falls (n := 1) rfl rfl rfl (by decide +kernel) rfl ⟨(Nat.le_of_ble_eq_true rfl), (Nat.le_of_ble_eq_true rfl)⟩ (C := RX6) rfl 0 mw_obj (As := [.int (nI k)]) (rest := []) rfl (Nat.le_of_ble_eq_true rfl) ⟨(Nat.le_of_ble_eq_true rfl), (Nat.le_of_ble_eq_true rfl)⟩ dX6_rope_53 (fun r m6 hp => ?_)
      rw [hp.1]
      have frm6 := hp.2.1
      have hSm6 := hp.2.2
      refine z_if_eq (tgt := 63) E dX6_rope_56 (by decide) (fun c56 => ?_) (fun c56 => ?_)
      · skip
        refine z_iconst (v := 0) E dX6_rope_63 (by decide) ?_
        exact z_iretM E hr hlocks (m6) rfl (Or.inr ⟨_, _, ((if_neg hL).trans ((if_neg hb).trans (by rw [ek]; exact (zO_eq c56 rfl)))), by rw [frm6.2.2 0 (by omega), hm5, mset_ne _ _ _ (by decide)]; exact th1, rfl, _, _, zR_tail hk hR1 (fun i hi => by rw [mset_ne _ _ _ (by omega)]) hokz hSm6 frz frm6⟩) (Nat.le_of_ble_eq_true rfl) (Nat.le_of_ble_eq_true rfl) dX6_rope_64
      · skip
        refine z_iconst (v := 1) E dX6_rope_59 (by decide) ?_
        refine z_goto (tgt := 64) E dX6_rope_60 (by decide) ?_
        exact z_iretM E hr hlocks (m6) rfl (Or.inr ⟨_, _, ((if_neg hL).trans ((if_neg hb).trans (by rw [ek]; exact (zO_eq ((fFN_01 _).resolve_left c56) rfl)))), by rw [frm6.2.2 0 (by omega), hm5, mset_ne _ _ _ (by decide)]; exact th1, rfl, _, _, zR_tail hk hR1 (fun i hi => by rw [mset_ne _ _ _ (by omega)]) hokz hSm6 frz frm6⟩) (Nat.le_of_ble_eq_true rfl) (Nat.le_of_ble_eq_true rfl) dX6_rope_64
