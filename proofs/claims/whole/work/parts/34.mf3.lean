/-! the reference: a ladder falls -/
def mFall (mem : zM) (k : Nat) (R : Nat → Int32) (p : Nat) (F : Int32) : zM := mset (mset (mset mem 1 (14 * k + 6) 0) 1 (14 * k + 7) (R 6 + 1)) 1 56 (F + nI p)
set_option maxHeartbeats 1000000 in
set_option maxRecDepth 100000 in
theorem k_mfalls0 (l : Launch) (D : va_G) (am : Nat → Nat) (cI cR cS cL : ClassId) (dg : Int64) (mem : zM) {k : Nat} (hk : k < 4) {R : Nat → Int32} {p0 : Nat} (hR : mR (mem 1) k R p0) (hpp : rPp R p0) (hfd : rFd R) {F : Int32} (hF : mem 1 56 = F) : zMi l yX6_falls wsX6_falls ({ frames := 4, cells := 0, slots := 0, locals := 97 }) D (cK cI cR cS cL) [.ref (am 0), .int (nI k)] (mw am cI dg mem) (fun r u => (fFN R = 0 ∧ r = 0 ∧ zScr mem u) ∨ (fFN R = 1 ∧ r = 1 ∧ zScr (mFall mem k R p0 F) u)) (mw am cI dg) 0 0 := by
  refine zMiM.of (cc := cX6_falls) (maxL := 3) (ret := (some .boolean)) (by decide +kernel) rfl (lv0 := [(0, .ref (am 0)), (1, .int (nI k))]) (Nat.le_of_ble_eq_true rfl) rfl ?_
  intro p e s m args below meth c E hZ hr hlocks hnm
  obtain ⟨q0, q1, q2, q3, q4, q5, q6, q7, qp⟩ := id hR
  have hQ := rQ_of hpp
  refine z_aload_n E dX6_falls_0 rfl 0 rfl ?_
  refine z_get E 0 mw_obj (C := RX6) (T := TX6) (N := 16) rfl (fun _ h => List.mem_cons_of_mem _ (List.mem_append_right _ h)) 1 (by decide) (List.mem_of_getElem? (i := 1) (by decide +kernel)) rfl (v := .ref (am 1)) rfl dX6_falls_1 ?_
  refine z_iload_n E dX6_falls_4 rfl 1 rfl ?_
  refine z_bipush (v := 6) E dX6_falls_5 (by decide) ?_
  refine z_callSi E hZ (k_of l D am cI cR cS cL dg mem (nI k) 6) gX6_falls_X6_of (n := 2) rfl rfl rfl (by decide +kernel) rfl ⟨Nat.le_of_ble_eq_true rfl, Nat.le_of_ble_eq_true rfl⟩ (As := [.int (nI k), .int 6]) (rest := [.ref (am 1)]) rfl (Nat.le_of_ble_eq_true rfl) ⟨Nat.le_of_ble_eq_true rfl, Nat.le_of_ble_eq_true rfl⟩ dX6_falls_7 (fun r u hp => ?_)
  rw [hp.1, hp.2]
  rw [zof k (y := 6) (w := 6) rfl]
  refine z_iald E 1 0 mw_s rfl (vp_in_nI (by omega) (by decide)) (v := nI p0) ((congrArg (mem 1) (nI_clamp (by omega))).trans q6) dX6_falls_10 ?_
  refine z_istore_n (lv' := [(2, .int (nI p0)), (0, .ref (am 0)), (1, .int (nI k))]) E dX6_falls_11 rfl (by decide) rfl ?_
  refine z_iload_n E dX6_falls_12 rfl 0 rfl ?_
  refine z_if_eq (tgt := 24) E dX6_falls_13 (by decide) (fun c13 => ?_) (fun c13 => ?_)
  · skip
    refine z_iconst (v := 0) E dX6_falls_24 (by decide) ?_
    exact z_izretM E hr hlocks (mem) rfl rfl (Or.inl ⟨if_pos (hpp.2.1.trans c13), rfl, zScr.refl mem⟩) (Nat.le_of_ble_eq_true rfl) (Nat.le_of_ble_eq_true rfl) dX6_falls_25
  · skip
    refine z_aload_n E dX6_falls_16 rfl 1 rfl ?_
    refine z_iload_n E dX6_falls_17 rfl 2 rfl ?_
    refine z_callVi E hZ (k_mstands l D am cI cR cS cL dg mem hk hR hQ hfd) gX6_falls_X6_stands (n := 1) rfl rfl rfl (by decide +kernel) rfl ⟨(Nat.le_of_ble_eq_true rfl), (Nat.le_of_ble_eq_true rfl)⟩ (C := RX6) rfl 0 mw_obj (As := [.int (nI k)]) (rest := []) rfl (Nat.le_of_ble_eq_true rfl) ⟨(Nat.le_of_ble_eq_true rfl), (Nat.le_of_ble_eq_true rfl)⟩ dX6_falls_18 (fun r m1 hp => ?_)
    rw [hp.1]
    have sm1 : zScr mem m1 := (zScr.refl mem).trans hp.2.1
    have km1_0 : m1 1 (14 * k + 0) = R 0 := by rw [hp.2.1.1 1 (by decide)]; exact q0
    have km1_1 : m1 1 (14 * k + 1) = R 1 := by rw [hp.2.1.1 1 (by decide)]; exact q1
    have km1_2 : m1 1 (14 * k + 2) = R 2 := by rw [hp.2.1.1 1 (by decide)]; exact q2
    have km1_3 : m1 1 (14 * k + 3) = R 3 := by rw [hp.2.1.1 1 (by decide)]; exact q3
    have km1_4 : m1 1 (14 * k + 4) = R 4 := by rw [hp.2.1.1 1 (by decide)]; exact q4
    have km1_5 : m1 1 (14 * k + 5) = R 5 := by rw [hp.2.1.1 1 (by decide)]; exact q5
    have km1_6 : m1 1 (14 * k + 7) = R 6 := by rw [hp.2.1.1 1 (by decide)]; exact q7
    have km1_7 : m1 1 (14 * k + 6) = nI p0 := by rw [hp.2.1.1 1 (by decide)]; exact q6
    have km1_8 : m1 1 56 = F := by rw [hp.2.1.1 1 (by decide)]; exact hF
    refine z_if_eq (tgt := 26) E dX6_falls_21 (by decide) (fun c21 => ?_) (fun c21 => ?_)
    · skip
      refine z_aload_n E dX6_falls_26 rfl 1 rfl ?_
      refine z_get E 0 mw_obj (C := RX6) (T := TX6) (N := 16) rfl (fun _ h => List.mem_cons_of_mem _ (List.mem_append_right _ h)) 1 (by decide) (List.mem_of_getElem? (i := 1) (by decide +kernel)) rfl (v := .ref (am 1)) rfl dX6_falls_27 ?_
      refine z_iload_n E dX6_falls_30 rfl 2 rfl ?_
      refine z_bipush (v := 6) E dX6_falls_31 (by decide) ?_
      refine z_callSi E hZ (k_of l D am cI cR cS cL dg m1 (nI k) 6) gX6_falls_X6_of (n := 2) rfl rfl rfl (by decide +kernel) rfl ⟨Nat.le_of_ble_eq_true rfl, Nat.le_of_ble_eq_true rfl⟩ (As := [.int (nI k), .int 6]) (rest := [.ref (am 1)]) rfl (Nat.le_of_ble_eq_true rfl) ⟨Nat.le_of_ble_eq_true rfl, Nat.le_of_ble_eq_true rfl⟩ dX6_falls_33 (fun r u hp => ?_)
      rw [hp.1, hp.2]
      rw [zof k (y := 6) (w := 6) rfl]
      refine z_iconst (v := 0) E dX6_falls_36 (by decide) ?_
      refine z_iast E 1 0 mw_s rfl (vp_in_nI (by omega) (by decide)) (ws' := mw am cI dg (mset m1 1 (14 * k + 6) 0)) (by rw [nI_clamp (by omega)]; exact (ms_s (14 * k + 6) 0)) dX6_falls_37 ?_
      refine z_gm2 (fun m2 hm2 => ?_)
      have xm2_0 : m2 1 (14 * k + 0) = R 0 := by rw [hm2, mset_ne2 _ _ (by omega)]; exact km1_0
      have xm2_1 : m2 1 (14 * k + 1) = R 1 := by rw [hm2, mset_ne2 _ _ (by omega)]; exact km1_1
      have xm2_2 : m2 1 (14 * k + 2) = R 2 := by rw [hm2, mset_ne2 _ _ (by omega)]; exact km1_2
      have xm2_3 : m2 1 (14 * k + 3) = R 3 := by rw [hm2, mset_ne2 _ _ (by omega)]; exact km1_3
      have xm2_4 : m2 1 (14 * k + 4) = R 4 := by rw [hm2, mset_ne2 _ _ (by omega)]; exact km1_4
      have xm2_5 : m2 1 (14 * k + 5) = R 5 := by rw [hm2, mset_ne2 _ _ (by omega)]; exact km1_5
      have xm2_6 : m2 1 (14 * k + 7) = R 6 := by rw [hm2, mset_ne2 _ _ (by omega)]; exact km1_6
      have xm2_7 : m2 1 (14 * k + 6) = 0 := by rw [hm2, mset_at]
      have xm2_8 : m2 1 56 = F := by rw [hm2, mset_ne2 _ _ (by omega)]; exact km1_8
      refine z_aload_n E dX6_falls_38 rfl 1 rfl ?_
      refine z_get E 0 mw_obj (C := RX6) (T := TX6) (N := 16) rfl (fun _ h => List.mem_cons_of_mem _ (List.mem_append_right _ h)) 1 (by decide) (List.mem_of_getElem? (i := 1) (by decide +kernel)) rfl (v := .ref (am 1)) rfl dX6_falls_39 ?_
      refine z_iload_n E dX6_falls_42 rfl 2 rfl ?_
      refine z_bipush (v := 7) E dX6_falls_43 (by decide) ?_
      refine z_callSi E hZ (k_of l D am cI cR cS cL dg m2 (nI k) 7) gX6_falls_X6_of (n := 2) rfl rfl rfl (by decide +kernel) rfl ⟨Nat.le_of_ble_eq_true rfl, Nat.le_of_ble_eq_true rfl⟩ (As := [.int (nI k), .int 7]) (rest := [.ref (am 1)]) rfl (Nat.le_of_ble_eq_true rfl) ⟨Nat.le_of_ble_eq_true rfl, Nat.le_of_ble_eq_true rfl⟩ dX6_falls_45 (fun r u hp => ?_)
      rw [hp.1, hp.2]
      rw [zof k (y := 7) (w := 7) rfl]
      refine z_dup2 E dX6_falls_48 rfl rfl ?_
      refine z_iald E 1 0 mw_s rfl (vp_in_nI (by omega) (by decide)) (v := R 6) ((congrArg (m2 1) (nI_clamp (by omega))).trans xm2_6) dX6_falls_49 ?_
      refine z_iconst (v := 1) E dX6_falls_50 (by decide) ?_
      refine z_iadd E dX6_falls_51 ?_
      refine z_iast E 1 0 mw_s rfl (vp_in_nI (by omega) (by decide)) (ws' := mw am cI dg (mset m2 1 (14 * k + 7) ((R 6) + 1))) (by rw [nI_clamp (by omega)]; exact (ms_s (14 * k + 7) ((R 6) + 1))) dX6_falls_52 ?_
      refine z_gm2 (fun m3 hm3 => ?_)
      have xm3_0 : m3 1 (14 * k + 0) = R 0 := by rw [hm3, mset_ne2 _ _ (by omega)]; exact xm2_0
      have xm3_1 : m3 1 (14 * k + 1) = R 1 := by rw [hm3, mset_ne2 _ _ (by omega)]; exact xm2_1
      have xm3_2 : m3 1 (14 * k + 2) = R 2 := by rw [hm3, mset_ne2 _ _ (by omega)]; exact xm2_2
      have xm3_3 : m3 1 (14 * k + 3) = R 3 := by rw [hm3, mset_ne2 _ _ (by omega)]; exact xm2_3
      have xm3_4 : m3 1 (14 * k + 4) = R 4 := by rw [hm3, mset_ne2 _ _ (by omega)]; exact xm2_4
      have xm3_5 : m3 1 (14 * k + 5) = R 5 := by rw [hm3, mset_ne2 _ _ (by omega)]; exact xm2_5
      have xm3_6 : m3 1 (14 * k + 7) = (R 6) + 1 := by rw [hm3, mset_at]
      have xm3_7 : m3 1 (14 * k + 6) = 0 := by rw [hm3, mset_ne2 _ _ (by omega)]; exact xm2_7
      have xm3_8 : m3 1 56 = F := by rw [hm3, mset_ne2 _ _ (by omega)]; exact xm2_8
      refine z_aload_n E dX6_falls_53 rfl 1 rfl ?_
      refine z_get E 0 mw_obj (C := RX6) (T := TX6) (N := 16) rfl (fun _ h => List.mem_cons_of_mem _ (List.mem_append_right _ h)) 1 (by decide) (List.mem_of_getElem? (i := 1) (by decide +kernel)) rfl (v := .ref (am 1)) rfl dX6_falls_54 ?_
      refine z_bipush (v := 56) E dX6_falls_57 (by decide) ?_
      refine z_dup2 E dX6_falls_59 rfl rfl ?_
      refine z_iald E 1 0 mw_s rfl (zvin rfl) (v := F) xm3_8 dX6_falls_60 ?_
      refine z_iload_n E dX6_falls_61 rfl 0 rfl ?_
      refine z_iadd E dX6_falls_62 ?_
      refine z_iast E 1 0 mw_s rfl (zvin rfl) (ws' := mw am cI dg (mset m3 1 56 (F + (nI p0)))) (ms_s 56 (F + (nI p0))) dX6_falls_63 ?_
      refine z_gm2 (fun m4 hm4 => ?_)
      have xm4_0 : m4 1 (14 * k + 0) = R 0 := by rw [hm4, mset_ne2 _ _ (by omega)]; exact xm3_0
      have xm4_1 : m4 1 (14 * k + 1) = R 1 := by rw [hm4, mset_ne2 _ _ (by omega)]; exact xm3_1
      have xm4_2 : m4 1 (14 * k + 2) = R 2 := by rw [hm4, mset_ne2 _ _ (by omega)]; exact xm3_2
      have xm4_3 : m4 1 (14 * k + 3) = R 3 := by rw [hm4, mset_ne2 _ _ (by omega)]; exact xm3_3
      have xm4_4 : m4 1 (14 * k + 4) = R 4 := by rw [hm4, mset_ne2 _ _ (by omega)]; exact xm3_4
      have xm4_5 : m4 1 (14 * k + 5) = R 5 := by rw [hm4, mset_ne2 _ _ (by omega)]; exact xm3_5
      have xm4_6 : m4 1 (14 * k + 7) = (R 6) + 1 := by rw [hm4, mset_ne2 _ _ (by omega)]; exact xm3_6
      have xm4_7 : m4 1 (14 * k + 6) = 0 := by rw [hm4, mset_ne2 _ _ (by omega)]; exact xm3_7
      have xm4_8 : m4 1 56 = F + (nI p0) := by rw [hm4, mset_at]
      refine z_iconst (v := 1) E dX6_falls_64 (by decide) ?_
      exact z_izretM E hr hlocks (m4) rfl rfl (Or.inr ⟨(if_neg (fun z => c13 (hpp.2.1.symm.trans z))).trans (if_pos c21), rfl, by rw [hm4, hm3, hm2]; exact ((sm1.set (by decide) _ _).set (by decide) _ _).set (by decide) _ _⟩) (Nat.le_of_ble_eq_true rfl) (Nat.le_of_ble_eq_true rfl) dX6_falls_65
    · skip
      refine z_iconst (v := 0) E dX6_falls_24 (by decide) ?_
      exact z_izretM E hr hlocks (m1) rfl rfl (Or.inl ⟨(if_neg (fun z => c13 (hpp.2.1.symm.trans z))).trans (if_neg c21), rfl, sm1⟩) (Nat.le_of_ble_eq_true rfl) (Nat.le_of_ble_eq_true rfl) dX6_falls_25
