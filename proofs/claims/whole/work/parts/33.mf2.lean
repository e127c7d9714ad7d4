set_option maxHeartbeats 1000000 in
set_option maxRecDepth 100000 in
theorem k_mforces (l : Launch) (D : va_G) (am : Nat → Nat) (cI cR cS cL : ClassId) (dg : Int64) (mem : zM) {k : Nat} (hk : k < 4) {R : Nat → Int32} {p0 : Nat} (hR : mR (mem 1) k R p0) (hQ : rQ R p0) (hfd : rFd R) : zMi l yX6_forces wsX6_forces ({ frames := 2, cells := 0, slots := 0, locals := 50 }) D (cK cI cR cS cL) [.ref (am 0), .int (nI k)] (mw am cI dg mem) (fun r u => r = fForces R ∧ zScr mem u ∧ mFd R u) (mw am cI dg) 0 0 := by
  refine zMiM.of (cc := cX6_forces) (maxL := 7) (ret := (some .int)) (by decide +kernel) rfl (lv0 := [(0, .ref (am 0)), (1, .int (nI k))]) (Nat.le_of_ble_eq_true rfl) rfl ?_
  intro p e s m args below meth c E hZ hr hlocks hnm
  obtain ⟨q0, q1, q2, q3, q4, q5, q6, q7, qp⟩ := id hR
  obtain ⟨lo, hi, H⟩ := rLH_rig hfd hQ
  refine z_aload_n E dX6_forces_0 rfl 0 rfl ?_
  refine z_iload_n E dX6_forces_1 rfl 1 rfl ?_
  refine z_callVi E hZ (k_mload l D am cI cR cS cL dg mem hk hR hQ) gX6_forces_X6_loadOf (n := 1) rfl rfl rfl (by decide +kernel) rfl ⟨Nat.le_of_ble_eq_true rfl, Nat.le_of_ble_eq_true rfl⟩  (C := RX6) rfl 0 mw_obj (As := [.int (nI k)]) (rest := []) rfl (Nat.le_of_ble_eq_true rfl) ⟨Nat.le_of_ble_eq_true rfl, Nat.le_of_ble_eq_true rfl⟩ dX6_forces_2 (fun r u hp => ?_)
  rw [hp.1, hp.2]
  refine z_istore_n (lv' := [(2, .int (fLoad R)), (0, .ref (am 0)), (1, .int (nI k))]) E dX6_forces_5 rfl (by decide) rfl ?_
  refine z_aload_n E dX6_forces_6 rfl 1 rfl ?_
  refine z_iload_n E dX6_forces_7 rfl 2 rfl ?_
  refine z_callVi E hZ (k_mmoment l D am cI cR cS cL dg mem hk hR hQ) gX6_forces_X6_momentOf (n := 1) rfl rfl rfl (by decide +kernel) rfl ⟨Nat.le_of_ble_eq_true rfl, Nat.le_of_ble_eq_true rfl⟩  (C := RX6) rfl 0 mw_obj (As := [.int (nI k)]) (rest := []) rfl (Nat.le_of_ble_eq_true rfl) ⟨Nat.le_of_ble_eq_true rfl, Nat.le_of_ble_eq_true rfl⟩ dX6_forces_8 (fun r u hp => ?_)
  rw [hp.1, hp.2]
  refine z_istore_n (lv' := [(3, .int (fMoment R)), (2, .int (fLoad R)), (0, .ref (am 0)), (1, .int (nI k))]) E dX6_forces_11 rfl (by decide) rfl ?_
  refine z_aload_n E dX6_forces_12 rfl 2 rfl ?_
  refine z_get E 0 mw_obj (C := RX6) (T := TX6) (N := 16) rfl (fun _ h => List.mem_cons_of_mem _ (List.mem_append_right _ h)) 1 (by decide) (List.mem_of_getElem? (i := 1) (by decide +kernel)) rfl (v := .ref (am 1)) rfl dX6_forces_13 ?_
  refine z_iload_n E dX6_forces_16 rfl 3 rfl ?_
  refine z_iconst (v := 0) E dX6_forces_17 (by decide) ?_
  refine z_callSi E hZ (k_of l D am cI cR cS cL dg mem (nI k) 0) gX6_forces_X6_of (n := 2) rfl rfl rfl (by decide +kernel) rfl ⟨Nat.le_of_ble_eq_true rfl, Nat.le_of_ble_eq_true rfl⟩ (As := [.int (nI k), .int 0]) (rest := [.ref (am 1)]) rfl (Nat.le_of_ble_eq_true rfl) ⟨Nat.le_of_ble_eq_true rfl, Nat.le_of_ble_eq_true rfl⟩ dX6_forces_18 (fun r u hp => ?_)
  rw [hp.1, hp.2]
  rw [zof k (y := 0) (w := 0) rfl]
  refine z_iald E 1 0 mw_s rfl (vp_in_nI (by omega) (by decide)) (v := R 0) ((congrArg (mem 1) (nI_clamp (by omega))).trans q0) dX6_forces_21 ?_
  refine z_istore (lv' := [(4, .int (R 0)), (3, .int (fMoment R)), (2, .int (fLoad R)), (0, .ref (am 0)), (1, .int (nI k))]) E dX6_forces_22 (by decide) rfl ?_
  refine z_aload_n E dX6_forces_24 rfl 3 rfl ?_
  refine z_iconst (v := 0) E dX6_forces_25 (by decide) ?_
  refine z_put E 0 mw_obj (C := RX6) (T := TX6) (N := 16) rfl (fun _ h => List.mem_cons_of_mem _ (List.mem_append_right _ h)) tyX6 tyX6_ok nmX6 6 (by decide) (List.mem_of_getElem? (i := 2) (by decide +kernel)) rfl rfl rfl rfl (Nat.le_of_ble_eq_true rfl) (ws' := mw am cI dg (mset mem 0 6 0)) (ms_obj 6 (by decide) (by decide) rfl) dX6_forces_26 ?_
  refine z_gm2 (fun m1 hm1 => ?_)
  have xm1_0 : m1 1 (14 * k + 0) = R 0 := by rw [hm1, mset_ne _ _ _ (by omega)]; exact q0
  have xm1_1 : m1 1 (14 * k + 1) = R 1 := by rw [hm1, mset_ne _ _ _ (by omega)]; exact q1
  have xm1_2 : m1 1 (14 * k + 2) = R 2 := by rw [hm1, mset_ne _ _ _ (by omega)]; exact q2
  have xm1_3 : m1 1 (14 * k + 3) = R 3 := by rw [hm1, mset_ne _ _ _ (by omega)]; exact q3
  have xm1_4 : m1 1 (14 * k + 4) = R 4 := by rw [hm1, mset_ne _ _ _ (by omega)]; exact q4
  have xm1_5 : m1 1 (14 * k + 5) = R 5 := by rw [hm1, mset_ne _ _ _ (by omega)]; exact q5
  have xm1_6 : m1 1 (14 * k + 7) = R 6 := by rw [hm1, mset_ne _ _ _ (by omega)]; exact q7
  refine z_aload_n E dX6_forces_29 rfl 3 rfl ?_
  refine z_iconst (v := 0) E dX6_forces_30 (by decide) ?_
  refine z_put E 0 mw_obj (C := RX6) (T := TX6) (N := 16) rfl (fun _ h => List.mem_cons_of_mem _ (List.mem_append_right _ h)) tyX6 tyX6_ok nmX6 7 (by decide) (List.mem_of_getElem? (i := 3) (by decide +kernel)) rfl rfl rfl rfl (Nat.le_of_ble_eq_true rfl) (ws' := mw am cI dg (mset m1 0 7 0)) (ms_obj 7 (by decide) (by decide) rfl) dX6_forces_31 ?_
  refine z_gm2 (fun m2 hm2 => ?_)
  have xm2_0 : m2 1 (14 * k + 0) = R 0 := by rw [hm2, mset_ne _ _ _ (by omega)]; exact xm1_0
  have xm2_1 : m2 1 (14 * k + 1) = R 1 := by rw [hm2, mset_ne _ _ _ (by omega)]; exact xm1_1
  have xm2_2 : m2 1 (14 * k + 2) = R 2 := by rw [hm2, mset_ne _ _ _ (by omega)]; exact xm1_2
  have xm2_3 : m2 1 (14 * k + 3) = R 3 := by rw [hm2, mset_ne _ _ _ (by omega)]; exact xm1_3
  have xm2_4 : m2 1 (14 * k + 4) = R 4 := by rw [hm2, mset_ne _ _ _ (by omega)]; exact xm1_4
  have xm2_5 : m2 1 (14 * k + 5) = R 5 := by rw [hm2, mset_ne _ _ _ (by omega)]; exact xm1_5
  have xm2_6 : m2 1 (14 * k + 7) = R 6 := by rw [hm2, mset_ne _ _ _ (by omega)]; exact xm1_6
  refine z_aload_n E dX6_forces_34 rfl 3 rfl ?_
  refine z_iconst (v := 0) E dX6_forces_35 (by decide) ?_
  refine z_put E 0 mw_obj (C := RX6) (T := TX6) (N := 16) rfl (fun _ h => List.mem_cons_of_mem _ (List.mem_append_right _ h)) tyX6 tyX6_ok nmX6 8 (by decide) (List.mem_of_getElem? (i := 4) (by decide +kernel)) rfl rfl rfl rfl (Nat.le_of_ble_eq_true rfl) (ws' := mw am cI dg (mset m2 0 8 0)) (ms_obj 8 (by decide) (by decide) rfl) dX6_forces_36 ?_
  refine z_gm2 (fun m3 hm3 => ?_)
  have xm3_0 : m3 1 (14 * k + 0) = R 0 := by rw [hm3, mset_ne _ _ _ (by omega)]; exact xm2_0
  have xm3_1 : m3 1 (14 * k + 1) = R 1 := by rw [hm3, mset_ne _ _ _ (by omega)]; exact xm2_1
  have xm3_2 : m3 1 (14 * k + 2) = R 2 := by rw [hm3, mset_ne _ _ _ (by omega)]; exact xm2_2
  have xm3_3 : m3 1 (14 * k + 3) = R 3 := by rw [hm3, mset_ne _ _ _ (by omega)]; exact xm2_3
  have xm3_4 : m3 1 (14 * k + 4) = R 4 := by rw [hm3, mset_ne _ _ _ (by omega)]; exact xm2_4
  have xm3_5 : m3 1 (14 * k + 5) = R 5 := by rw [hm3, mset_ne _ _ _ (by omega)]; exact xm2_5
  have xm3_6 : m3 1 (14 * k + 7) = R 6 := by rw [hm3, mset_ne _ _ _ (by omega)]; exact xm2_6
  refine z_aload_n E dX6_forces_39 rfl 3 rfl ?_
  refine z_iconst (v := 0) E dX6_forces_40 (by decide) ?_
  refine z_put E 0 mw_obj (C := RX6) (T := TX6) (N := 16) rfl (fun _ h => List.mem_cons_of_mem _ (List.mem_append_right _ h)) tyX6 tyX6_ok nmX6 9 (by decide) (List.mem_of_getElem? (i := 5) (by decide +kernel)) rfl rfl rfl rfl (Nat.le_of_ble_eq_true rfl) (ws' := mw am cI dg (mset m3 0 9 0)) (ms_obj 9 (by decide) (by decide) rfl) dX6_forces_41 ?_
  refine z_gm2 (fun m4 hm4 => ?_)
  have xm4_0 : m4 1 (14 * k + 0) = R 0 := by rw [hm4, mset_ne _ _ _ (by omega)]; exact xm3_0
  have xm4_1 : m4 1 (14 * k + 1) = R 1 := by rw [hm4, mset_ne _ _ _ (by omega)]; exact xm3_1
  have xm4_2 : m4 1 (14 * k + 2) = R 2 := by rw [hm4, mset_ne _ _ _ (by omega)]; exact xm3_2
  have xm4_3 : m4 1 (14 * k + 3) = R 3 := by rw [hm4, mset_ne _ _ _ (by omega)]; exact xm3_3
  have xm4_4 : m4 1 (14 * k + 4) = R 4 := by rw [hm4, mset_ne _ _ _ (by omega)]; exact xm3_4
  have xm4_5 : m4 1 (14 * k + 5) = R 5 := by rw [hm4, mset_ne _ _ _ (by omega)]; exact xm3_5
  have xm4_6 : m4 1 (14 * k + 7) = R 6 := by rw [hm4, mset_ne _ _ _ (by omega)]; exact xm3_6
  refine z_sipush (v := -1000) E dX6_forces_44 (by decide) ?_
  refine z_istore (lv' := [(5, .int (-1000)), (4, .int (R 0)), (3, .int (fMoment R)), (2, .int (fLoad R)), (0, .ref (am 0)), (1, .int (nI k))]) E dX6_forces_47 (by decide) rfl ?_
  have hsc0 : zScr mem m4 := by rw [hm4, hm3, hm2, hm1]; exact (((((zScr.refl mem).fld (by omega) (by omega) _).fld (by omega) (by omega) _).fld (by omega) (by omega) _).fld (by omega) (by omega) _)
  have zm1000 : (-1000 : Int32).toInt = -1000 := by decide
  have hlo := H.2.2.1.1
  have hP0 : mFP lo hi (-1000) (m4 0) := by
    refine ⟨?_, fun _ => ⟨?_, ?_, ?_⟩, fun q => by omega⟩
    · rw [show m4 0 6 = 0 by simp [hm4, hm3, hm2, hm1, mset], zc0]; omega
    · simp [hm4, hm3, hm2, hm1, mset]
    · simp [hm4, hm3, hm2, hm1, mset]
    · simp [hm4, hm3, hm2, hm1, mset]
  refine z_loop (σ := zM × Int32) (fun n y => y.2.toInt + n = 1001 ∧ -1000 ≤ y.2.toInt ∧ zScr mem y.1 ∧ mFP lo hi y.2.toInt (y.1 0)) (fun y => mw am cI dg y.1) (fun y => [(5, .int y.2), (4, .int (R 0)), (3, .int (fMoment R)), (2, .int (fLoad R)), (0, .ref (am 0)), (1, .int (nI k))]) 49 0 0 ?_ 2001 (m4, -1000) ⟨by show (-1000 : Int32).toInt + ((2001 : Nat) : Int) = 1001; decide, by show -1000 ≤ (-1000 : Int32).toInt; decide, hsc0, by show mFP lo hi (-1000 : Int32).toInt (m4 0); rw [zm1000]; exact hP0⟩ rfl rfl rfl rfl rfl
  rintro n ⟨m, f⟩ ⟨hn, h1, hsc, hP⟩ ih
  dsimp only at hn h1 hsc hP ⊢
  refine z_iload E dX6_forces_49 0 rfl ?_
  refine z_sipush (v := 1000) E dX6_forces_51 (by decide) ?_
  refine z_icmp_gt (tgt := 174) E dX6_forces_54 (by decide) (fun c54 => ?_) (fun c54 => ?_)
  · skip
    refine z_aload_n E dX6_forces_174 rfl 4 rfl ?_
    refine z_get E 0 mw_obj (C := RX6) (T := TX6) (N := 16) rfl (fun _ h => List.mem_cons_of_mem _ (List.mem_append_right _ h)) 6 (by decide) (List.mem_of_getElem? (i := 2) (by decide +kernel)) rfl (v := .int (m 0 6)) rfl dX6_forces_175 ?_
    exact z_iretM E hr hlocks (m) rfl ⟨(mFP_end H (by have : f.toInt = 1001 := by { have := (zltI zc1000 rfl).mp c54; omega }; rw [← this]; exact hP)).1, hsc, mFP_end H (by have : f.toInt = 1001 := by { have := (zltI zc1000 rfl).mp c54; omega }; rw [← this]; exact hP)⟩ (Nat.le_of_ble_eq_true rfl) (Nat.le_of_ble_eq_true rfl) dX6_forces_178
  · skip
    have hf1000 : f.toInt ≤ 1000 := by have := mt (zltI zc1000 rfl).mpr c54; omega
    obtain ⟨n, rfl⟩ : ∃ n1, n = n1 + 1 := ⟨n - 1, by omega⟩
    have zf : (f + 1).toInt = f.toInt + 1 := zaI rfl (by decide) (by omega) (by omega)
    refine z_aload_n E dX6_forces_57 rfl 4 rfl ?_
    refine z_iload_n E dX6_forces_58 rfl 5 rfl ?_
    refine z_iload E dX6_forces_59 0 rfl ?_
    refine z_iload_n E dX6_forces_61 rfl 3 rfl ?_
    refine z_iload_n E dX6_forces_62 rfl 2 rfl ?_
    refine z_bipush (v := 10) E dX6_forces_63 (by decide) ?_
    refine z_iload E dX6_forces_65 0 rfl ?_
    refine z_imul E dX6_forces_67 ?_
    refine z_iload E dX6_forces_68 1 rfl ?_
    refine z_imul E dX6_forces_70 ?_
    refine z_isub E dX6_forces_71 ?_
    refine z_callVi E hZ (k_lacks l D am cI cR cS cL dg m hk (by rw [hsc.1 1 (by decide)]; exact hR) hQ hfd f) gX6_forces_X6_lacks (n := 4) rfl rfl rfl (by decide +kernel) rfl ⟨Nat.le_of_ble_eq_true rfl, Nat.le_of_ble_eq_true rfl⟩  (C := RX6) rfl 0 mw_obj (As := [.int (nI k), .int f, .int (fLoad R), .int ((fMoment R) - ((10 * f) * (R 0)))]) (rest := []) rfl (Nat.le_of_ble_eq_true rfl) ⟨Nat.le_of_ble_eq_true rfl, Nat.le_of_ble_eq_true rfl⟩ dX6_forces_72 (fun r u hp => ?_)
    rw [hp.1, hp.2]
    refine z_if_ne (tgt := 168) E dX6_forces_75 (by decide) (fun c75 => ?_) (fun c75 => ?_)
    · skip
      refine z_iinc (v := f + 1) (lv' := [(5, .int (f + 1)), (4, .int (R 0)), (3, .int (fMoment R)), (2, .int (fLoad R)), (0, .ref (am 0)), (1, .int (nI k))]) E dX6_forces_168 (q := 0) rfl rfl (by decide) rfl ?_
      refine z_goto (tgt := 49) E dX6_forces_171 (by decide) ?_
      exact ih n (m, f + 1) (by omega) ⟨by show (f + 1).toInt + n = 1001; rw [zf]; omega, by show -1000 ≤ (f + 1).toInt; rw [zf]; omega, hsc, by show mFP lo hi (f + 1).toInt (m 0); rw [zf]; exact mFP_no hP (fun q => c75 ((H.2.2.2.2 f f.toInt rfl h1 (by omega)).mpr q))⟩
    · skip
      refine z_join (fun v105 => v105 = fNear f (m 0 9)) (pc2 := 105) (c2 := 0) (s2 := 0) (lv2 := (fun _ => [(5, .int f), (4, .int (R 0)), (3, .int (fMoment R)), (2, .int (fLoad R)), (0, .ref (am 0)), (1, .int (nI k))])) (st2 := (fun v105 => [.int v105])) (fun v105 hv105 => ?_) (fun J105 => ?_)
      · subst hv105
        refine z_istore (lv' := [(6, .int (fNear f (m 0 9))), (5, .int f), (4, .int (R 0)), (3, .int (fMoment R)), (2, .int (fLoad R)), (0, .ref (am 0)), (1, .int (nI k))]) E dX6_forces_105 (by decide) rfl ?_
        refine z_aload_n E dX6_forces_107 rfl 5 rfl ?_
        refine z_join (fun v124 => v124 = (if m 0 6 = 0 then f else m 0 7)) (pc2 := 124) (c2 := 0) (s2 := 0) (lv2 := (fun _ => [(6, .int (fNear f (m 0 9))), (5, .int f), (4, .int (R 0)), (3, .int (fMoment R)), (2, .int (fLoad R)), (0, .ref (am 0)), (1, .int (nI k))])) (st2 := (fun v124 => [.int v124, .ref (am 0)])) (fun v124 hv124 => ?_) (fun J124 => ?_)
        · subst hv124
          refine z_put E 0 mw_obj (C := RX6) (T := TX6) (N := 16) rfl (fun _ h => List.mem_cons_of_mem _ (List.mem_append_right _ h)) tyX6 tyX6_ok nmX6 7 (by decide) (List.mem_of_getElem? (i := 3) (by decide +kernel)) rfl rfl rfl rfl (Nat.le_of_ble_eq_true rfl) (ws' := mw am cI dg (mset m 0 7 ((if m 0 6 = 0 then f else m 0 7)))) (ms_obj 7 (by decide) (by decide) rfl) dX6_forces_124 ?_
          refine z_gm2 (fun m5 hm5 => ?_)
          refine z_aload_n E dX6_forces_127 rfl 5 rfl ?_
          refine z_join (fun v149 => v149 = (if m 0 6 = 0 then f else if fNear f (m 0 9) = 0 then m 0 9 else f)) (pc2 := 149) (c2 := 0) (s2 := 0) (lv2 := (fun _ => [(6, .int (fNear f (m 0 9))), (5, .int f), (4, .int (R 0)), (3, .int (fMoment R)), (2, .int (fLoad R)), (0, .ref (am 0)), (1, .int (nI k))])) (st2 := (fun v149 => [.int v149, .ref (am 0)])) (fun v149 hv149 => ?_) (fun J149 => ?_)
          · subst hv149
            refine z_put E 0 mw_obj (C := RX6) (T := TX6) (N := 16) rfl (fun _ h => List.mem_cons_of_mem _ (List.mem_append_right _ h)) tyX6 tyX6_ok nmX6 9 (by decide) (List.mem_of_getElem? (i := 5) (by decide +kernel)) rfl rfl rfl rfl (Nat.le_of_ble_eq_true rfl) (ws' := mw am cI dg (mset m5 0 9 ((if m 0 6 = 0 then f else if fNear f (m 0 9) = 0 then m 0 9 else f)))) (ms_obj 9 (by decide) (by decide) rfl) dX6_forces_149 ?_
            refine z_gm2 (fun m6 hm6 => ?_)
            refine z_aload_n E dX6_forces_152 rfl 5 rfl ?_
            refine z_iload E dX6_forces_153 1 rfl ?_
            refine z_put E 0 mw_obj (C := RX6) (T := TX6) (N := 16) rfl (fun _ h => List.mem_cons_of_mem _ (List.mem_append_right _ h)) tyX6 tyX6_ok nmX6 8 (by decide) (List.mem_of_getElem? (i := 4) (by decide +kernel)) rfl rfl rfl rfl (Nat.le_of_ble_eq_true rfl) (ws' := mw am cI dg (mset m6 0 8 f)) (ms_obj 8 (by decide) (by decide) rfl) dX6_forces_155 ?_
            refine z_gm2 (fun m7 hm7 => ?_)
            refine z_aload_n E dX6_forces_158 rfl 5 rfl ?_
            refine z_dup E dX6_forces_159 rfl ?_
            refine z_get E 0 mw_obj (C := RX6) (T := TX6) (N := 16) rfl (fun _ h => List.mem_cons_of_mem _ (List.mem_append_right _ h)) 6 (by decide) (List.mem_of_getElem? (i := 2) (by decide +kernel)) rfl (v := .int (m 0 6)) (congrArg (fun z : Int32 => some (Value.int z)) (show m7 0 6 = m 0 6 from (by simp [hm7, hm6, hm5, mset]))) dX6_forces_160 ?_
            refine z_iconst (v := 1) E dX6_forces_163 (by decide) ?_
            refine z_iadd E dX6_forces_164 ?_
            refine z_put E 0 mw_obj (C := RX6) (T := TX6) (N := 16) rfl (fun _ h => List.mem_cons_of_mem _ (List.mem_append_right _ h)) tyX6 tyX6_ok nmX6 6 (by decide) (List.mem_of_getElem? (i := 2) (by decide +kernel)) rfl rfl rfl rfl (Nat.le_of_ble_eq_true rfl) (ws' := mw am cI dg (mset m7 0 6 ((m 0 6) + 1))) (ms_obj 6 (by decide) (by decide) rfl) dX6_forces_165 ?_
            refine z_gm2 (fun m8 hm8 => ?_)
            refine z_iinc (v := f + 1) (lv' := [(5, .int (f + 1)), (6, .int (fNear f (m 0 9))), (4, .int (R 0)), (3, .int (fMoment R)), (2, .int (fLoad R)), (0, .ref (am 0)), (1, .int (nI k))]) E dX6_forces_168 (q := 1) rfl rfl (by decide) rfl ?_
            refine z_goto (tgt := 49) E dX6_forces_171 (by decide) ?_
            refine z_lv [0, 2, 3, 4, 5, 6] (lv' := [(5, .int (f + 1)), (4, .int (R 0)), (3, .int (fMoment R)), (2, .int (fLoad R)), (0, .ref (am 0)), (1, .int (nI k))]) rfl ?_
            have hl := (H.2.2.2.2 f f.toInt rfl h1 (by omega)).mp c75
            have hsc2 : zScr mem m8 := by rw [hm8, hm7, hm6, hm5]; exact (((hsc.fld (by omega) (by omega) _).fld (by omega) (by omega) _).fld (by omega) (by omega) _).fld (by omega) (by omega) _
            exact ih n (m8, f + 1) (by omega) ⟨by show (f + 1).toInt + n = 1001; rw [zf]; omega, by show -1000 ≤ (f + 1).toInt; rw [zf]; omega, hsc2, by show mFP lo hi (f + 1).toInt (m8 0); rw [zf]; exact mFP_yes H.2.2.1.1 H.2.2.2.1.2 rfl hP hl.1 hl.2 (by simp [hm8, hm7, hm6, hm5, mset]) (by simp [hm8, hm7, hm6, hm5, mset]) (by simp [hm8, hm7, hm6, hm5, mset]) (by simp [hm8, hm7, hm6, hm5, mset])⟩
          · skip
            refine z_aload_n E dX6_forces_128 rfl 5 rfl ?_
            refine z_get E 0 mw_obj (C := RX6) (T := TX6) (N := 16) rfl (fun _ h => List.mem_cons_of_mem _ (List.mem_append_right _ h)) 6 (by decide) (List.mem_of_getElem? (i := 2) (by decide +kernel)) rfl (v := .int (m 0 6)) (congrArg (fun z : Int32 => some (Value.int z)) (show m5 0 6 = m 0 6 from (by simp [hm5, mset]))) dX6_forces_129 ?_
            refine z_if_eq (tgt := 140) E dX6_forces_132 (by decide) (fun c132 => ?_) (fun c132 => ?_)
            · skip
              refine z_iload E dX6_forces_140 1 rfl ?_
              refine z_goto (tgt := 149) E dX6_forces_142 (by decide) ?_
              exact J149 _ (if_pos c132).symm
            · skip
              refine z_iload E dX6_forces_135 0 rfl ?_
              refine z_if_eq (tgt := 145) E dX6_forces_137 (by decide) (fun c137 => ?_) (fun c137 => ?_)
              · skip
                refine z_aload_n E dX6_forces_145 rfl 5 rfl ?_
                refine z_get E 0 mw_obj (C := RX6) (T := TX6) (N := 16) rfl (fun _ h => List.mem_cons_of_mem _ (List.mem_append_right _ h)) 9 (by decide) (List.mem_of_getElem? (i := 5) (by decide +kernel)) rfl (v := .int (m 0 9)) (congrArg (fun z : Int32 => some (Value.int z)) (show m5 0 9 = m 0 9 from (by simp [hm5, mset]))) dX6_forces_146 ?_
                exact J149 _ ((if_neg c132).trans (if_pos c137)).symm
              · skip
                refine z_iload E dX6_forces_140 1 rfl ?_
                refine z_goto (tgt := 149) E dX6_forces_142 (by decide) ?_
                exact J149 _ ((if_neg c132).trans (if_neg c137)).symm
        · skip
          refine z_aload_n E dX6_forces_108 rfl 5 rfl ?_
          refine z_get E 0 mw_obj (C := RX6) (T := TX6) (N := 16) rfl (fun _ h => List.mem_cons_of_mem _ (List.mem_append_right _ h)) 6 (by decide) (List.mem_of_getElem? (i := 2) (by decide +kernel)) rfl (v := .int (m 0 6)) rfl dX6_forces_109 ?_
          refine z_if_ne (tgt := 120) E dX6_forces_112 (by decide) (fun c112 => ?_) (fun c112 => ?_)
          · skip
            refine z_aload_n E dX6_forces_120 rfl 5 rfl ?_
            refine z_get E 0 mw_obj (C := RX6) (T := TX6) (N := 16) rfl (fun _ h => List.mem_cons_of_mem _ (List.mem_append_right _ h)) 7 (by decide) (List.mem_of_getElem? (i := 3) (by decide +kernel)) rfl (v := .int (m 0 7)) rfl dX6_forces_121 ?_
            exact J124 _ (if_neg c112).symm
          · skip
            refine z_iload E dX6_forces_115 1 rfl ?_
            refine z_goto (tgt := 124) E dX6_forces_117 (by decide) ?_
            exact J124 _ (if_pos c112).symm
      · skip
        refine z_iload E dX6_forces_78 0 rfl ?_
        refine z_if_lt (tgt := 100) E dX6_forces_80 (by decide) (fun c80 => ?_) (fun c80 => ?_)
        · skip
          refine z_iconst (v := 1) E dX6_forces_100 (by decide) ?_
          refine z_goto (tgt := 105) E dX6_forces_101 (by decide) ?_
          exact J105 _ (if_pos c80).symm
        · skip
          refine z_aload_n E dX6_forces_83 rfl 4 rfl ?_
          refine z_get E 0 mw_obj (C := RX6) (T := TX6) (N := 16) rfl (fun _ h => List.mem_cons_of_mem _ (List.mem_append_right _ h)) 9 (by decide) (List.mem_of_getElem? (i := 5) (by decide +kernel)) rfl (v := .int (m 0 9)) rfl dX6_forces_84 ?_
          refine z_if_ge (tgt := 104) E dX6_forces_87 (by decide) (fun c87 => ?_) (fun c87 => ?_)
          · skip
            refine z_iconst (v := 0) E dX6_forces_104 (by decide) ?_
            exact J105 _ ((if_neg c80).trans (if_pos c87)).symm
          · skip
            refine z_iload E dX6_forces_90 0 rfl ?_
            refine z_aload_n E dX6_forces_92 rfl 4 rfl ?_
            refine z_get E 0 mw_obj (C := RX6) (T := TX6) (N := 16) rfl (fun _ h => List.mem_cons_of_mem _ (List.mem_append_right _ h)) 9 (by decide) (List.mem_of_getElem? (i := 5) (by decide +kernel)) rfl (v := .int (m 0 9)) rfl dX6_forces_93 ?_
            refine z_ineg E dX6_forces_96 ?_
            refine z_icmp_gt (tgt := 104) E dX6_forces_97 (by decide) (fun c97 => ?_) (fun c97 => ?_)
            · skip
              refine z_iconst (v := 0) E dX6_forces_104 (by decide) ?_
              exact J105 _ ((if_neg c80).trans ((if_neg c87).trans (if_pos c97))).symm
            · skip
              refine z_iconst (v := 1) E dX6_forces_100 (by decide) ?_
              refine z_goto (tgt := 105) E dX6_forces_101 (by decide) ?_
              exact J105 _ ((if_neg c80).trans ((if_neg c87).trans (if_neg c97))).symm
set_option maxHeartbeats 1000000 in
set_option maxRecDepth 100000 in
theorem k_mstands (l : Launch) (D : va_G) (am : Nat → Nat) (cI cR cS cL : ClassId) (dg : Int64) (mem : zM) {k : Nat} (hk : k < 4) {R : Nat → Int32} {p0 : Nat} (hR : mR (mem 1) k R p0) (hQ : rQ R p0) (hfd : rFd R) : zMi l yX6_stands wsX6_stands ({ frames := 3, cells := 0, slots := 0, locals := 76 }) D (cK cI cR cS cL) [.ref (am 0), .int (nI k)] (mw am cI dg mem) (fun r u => r = fStands R ∧ zScr mem u ∧ mFd R u) (mw am cI dg) 0 0 := by
  refine zMiM.of (cc := cX6_stands) (maxL := 2) (ret := (some .boolean)) (by decide +kernel) rfl (lv0 := [(0, .ref (am 0)), (1, .int (nI k))]) (Nat.le_of_ble_eq_true rfl) rfl ?_
  intro p e s m args below meth c E hZ hr hlocks hnm
  obtain ⟨lo, hi, H⟩ := rLH_rig hfd hQ
  refine z_aload_n E dX6_stands_0 rfl 0 rfl ?_
  refine z_iload_n E dX6_stands_1 rfl 1 rfl ?_
  refine z_callVi E hZ (k_mforces l D am cI cR cS cL dg mem hk hR hQ hfd) gX6_stands_X6_forces (n := 1) rfl rfl rfl (by decide +kernel) rfl ⟨(Nat.le_of_ble_eq_true rfl), (Nat.le_of_ble_eq_true rfl)⟩ (C := RX6) rfl 0 mw_obj (As := [.int (nI k)]) (rest := []) rfl (Nat.le_of_ble_eq_true rfl) ⟨(Nat.le_of_ble_eq_true rfl), (Nat.le_of_ble_eq_true rfl)⟩ dX6_stands_2 (fun r m1 hp => ?_)
  rw [hp.1]
  have sm1 : zScr mem m1 := (zScr.refl mem).trans hp.2.1
  have fm1 : mFd R m1 := hp.2.2
  refine z_if_le (tgt := 12) E dX6_stands_5 (by decide) (fun c5 => ?_) (fun c5 => ?_)
  · skip
    refine z_iconst (v := 0) E dX6_stands_12 (by decide) ?_
    exact z_izretM E hr hlocks (m1) rfl rfl ⟨(Decidable.not_not.mp (fun q => Int32.not_lt.mpr c5 ((fStands_iff H).mpr q))).symm, sm1, fm1⟩ (Nat.le_of_ble_eq_true rfl) (Nat.le_of_ble_eq_true rfl) dX6_stands_13
  · skip
    refine z_iconst (v := 1) E dX6_stands_8 (by decide) ?_
    refine z_goto (tgt := 13) E dX6_stands_9 (by decide) ?_
    exact z_izretM E hr hlocks (m1) rfl rfl ⟨((fStands_01 R).resolve_left ((fStands_iff H).mp (Int32.not_le.mp c5))).symm, sm1, fm1⟩ (Nat.le_of_ble_eq_true rfl) (Nat.le_of_ble_eq_true rfl) dX6_stands_13
