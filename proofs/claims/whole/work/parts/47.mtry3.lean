/-! the reference: the riskiest -/
theorem nI_ne1 {n : Nat} (h : n < 2147483648) : ¬ nI n = -1 := fun q => by
  have := (zeqI (zL h) (show (-1 : Int32).toInt = -1 by decide)).mp q
  omega
set_option maxHeartbeats 1000000 in
set_option maxRecDepth 100000 in
theorem k_mriskiestOf (l : Launch) (D : va_G) (am : Nat → Nat) (cI cR cS cL : ClassId) (dg : Int64) (mem : zM) {k : Nat} (hk : k < 4) {R : Nat → Int32} {p0 : Nat} (hR : mR (mem 1) k R p0) (hpp : rPp R p0) (hfd : rFd R) : zMi l yX6_riskiestOf wsX6_riskiestOf ({ frames := 3, cells := 0, slots := 0, locals := 76 }) D (cK cI cR cS cL) [.ref (am 0), .int (nI k)] (mw am cI dg mem) (fun r u => r = fRK R ∧ zScr mem u) (mw am cI dg) 0 0 := by
  refine zMiM.of (cc := cX6_riskiestOf) (maxL := 7) (ret := (some .int)) (by decide +kernel) rfl (lv0 := [(0, .ref (am 0)), (1, .int (nI k))]) (Nat.le_of_ble_eq_true rfl) rfl ?_
  intro p e s m args below meth c E hZ hr hlocks hnm
  obtain ⟨q0, q1, q2, q3, q4, q5, q6, q7, qp⟩ := id hR
  have hp3 := hpp.1
  refine z_iconst (v := -1) E dX6_riskiestOf_0 (by decide) ?_
  refine z_istore_n (lv' := [(2, .int (-1)), (0, .ref (am 0)), (1, .int (nI k))]) E dX6_riskiestOf_1 rfl (by decide) rfl ?_
  refine z_iconst (v := -1) E dX6_riskiestOf_2 (by decide) ?_
  refine z_istore_n (lv' := [(3, .int (-1)), (2, .int (-1)), (0, .ref (am 0)), (1, .int (nI k))]) E dX6_riskiestOf_3 rfl (by decide) rfl ?_
  refine z_iconst (v := 0) E dX6_riskiestOf_4 (by decide) ?_
  refine z_istore (lv' := [(4, .int 0), (3, .int (-1)), (2, .int (-1)), (0, .ref (am 0)), (1, .int (nI k))]) E dX6_riskiestOf_5 (by decide) rfl ?_
  refine z_loop (σ := zM × Nat × Int32 × Int32) (fun n y => y.2.1 + n = p0 ∧ zScr mem y.1 ∧ ((y.2.1 = 0 ∧ y.2.2.1 = -1 ∧ y.2.2.2 = -1 ∧ fRK R = fRKGo R n 0 (-1) 0) ∨ (0 < y.2.1 ∧ (¬ y.2.2.1 = -1) ∧ 0 ≤ y.2.2.2 ∧ fRK R = fRKGo R n y.2.1 y.2.2.1 y.2.2.2))) (fun y => mw am cI dg y.1) (fun y => [(4, .int (nI y.2.1)), (3, .int y.2.2.2), (2, .int y.2.2.1), (0, .ref (am 0)), (1, .int (nI k))]) 7 0 0 ?_ p0 (mem, 0, -1, -1) ⟨Nat.zero_add _, zScr.refl _, Or.inl ⟨rfl, rfl, rfl, by unfold fRK; rw [hpp.2.1, nI_clamp (by omega)]⟩⟩ rfl rfl rfl rfl rfl
  rintro n ⟨m, t, found, most⟩ ⟨htn, hsc, hI⟩ ih
  dsimp only at htn hsc hI ⊢
  have q6m : m 1 (14 * k + 6) = nI p0 := by rw [hsc.s]; exact q6
  refine z_iload E dX6_riskiestOf_7 0 rfl ?_
  refine z_aload_n E dX6_riskiestOf_9 rfl 3 rfl ?_
  refine z_get E 0 mw_obj (C := RX6) (T := TX6) (N := 16) rfl (fun _ h => List.mem_cons_of_mem _ (List.mem_append_right _ h)) 1 (by decide) (List.mem_of_getElem? (i := 1) (by decide +kernel)) rfl (v := .ref (am 1)) rfl dX6_riskiestOf_10 ?_
  refine z_iload_n E dX6_riskiestOf_13 rfl 4 rfl ?_
  refine z_bipush (v := 6) E dX6_riskiestOf_14 (by decide) ?_
  refine z_callSi E hZ (k_of l D am cI cR cS cL dg m (nI k) 6) gX6_riskiestOf_X6_of (n := 2) rfl rfl rfl (by decide +kernel) rfl ⟨Nat.le_of_ble_eq_true rfl, Nat.le_of_ble_eq_true rfl⟩ (As := [.int (nI k), .int 6]) (rest := [.ref (am 1), .int (nI t)]) rfl (Nat.le_of_ble_eq_true rfl) ⟨Nat.le_of_ble_eq_true rfl, Nat.le_of_ble_eq_true rfl⟩ dX6_riskiestOf_16 (fun r u hp => ?_)
  rw [hp.1, hp.2]
  rw [zof k (y := 6) (w := 6) rfl]
  refine z_iald E 1 0 mw_s rfl (vp_in_nI (by omega) (by decide)) (v := nI p0) ((congrArg (m 1) (nI_clamp (by omega))).trans q6m) dX6_riskiestOf_19 ?_
  refine z_icmp_ge (tgt := 103) E dX6_riskiestOf_20 (by decide) (fun c20 => ?_) (fun c20 => ?_)
  · skip
    refine z_iload_n E dX6_riskiestOf_103 rfl 2 rfl ?_
    exact z_iretM E hr hlocks (m) rfl ⟨by rcases hI with ⟨t0, f0, m0, hgo⟩ | ⟨t0, hfn, hmn, hgo⟩; rw [hgo, show n = 0 by have := (nI_leI (a := p0) (b := t) (by omega) (by omega)).mp c20; omega, f0]; rfl; rw [hgo, show n = 0 by have := (nI_leI (a := p0) (b := t) (by omega) (by omega)).mp c20; omega]; rfl, hsc⟩ (Nat.le_of_ble_eq_true rfl) (Nat.le_of_ble_eq_true rfl) dX6_riskiestOf_104
  · skip
    obtain ⟨n, rfl⟩ : ∃ n1, n = n1 + 1 := ⟨n - 1, by have := zklt (k := t) (L := p0) (by omega) (by omega) c20; omega⟩
    have ht : t < p0 := by omega
    have ht3 : t < 3 := by omega
    have hw : m 1 (14 * k + 8 + 2 * t) = R (8 + t) := by rw [hsc.s]; exact (qp t ht).1
    refine z_aload_n E dX6_riskiestOf_23 rfl 3 rfl ?_
    refine z_get E 0 mw_obj (C := RX6) (T := TX6) (N := 16) rfl (fun _ h => List.mem_cons_of_mem _ (List.mem_append_right _ h)) 1 (by decide) (List.mem_of_getElem? (i := 1) (by decide +kernel)) rfl (v := .ref (am 1)) rfl dX6_riskiestOf_24 ?_
    refine z_iload_n E dX6_riskiestOf_27 rfl 4 rfl ?_
    refine z_iload E dX6_riskiestOf_28 0 rfl ?_
    refine z_iconst (v := 0) E dX6_riskiestOf_30 (by decide) ?_
    refine z_callSi E hZ (k_ofP l D am cI cR cS cL dg m (nI k) (nI t) 0) gX6_riskiestOf_X6_ofPerson (n := 3) rfl rfl rfl (by decide +kernel) rfl ⟨Nat.le_of_ble_eq_true rfl, Nat.le_of_ble_eq_true rfl⟩ (As := [.int (nI k), .int (nI t), .int 0]) (rest := [.ref (am 1)]) rfl (Nat.le_of_ble_eq_true rfl) ⟨Nat.le_of_ble_eq_true rfl, Nat.le_of_ble_eq_true rfl⟩ dX6_riskiestOf_31 (fun r u hp => ?_)
    rw [hp.1, hp.2]
    rw [zofP k t (y := nI t) (z := 0) (w := 0) (N := 14 * k + 8 + 2 * t) rfl rfl (by omega)]
    refine z_iald E 1 0 mw_s rfl (vp_in_nI (by omega) (by decide)) (v := R (8 + t)) ((congrArg (m 1) (nI_clamp (by omega))).trans hw) dX6_riskiestOf_34 ?_
    refine z_istore (lv' := [(5, .int (R (8 + t))), (4, .int (nI t)), (3, .int most), (2, .int found), (0, .ref (am 0)), (1, .int (nI k))]) E dX6_riskiestOf_35 (by decide) rfl ?_
    refine z_aload_n E dX6_riskiestOf_37 rfl 4 rfl ?_
    refine z_get E 0 mw_obj (C := RX6) (T := TX6) (N := 16) rfl (fun _ h => List.mem_cons_of_mem _ (List.mem_append_right _ h)) 1 (by decide) (List.mem_of_getElem? (i := 1) (by decide +kernel)) rfl (v := .ref (am 1)) rfl dX6_riskiestOf_38 ?_
    refine z_iload_n E dX6_riskiestOf_41 rfl 5 rfl ?_
    refine z_iload E dX6_riskiestOf_42 1 rfl ?_
    refine z_iconst (v := 0) E dX6_riskiestOf_44 (by decide) ?_
    refine z_callSi E hZ (k_ofP l D am cI cR cS cL dg m (nI k) (nI t) 0) gX6_riskiestOf_X6_ofPerson (n := 3) rfl rfl rfl (by decide +kernel) rfl ⟨Nat.le_of_ble_eq_true rfl, Nat.le_of_ble_eq_true rfl⟩ (As := [.int (nI k), .int (nI t), .int 0]) (rest := [.ref (am 1)]) rfl (Nat.le_of_ble_eq_true rfl) ⟨Nat.le_of_ble_eq_true rfl, Nat.le_of_ble_eq_true rfl⟩ dX6_riskiestOf_45 (fun r u hp => ?_)
    rw [hp.1, hp.2]
    rw [zofP k t (y := nI t) (z := 0) (w := 0) (N := 14 * k + 8 + 2 * t) rfl rfl (by omega)]
    refine z_iconst (v := 0) E dX6_riskiestOf_48 (by decide) ?_
    refine z_iast E 1 0 mw_s rfl (vp_in_nI (by omega) (by decide)) (ws' := mw am cI dg (mset m 1 (14 * k + 8 + 2 * t) 0)) (by rw [nI_clamp (by omega)]; exact (ms_s (14 * k + 8 + 2 * t) 0)) dX6_riskiestOf_49 ?_
    refine z_gm2 (fun m1 hm1 => ?_)
    have xm1_0 : m1 1 (14 * k + 6) = nI p0 := by rw [hm1, mset_ne2 _ _ (by omega)]; exact q6m
    have xm1_1 : m1 1 (14 * k + 8 + 2 * t) = 0 := by rw [hm1, mset_at]
    refine z_aload_n E dX6_riskiestOf_50 rfl 4 rfl ?_
    refine z_iload_n E dX6_riskiestOf_51 rfl 5 rfl ?_
    have hz2 : zScr (mset mem 1 (14 * k + 8 + 2 * t) 0) m1 := by rw [hm1]; exact hsc.set (by decide) _ _
    have hmR2 : mR (m1 1) k (upd R (8 + t) 0) p0 := by rw [zScr_w hz2]; exact mR_wt hpp.1 ht3 hR
    refine z_callVi E hZ (k_mforces l D am cI cR cS cL dg m1 hk hmR2 (rQ_wt ht3 (rQ_of hpp)) (rFd_congr (fun i hi => pk_un (by omega)) hfd)) gX6_riskiestOf_X6_forces (n := 1) rfl rfl rfl (by decide +kernel) rfl ⟨(Nat.le_of_ble_eq_true rfl), (Nat.le_of_ble_eq_true rfl)⟩ (C := RX6) rfl 0 mw_obj (As := [.int (nI k)]) (rest := []) rfl (Nat.le_of_ble_eq_true rfl) ⟨(Nat.le_of_ble_eq_true rfl), (Nat.le_of_ble_eq_true rfl)⟩ dX6_riskiestOf_52 (fun r m2 hp => ?_)
    rw [hp.1, fForces_rm ht3]
    have hz3 := hz2.trans hp.2.1
    have hfo0 : 0 ≤ fForces (rmR R t) := by
      rw [← fForces_rm ht3]
      obtain ⟨lo, hi, H⟩ := rLH_rig (rFd_congr (R := R) (R' := upd R (8 + t) 0) (fun i hi => pk_un (by omega)) hfd) (rQ_wt ht3 (rQ_of hpp))
      rw [zleI zc0 (fForces_toInt H)]; omega
    generalize hfo : fForces (rmR R t) = fo at hfo0
    skip
    refine z_istore (lv' := [(6, .int fo), (5, .int (R (8 + t))), (4, .int (nI t)), (3, .int most), (2, .int found), (0, .ref (am 0)), (1, .int (nI k))]) E dX6_riskiestOf_55 (by decide) rfl ?_
    refine z_aload_n E dX6_riskiestOf_57 rfl 5 rfl ?_
    refine z_get E 0 mw_obj (C := RX6) (T := TX6) (N := 16) rfl (fun _ h => List.mem_cons_of_mem _ (List.mem_append_right _ h)) 1 (by decide) (List.mem_of_getElem? (i := 1) (by decide +kernel)) rfl (v := .ref (am 1)) rfl dX6_riskiestOf_58 ?_
    refine z_iload_n E dX6_riskiestOf_61 rfl 6 rfl ?_
    refine z_iload E dX6_riskiestOf_62 2 rfl ?_
    refine z_iconst (v := 0) E dX6_riskiestOf_64 (by decide) ?_
    refine z_callSi E hZ (k_ofP l D am cI cR cS cL dg m2 (nI k) (nI t) 0) gX6_riskiestOf_X6_ofPerson (n := 3) rfl rfl rfl (by decide +kernel) rfl ⟨Nat.le_of_ble_eq_true rfl, Nat.le_of_ble_eq_true rfl⟩ (As := [.int (nI k), .int (nI t), .int 0]) (rest := [.ref (am 1)]) rfl (Nat.le_of_ble_eq_true rfl) ⟨Nat.le_of_ble_eq_true rfl, Nat.le_of_ble_eq_true rfl⟩ dX6_riskiestOf_65 (fun r u hp => ?_)
    rw [hp.1, hp.2]
    rw [zofP k t (y := nI t) (z := 0) (w := 0) (N := 14 * k + 8 + 2 * t) rfl rfl (by omega)]
    refine z_iload E dX6_riskiestOf_68 1 rfl ?_
    refine z_iast E 1 0 mw_s rfl (vp_in_nI (by omega) (by decide)) (ws' := mw am cI dg (mset m2 1 (14 * k + 8 + 2 * t) (R (8 + t)))) (by rw [nI_clamp (by omega)]; exact (ms_s (14 * k + 8 + 2 * t) (R (8 + t)))) dX6_riskiestOf_70 ?_
    refine z_gm2 (fun m3 hm3 => ?_)
    have sm : zScr mem m3 := by rw [hm3]; exact zScr_back hz3 (qp t ht).1
    refine z_iload E dX6_riskiestOf_71 0 rfl ?_
    refine z_iload_n E dX6_riskiestOf_73 rfl 3 rfl ?_
    refine z_icmp_le (tgt := 82) E dX6_riskiestOf_74 (by decide) (fun c74 => ?_) (fun c74 => ?_)
    · skip
      refine z_iload_n E dX6_riskiestOf_82 rfl 4 rfl ?_
      refine z_istore_n (lv' := [(2, .int found), (6, .int fo), (5, .int (R (8 + t))), (4, .int (nI t)), (3, .int most), (0, .ref (am 0)), (1, .int (nI k))]) E dX6_riskiestOf_83 rfl (by decide) rfl ?_
      refine z_iload E dX6_riskiestOf_84 1 rfl ?_
      refine z_iload_n E dX6_riskiestOf_86 rfl 4 rfl ?_
      refine z_icmp_le_t (tgt := 95) E dX6_riskiestOf_87 (by decide) c74 ?_
      refine z_iload_n E dX6_riskiestOf_95 rfl 4 rfl ?_
      refine z_istore_n (lv' := [(3, .int most), (2, .int found), (6, .int fo), (5, .int (R (8 + t))), (4, .int (nI t)), (0, .ref (am 0)), (1, .int (nI k))]) E dX6_riskiestOf_96 rfl (by decide) rfl ?_
      refine z_iinc (v := nI t + 1) (lv' := [(4, .int (nI t + 1)), (3, .int most), (2, .int found), (6, .int fo), (5, .int (R (8 + t))), (0, .ref (am 0)), (1, .int (nI k))]) E dX6_riskiestOf_97 (q := 4) rfl rfl (by decide) rfl ?_
      refine z_goto (tgt := 7) E dX6_riskiestOf_100 (by decide) ?_
      refine z_lv [0, 1, 2, 5, 6] (lv' := [(4, .int (nI t + 1)), (3, .int most), (2, .int found), (0, .ref (am 0)), (1, .int (nI k))]) rfl ?_
      refine z_eq (ws' := mw am cI dg m3) (lv' := [(4, .int (nI (t + 1))), (3, .int most), (2, .int found), (0, .ref (am 0)), (1, .int (nI k))]) (st' := []) rfl (by rw [← nI_1 t]) rfl ?_
      rcases hI with ⟨t0, f0, m0, hgo⟩ | ⟨t0, hfn, hmn, hgo⟩
      · exfalso; rw [m0] at c74; have := (zleI rfl (show (-1 : Int32).toInt = -1 by decide)).mp c74; have := (zleI zc0 rfl).mp hfo0; omega
      · exact ih n (m3, t + 1, found, most) (by omega) ⟨by show t + 1 + n = p0; omega, sm, Or.inr ⟨by show 0 < t + 1; omega, hfn, hmn, hgo.trans ((fRKGo_s _ _ _ _ _).trans (by rw [hfo]; exact (if_neg hfn).trans (if_pos c74)))⟩⟩
    · skip
      refine z_iload E dX6_riskiestOf_77 2 rfl ?_
      refine z_goto (tgt := 83) E dX6_riskiestOf_79 (by decide) ?_
      refine z_istore_n (lv' := [(2, .int (nI t)), (6, .int fo), (5, .int (R (8 + t))), (4, .int (nI t)), (3, .int most), (0, .ref (am 0)), (1, .int (nI k))]) E dX6_riskiestOf_83 rfl (by decide) rfl ?_
      refine z_iload E dX6_riskiestOf_84 1 rfl ?_
      refine z_iload_n E dX6_riskiestOf_86 rfl 4 rfl ?_
      refine z_icmp_le_f (tgt := 95) E dX6_riskiestOf_87 (by decide) c74 ?_
      refine z_iload E dX6_riskiestOf_90 1 rfl ?_
      refine z_goto (tgt := 96) E dX6_riskiestOf_92 (by decide) ?_
      refine z_istore_n (lv' := [(3, .int fo), (2, .int (nI t)), (6, .int fo), (5, .int (R (8 + t))), (4, .int (nI t)), (0, .ref (am 0)), (1, .int (nI k))]) E dX6_riskiestOf_96 rfl (by decide) rfl ?_
      refine z_iinc (v := nI t + 1) (lv' := [(4, .int (nI t + 1)), (3, .int fo), (2, .int (nI t)), (6, .int fo), (5, .int (R (8 + t))), (0, .ref (am 0)), (1, .int (nI k))]) E dX6_riskiestOf_97 (q := 4) rfl rfl (by decide) rfl ?_
      refine z_goto (tgt := 7) E dX6_riskiestOf_100 (by decide) ?_
      refine z_lv [0, 1, 2, 5, 6] (lv' := [(4, .int (nI t + 1)), (3, .int fo), (2, .int (nI t)), (0, .ref (am 0)), (1, .int (nI k))]) rfl ?_
      refine z_eq (ws' := mw am cI dg m3) (lv' := [(4, .int (nI (t + 1))), (3, .int fo), (2, .int (nI t)), (0, .ref (am 0)), (1, .int (nI k))]) (st' := []) rfl (by rw [← nI_1 t]) rfl ?_
      have hnew : fRK R = fRKGo R n (t + 1) (nI t) fo := by
        rcases hI with ⟨t0, f0, m0, hgo⟩ | ⟨t0, hfn, hmn, hgo⟩
        · subst t0; exact hgo.trans ((fRKGo_s _ _ _ _ _).trans (by rw [hfo]; exact if_pos rfl))
        · exact hgo.trans ((fRKGo_s _ _ _ _ _).trans (by rw [hfo]; exact (if_neg hfn).trans (if_neg c74)))
      exact ih n (m3, t + 1, nI t, fo) (by omega) ⟨by show t + 1 + n = p0; omega, sm, Or.inr ⟨by show 0 < t + 1; omega, nI_ne1 (by omega), hfo0, hnew⟩⟩
