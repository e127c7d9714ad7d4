/-! the reference: the highest step, the riskiest person -/
theorem mR_step {s : Nat → Int32} {k p t : Nat} {R : Nat → Int32} {v : Int32} (hp : p ≤ 3) (h : mR s k R p) : mR (upd s (14 * k + 9 + 2 * t) v) k (upd R (11 + t) v) p := by
  obtain ⟨q0, q1, q2, q3, q4, q5, q6, q7, qp⟩ := h
  refine ⟨by rw [pk_un (by omega), pk_un (by omega)]; exact q0, by rw [pk_un (by omega), pk_un (by omega)]; exact q1, by rw [pk_un (by omega), pk_un (by omega)]; exact q2, by rw [pk_un (by omega), pk_un (by omega)]; exact q3, by rw [pk_un (by omega), pk_un (by omega)]; exact q4, by rw [pk_un (by omega), pk_un (by omega)]; exact q5, by rw [pk_un (by omega)]; exact q6, by rw [pk_un (by omega), pk_un (by omega)]; exact q7, fun i hi => ⟨?_, ?_⟩⟩
  · rw [pk_un (by omega), pk_un (by omega)]; exact (qp i hi).1
  · by_cases e : i = t
    · subst e; rw [pk_us, pk_us]
    · rw [pk_un (by omega), pk_un (by omega)]; exact (qp i hi).2
theorem mR_wt {s : Nat → Int32} {k p t : Nat} {R : Nat → Int32} {v : Int32} (hp : p ≤ 3) (ht : t < 3) (h : mR s k R p) : mR (upd s (14 * k + 8 + 2 * t) v) k (upd R (8 + t) v) p := by
  obtain ⟨q0, q1, q2, q3, q4, q5, q6, q7, qp⟩ := h
  refine ⟨by rw [pk_un (by omega), pk_un (by omega)]; exact q0, by rw [pk_un (by omega), pk_un (by omega)]; exact q1, by rw [pk_un (by omega), pk_un (by omega)]; exact q2, by rw [pk_un (by omega), pk_un (by omega)]; exact q3, by rw [pk_un (by omega), pk_un (by omega)]; exact q4, by rw [pk_un (by omega), pk_un (by omega)]; exact q5, by rw [pk_un (by omega)]; exact q6, by rw [pk_un (by omega), pk_un (by omega)]; exact q7, fun i hi => ⟨?_, ?_⟩⟩
  · by_cases e : i = t
    · subst e; rw [pk_us, pk_us]
    · rw [pk_un (by omega), pk_un (by omega)]; exact (qp i hi).1
  · rw [pk_un (by omega), pk_un (by omega)]; exact (qp i hi).2
theorem fForces_congr {R R' : Nat → Int32} (h : ∀ j, j < 6 → R' j = R j) (hL : fLoad R' = fLoad R) (hM : fMoment R' = fMoment R) : fForces R' = fForces R := by
  have hw : fWP R' = fWP R := by unfold fWP; rw [h 4 (by omega)]
  have hg : fGP R' = fGP R := by unfold fGP; rw [h 3 (by omega)]
  have h1 : fGreat R' = fGreat R := by unfold fGreat; rw [hw, hM, h 1 (by omega), h 0 (by omega)]
  have h2 : fLBW R' = fLBW R := by unfold fLBW; rw [hw, hM, h 1 (by omega), h 0 (by omega), h 4 (by omega)]
  have h3 : fLBG R' = fLBG R := by unfold fLBG fSlope fRoom; rw [hg, hM, hL, h 1 (by omega), h 0 (by omega), h 5 (by omega)]
  unfold fForces fLeast
  rw [h1, h2, h3]
theorem fForces_rm {R : Nat → Int32} {t : Nat} (ht : t < 3) : fForces (upd R (8 + t) 0) = fForces (rmR R t) := by
  refine fForces_congr (fun j hj => ?_) ?_ ?_
  · rw [pk_un (by omega)]; unfold rmR; rw [if_neg (by omega), if_pos (by omega)]
  · rcases (show t = 0 ∨ t = 1 ∨ t = 2 by omega) with rfl | rfl | rfl <;> simp [fLoad, upd, rmR, shiftR]
  · rcases (show t = 0 ∨ t = 1 ∨ t = 2 by omega) with rfl | rfl | rfl <;> simp [fMoment, upd, rmR, shiftR]
theorem rQ_wt {R : Nat → Int32} {p t : Nat} (ht : t < 3) (h : rQ R p) : rQ (upd R (8 + t) 0) p := by
  refine ⟨h.1, fun i hi => ?_⟩
  obtain ⟨a, b, d⟩ := h.2 i hi
  rw [pk_un (show 11 + i ≠ 8 + t by omega)]
  by_cases e : i = t
  · subst e
    rw [pk_us]
    exact ⟨⟨by decide, by decide⟩, b, fun _ => rfl⟩
  · rw [pk_un (show 8 + i ≠ 8 + t by omega)]
    exact ⟨a, b, d⟩
set_option maxHeartbeats 1000000 in
set_option maxRecDepth 100000 in
theorem k_mhighestOf (l : Launch) (D : va_G) (am : Nat → Nat) (cI cR cS cL : ClassId) (dg : Int64) (mem : zM) {k : Nat} (hk : k < 4) {R : Nat → Int32} {p0 : Nat} (hR : mR (mem 1) k R p0) (hpp : rPp R p0) (hfd : rFd R) {t : Nat} (ht : t < p0) : zMi l yX6_highestOf wsX6_highestOf ({ frames := 4, cells := 0, slots := 0, locals := 97 }) D (cK cI cR cS cL) [.ref (am 0), .int (nI k), .int (nI t)] (mw am cI dg mem) (fun r u => r = fHi R t ∧ zScr mem u) (mw am cI dg) 0 0 := by
  refine zMiM.of (cc := cX6_highestOf) (maxL := 7) (ret := (some .int)) (by decide +kernel) rfl (lv0 := [(0, .ref (am 0)), (1, .int (nI k)), (2, .int (nI t))]) (Nat.le_of_ble_eq_true rfl) rfl ?_
  intro p e s m args below meth c E hZ hr hlocks hnm
  have ht3 : t < 3 := by { have := hpp.1; omega }
  obtain ⟨a, ha, hRa⟩ : ∃ a, a ≤ 10 ∧ R (11 + t) = nI a := by { obtain ⟨w, a, _, _, h3, _, h5⟩ := (hpp.2.2 t ht3).1 ht; exact ⟨a, h3, h5⟩ }
  have hcur : mem 1 (14 * k + 9 + 2 * t) = nI a := (hR.2.2.2.2.2.2.2.2 t ht).2.trans hRa
  refine z_iload_n E dX6_highestOf_0 rfl 1 rfl ?_
  refine z_iload_n E dX6_highestOf_1 rfl 2 rfl ?_
  refine z_iconst (v := 1) E dX6_highestOf_2 (by decide) ?_
  refine z_callSi E hZ (k_ofP l D am cI cR cS cL dg mem (nI k) (nI t) 1) gX6_highestOf_X6_ofPerson (n := 3) rfl rfl rfl (by decide +kernel) rfl ⟨Nat.le_of_ble_eq_true rfl, Nat.le_of_ble_eq_true rfl⟩ (As := [.int (nI k), .int (nI t), .int 1]) (rest := []) rfl (Nat.le_of_ble_eq_true rfl) ⟨Nat.le_of_ble_eq_true rfl, Nat.le_of_ble_eq_true rfl⟩ dX6_highestOf_3 (fun r u hp => ?_)
  rw [hp.1, hp.2]
  rw [zofP k t (y := nI t) (z := 1) (w := 1) (N := 14 * k + 9 + 2 * t) rfl rfl (by omega)]
  refine z_istore_n (lv' := [(3, .int (nI (14 * k + 9 + 2 * t))), (0, .ref (am 0)), (1, .int (nI k)), (2, .int (nI t))]) E dX6_highestOf_6 rfl (by decide) rfl ?_
  refine z_aload_n E dX6_highestOf_7 rfl 1 rfl ?_
  refine z_get E 0 mw_obj (C := RX6) (T := TX6) (N := 16) rfl (fun _ h => List.mem_cons_of_mem _ (List.mem_append_right _ h)) 1 (by decide) (List.mem_of_getElem? (i := 1) (by decide +kernel)) rfl (v := .ref (am 1)) rfl dX6_highestOf_8 ?_
  refine z_iload_n E dX6_highestOf_11 rfl 0 rfl ?_
  refine z_iald E 1 0 mw_s rfl (vp_in_nI (by omega) (by decide)) (v := nI a) ((congrArg (mem 1) (nI_clamp (by omega))).trans hcur) dX6_highestOf_12 ?_
  refine z_istore (lv' := [(4, .int (nI a)), (3, .int (nI (14 * k + 9 + 2 * t))), (0, .ref (am 0)), (1, .int (nI k)), (2, .int (nI t))]) E dX6_highestOf_13 (by decide) rfl ?_
  refine z_iconst (v := 1) E dX6_highestOf_15 (by decide) ?_
  refine z_istore (lv' := [(5, .int 1), (4, .int (nI a)), (3, .int (nI (14 * k + 9 + 2 * t))), (0, .ref (am 0)), (1, .int (nI k)), (2, .int (nI t))]) E dX6_highestOf_16 (by decide) rfl ?_
  refine z_loop (σ := zM × Nat × Int32) (fun n y => zScr (mset mem 1 (14 * k + 9 + 2 * t) (nI y.2.1)) y.1 ∧ y.2.1 ≤ 10 ∧ ((y.2.2 = 1 ∧ y.2.1 + n = 10 ∧ fHi R t = fHiGo R t n y.2.1) ∨ (y.2.2 = 0 ∧ fHi R t = nI y.2.1 - 1))) (fun y => mw am cI dg y.1) (fun y => [(5, .int y.2.2), (4, .int (nI a)), (3, .int (nI (14 * k + 9 + 2 * t))), (0, .ref (am 0)), (1, .int (nI k)), (2, .int (nI t))]) 18 0 0 ?_ (10 - a) (mem, a, 1) ⟨by show zScr (mset mem 1 (14 * k + 9 + 2 * t) (nI a)) mem; rw [mset_same hcur]; exact zScr.refl _, ha, Or.inl ⟨rfl, by show a + (10 - a) = 10; omega, by show fHi R t = fHiGo R t (10 - a) a; unfold fHi; rw [hRa, nI_clamp (by omega)]⟩⟩ rfl rfl rfl rfl rfl
  rintro n ⟨m, j, go⟩ ⟨hz, hj10, hI⟩ ih
  dsimp only at hz hj10 hI ⊢
  have hcj : m 1 (14 * k + 9 + 2 * t) = nI j := by rw [zScr_w hz, pk_us]
  have hb : zScr mem (mset m 1 (14 * k + 9 + 2 * t) (nI a)) := zScr_back hz hcur
  rcases hI with ⟨hgo1, hjn, hgo⟩ | ⟨hgo1, hgo⟩
  · skip
    subst hgo1
    refine z_iload E dX6_highestOf_18 0 rfl ?_
    refine z_if_eq_f (tgt := 54) E dX6_highestOf_20 (by decide) (by decide) ?_
    refine z_aload_n E dX6_highestOf_23 rfl 3 rfl ?_
    refine z_get E 0 mw_obj (C := RX6) (T := TX6) (N := 16) rfl (fun _ h => List.mem_cons_of_mem _ (List.mem_append_right _ h)) 1 (by decide) (List.mem_of_getElem? (i := 1) (by decide +kernel)) rfl (v := .ref (am 1)) rfl dX6_highestOf_24 ?_
    refine z_iload_n E dX6_highestOf_27 rfl 2 rfl ?_
    refine z_iald E 1 0 mw_s rfl (vp_in_nI (by omega) (by decide)) (v := nI j) ((congrArg (m 1) (nI_clamp (by omega))).trans hcj) dX6_highestOf_28 ?_
    refine z_bipush (v := 10) E dX6_highestOf_29 (by decide) ?_
    refine z_icmp_ge (tgt := 54) E dX6_highestOf_31 (by decide) (fun c31 => ?_) (fun c31 => ?_)
    · skip
      refine z_iload E dX6_highestOf_54 0 rfl ?_
      refine z_if_eq_f (tgt := 68) E dX6_highestOf_56 (by decide) (by decide) ?_
      refine z_aload_n E dX6_highestOf_59 rfl 3 rfl ?_
      refine z_get E 0 mw_obj (C := RX6) (T := TX6) (N := 16) rfl (fun _ h => List.mem_cons_of_mem _ (List.mem_append_right _ h)) 1 (by decide) (List.mem_of_getElem? (i := 1) (by decide +kernel)) rfl (v := .ref (am 1)) rfl dX6_highestOf_60 ?_
      refine z_iload_n E dX6_highestOf_63 rfl 2 rfl ?_
      refine z_iald E 1 0 mw_s rfl (vp_in_nI (by omega) (by decide)) (v := nI j) ((congrArg (m 1) (nI_clamp (by omega))).trans hcj) dX6_highestOf_64 ?_
      refine z_goto (tgt := 76) E dX6_highestOf_65 (by decide) ?_
      refine z_istore (lv' := [(6, .int (nI j)), (5, .int 1), (4, .int (nI a)), (3, .int (nI (14 * k + 9 + 2 * t))), (0, .ref (am 0)), (1, .int (nI k)), (2, .int (nI t))]) E dX6_highestOf_76 (by decide) rfl ?_
      refine z_aload_n E dX6_highestOf_78 rfl 4 rfl ?_
      refine z_get E 0 mw_obj (C := RX6) (T := TX6) (N := 16) rfl (fun _ h => List.mem_cons_of_mem _ (List.mem_append_right _ h)) 1 (by decide) (List.mem_of_getElem? (i := 1) (by decide +kernel)) rfl (v := .ref (am 1)) rfl dX6_highestOf_79 ?_
      refine z_iload_n E dX6_highestOf_82 rfl 3 rfl ?_
      refine z_iload E dX6_highestOf_83 2 rfl ?_
      refine z_iast E 1 0 mw_s rfl (vp_in_nI (by omega) (by decide)) (ws' := mw am cI dg (mset m 1 (14 * k + 9 + 2 * t) (nI a))) (by rw [nI_clamp (by omega)]; exact (ms_s (14 * k + 9 + 2 * t) (nI a))) dX6_highestOf_85 ?_
      refine z_gm2 (fun m1 hm1 => ?_)
      have xm1_0 : m1 1 (14 * k + 9 + 2 * t) = nI a := by rw [hm1, mset_at]
      refine z_iload E dX6_highestOf_86 0 rfl ?_
      exact z_iretM E hr hlocks (m1) rfl ⟨(hgo.trans (by rw [show n = 0 by have := (nI_leI (a := 10) (b := j) (by omega) (by omega)).mp c31; omega]; rfl)).symm, by rw [hm1]; exact hb⟩ (Nat.le_of_ble_eq_true rfl) (Nat.le_of_ble_eq_true rfl) dX6_highestOf_88
    · skip
      obtain ⟨n, rfl⟩ : ∃ n1, n = n1 + 1 := ⟨n - 1, by have := zklt (k := j) (L := 10) (by omega) (by omega) c31; omega⟩
      refine z_aload_n E dX6_highestOf_34 rfl 3 rfl ?_
      refine z_get E 0 mw_obj (C := RX6) (T := TX6) (N := 16) rfl (fun _ h => List.mem_cons_of_mem _ (List.mem_append_right _ h)) 1 (by decide) (List.mem_of_getElem? (i := 1) (by decide +kernel)) rfl (v := .ref (am 1)) rfl dX6_highestOf_35 ?_
      refine z_iload_n E dX6_highestOf_38 rfl 2 rfl ?_
      refine z_dup2 E dX6_highestOf_39 rfl rfl ?_
      refine z_iald E 1 0 mw_s rfl (vp_in_nI (by omega) (by decide)) (v := nI j) ((congrArg (m 1) (nI_clamp (by omega))).trans hcj) dX6_highestOf_40 ?_
      refine z_iconst (v := 1) E dX6_highestOf_41 (by decide) ?_
      refine z_iadd E dX6_highestOf_42 ?_
      rw [nI_1 j]
      refine z_iast E 1 0 mw_s rfl (vp_in_nI (by omega) (by decide)) (ws' := mw am cI dg (mset m 1 (14 * k + 9 + 2 * t) (nI (j + 1)))) (by rw [nI_clamp (by omega)]; exact (ms_s (14 * k + 9 + 2 * t) (nI (j + 1)))) dX6_highestOf_43 ?_
      refine z_gm2 (fun m2 hm2 => ?_)
      have xm2_0 : m2 1 (14 * k + 9 + 2 * t) = nI (j + 1) := by rw [hm2, mset_at]
      refine z_aload_n E dX6_highestOf_44 rfl 3 rfl ?_
      refine z_iload_n E dX6_highestOf_45 rfl 4 rfl ?_
      have hz2 : zScr (mset mem 1 (14 * k + 9 + 2 * t) (nI (j + 1))) m2 := by rw [hm2]; exact zScr_over hz
      have hmR2 : mR (m2 1) k (upd R (11 + t) (nI (j + 1))) p0 := by rw [zScr_w hz2]; exact mR_step hpp.1 hR
      refine z_callVi E hZ (k_mstands l D am cI cR cS cL dg m2 hk hmR2 (rQ_of (rPp_step hpp ht (by omega))) (rFd_congr (fun i hi => pk_un (by omega)) hfd)) gX6_highestOf_X6_stands (n := 1) rfl rfl rfl (by decide +kernel) rfl ⟨(Nat.le_of_ble_eq_true rfl), (Nat.le_of_ble_eq_true rfl)⟩ (C := RX6) rfl 0 mw_obj (As := [.int (nI k)]) (rest := []) rfl (Nat.le_of_ble_eq_true rfl) ⟨(Nat.le_of_ble_eq_true rfl), (Nat.le_of_ble_eq_true rfl)⟩ dX6_highestOf_46 (fun r m3 hp => ?_)
      rw [hp.1]
      have sm3 := hz2.trans hp.2.1
      generalize hfs : fStands (upd R (11 + t) (nI (j + 1))) = fs
      refine z_istore (lv' := [(5, .int fs), (4, .int (nI a)), (3, .int (nI (14 * k + 9 + 2 * t))), (0, .ref (am 0)), (1, .int (nI k)), (2, .int (nI t))]) E dX6_highestOf_49 (by decide) rfl ?_
      refine z_goto (tgt := 18) E dX6_highestOf_51 (by decide) ?_
      rcases (show fs = 0 ∨ fs = 1 by rw [← hfs]; exact fStands_01 _) with hf | hf
      · exact ih n (m3, j + 1, fs) (by omega) ⟨sm3, by show j + 1 ≤ 10; omega, Or.inr ⟨hf, by show _ = nI (j + 1) - 1; rw [nI_pred]; exact hgo.trans ((fHiGo_s _ _ _ _).trans (if_pos (hfs.trans hf)))⟩⟩
      · exact ih n (m3, j + 1, fs) (by omega) ⟨sm3, by show j + 1 ≤ 10; omega, Or.inl ⟨hf, by show j + 1 + n = 10; omega, hgo.trans ((fHiGo_s _ _ _ _).trans (if_neg (by rw [hfs, hf]; decide)))⟩⟩
  · skip
    subst hgo1
    refine z_iload E dX6_highestOf_18 0 rfl ?_
    refine z_if_eq_t (tgt := 54) E dX6_highestOf_20 (by decide) (by decide) ?_
    refine z_iload E dX6_highestOf_54 0 rfl ?_
    refine z_if_eq_t (tgt := 68) E dX6_highestOf_56 (by decide) (by decide) ?_
    refine z_aload_n E dX6_highestOf_68 rfl 3 rfl ?_
    refine z_get E 0 mw_obj (C := RX6) (T := TX6) (N := 16) rfl (fun _ h => List.mem_cons_of_mem _ (List.mem_append_right _ h)) 1 (by decide) (List.mem_of_getElem? (i := 1) (by decide +kernel)) rfl (v := .ref (am 1)) rfl dX6_highestOf_69 ?_
    refine z_iload_n E dX6_highestOf_72 rfl 2 rfl ?_
    refine z_iald E 1 0 mw_s rfl (vp_in_nI (by omega) (by decide)) (v := nI j) ((congrArg (m 1) (nI_clamp (by omega))).trans hcj) dX6_highestOf_73 ?_
    refine z_iconst (v := 1) E dX6_highestOf_74 (by decide) ?_
    refine z_isub E dX6_highestOf_75 ?_
    refine z_istore (lv' := [(6, .int ((nI j) - 1)), (5, .int 0), (4, .int (nI a)), (3, .int (nI (14 * k + 9 + 2 * t))), (0, .ref (am 0)), (1, .int (nI k)), (2, .int (nI t))]) E dX6_highestOf_76 (by decide) rfl ?_
    refine z_aload_n E dX6_highestOf_78 rfl 4 rfl ?_
    refine z_get E 0 mw_obj (C := RX6) (T := TX6) (N := 16) rfl (fun _ h => List.mem_cons_of_mem _ (List.mem_append_right _ h)) 1 (by decide) (List.mem_of_getElem? (i := 1) (by decide +kernel)) rfl (v := .ref (am 1)) rfl dX6_highestOf_79 ?_
    refine z_iload_n E dX6_highestOf_82 rfl 3 rfl ?_
    refine z_iload E dX6_highestOf_83 2 rfl ?_
    refine z_iast E 1 0 mw_s rfl (vp_in_nI (by omega) (by decide)) (ws' := mw am cI dg (mset m 1 (14 * k + 9 + 2 * t) (nI a))) (by rw [nI_clamp (by omega)]; exact (ms_s (14 * k + 9 + 2 * t) (nI a))) dX6_highestOf_85 ?_
    refine z_gm2 (fun m4 hm4 => ?_)
    have xm4_0 : m4 1 (14 * k + 9 + 2 * t) = nI a := by rw [hm4, mset_at]
    refine z_iload E dX6_highestOf_86 0 rfl ?_
    exact z_iretM E hr hlocks (m4) rfl ⟨hgo.symm, by rw [hm4]; exact hb⟩ (Nat.le_of_ble_eq_true rfl) (Nat.le_of_ble_eq_true rfl) dX6_highestOf_88
