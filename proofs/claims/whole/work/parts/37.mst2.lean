/-! the reference: somebody goes -/
theorem zS_rm {c : zM} {s s' : Nat → Int32} {k p t : Nat} (hk : k < 4) (h : zS c s) (hp : rPp (rv c k) p) (ht : t < p) (hm : mR s' k (rmR (rv c k) t) (p - 1)) (out : ∀ j, (j < 14 * k ∨ 14 * k + 14 ≤ j) → s' j = s j) : zS (sRemove c k (nI t)) s' := by
  have hp3 := hp.1
  have ho := zOnly_remove k c (nI t)
  have hrv : rv (sRemove c k (nI t)) k = rmR (rv c k) t := by
    rw [rv_remove (fBears_of hp.2.1 hp.1 ht), nI_clamp (by omega)]
  refine zS_rig (k := k) h (fun i hi ne => ho.rv ne) (fun j hj ne => out j ne) (by rw [hrv]; exact rPp_rm hp ht) (by rw [hrv]; exact hm) ?_ ?_
  · rw [out _ (by omega), ho 87 (by omega) (by omega) (by omega)]; exact h.2.1
  · rw [out _ (by omega), ho 87 (by omega) (by omega) (by omega)]; exact h.2.2
set_option maxHeartbeats 1000000 in
set_option maxRecDepth 100000 in
theorem k_takesOff (l : Launch) (D : va_G) (am : Nat → Nat) (cI cR cS cL : ClassId) (dg : Int64) (mem : zM) {k : Nat} (hk : k < 4) {R : Nat → Int32} {p0 : Nat} (hR : mR (mem 1) k R p0) (hp3 : p0 ≤ 3) {t : Nat} (ht : t < p0) : zMv l yX6_takesOff wsX6_takesOff ({ frames := 1, cells := 0, slots := 0, locals := 22 }) D (cK cI cR cS cL) [.ref (am 0), .int (nI k), .int (nI t)] (mw am cI dg mem) (fun u => mR (u 1) k (rmR R t) (p0 - 1) ∧ (∀ j, (j < 14 * k ∨ 14 * k + 14 ≤ j) → u 1 j = mem 1 j) ∧ zFr mem u) (mw am cI dg) 0 0 := by
  refine zMvM.of (cc := cX6_takesOff) (maxL := 4) (ret := none) (by decide +kernel) rfl (lv0 := [(0, .ref (am 0)), (1, .int (nI k)), (2, .int (nI t))]) (Nat.le_of_ble_eq_true rfl) rfl ?_
  intro p e s m args below meth c E hZ hr hlocks hnm
  obtain ⟨q0, q1, q2, q3, q4, q5, q6, q7, qp⟩ := hR
  obtain ⟨v0, hv0⟩ : ∃ v, mem 1 (14 * k + 8) = v := ⟨_, rfl⟩
  obtain ⟨v1, hv1⟩ : ∃ v, mem 1 (14 * k + 9) = v := ⟨_, rfl⟩
  obtain ⟨v2, hv2⟩ : ∃ v, mem 1 (14 * k + 10) = v := ⟨_, rfl⟩
  obtain ⟨v3, hv3⟩ : ∃ v, mem 1 (14 * k + 11) = v := ⟨_, rfl⟩
  obtain ⟨v4, hv4⟩ : ∃ v, mem 1 (14 * k + 12) = v := ⟨_, rfl⟩
  obtain ⟨v5, hv5⟩ : ∃ v, mem 1 (14 * k + 13) = v := ⟨_, rfl⟩
  rcases (show (p0 = 1 ∧ t = 0) ∨ (p0 = 2 ∧ t = 0) ∨ (p0 = 2 ∧ t = 1) ∨ (p0 = 3 ∧ t = 0) ∨ (p0 = 3 ∧ t = 1) ∨ (p0 = 3 ∧ t = 2) by omega) with ⟨h1, h2⟩ | ⟨h1, h2⟩ | ⟨h1, h2⟩ | ⟨h1, h2⟩ | ⟨h1, h2⟩ | ⟨h1, h2⟩
  · skip
    subst h1; subst h2
    have r0 : v0 = R 8 := hv0.symm.trans (qp 0 (by omega)).1
    have r1 : v1 = R 11 := hv1.symm.trans (qp 0 (by omega)).2
    refine z_iload_n E dX6_takesOff_0 rfl 1 rfl ?_
    refine z_iload_n E dX6_takesOff_1 rfl 2 rfl ?_
    refine z_iconst (v := 0) E dX6_takesOff_2 (by decide) ?_
    refine z_callSi E hZ (k_ofP l D am cI cR cS cL dg mem (nI k) (nI 0) 0) gX6_takesOff_X6_ofPerson (n := 3) rfl rfl rfl (by decide +kernel) rfl ⟨Nat.le_of_ble_eq_true rfl, Nat.le_of_ble_eq_true rfl⟩ (As := [.int (nI k), .int (nI 0), .int 0]) (rest := []) rfl (Nat.le_of_ble_eq_true rfl) ⟨Nat.le_of_ble_eq_true rfl, Nat.le_of_ble_eq_true rfl⟩ dX6_takesOff_3 (fun r u hp => ?_)
    rw [hp.1, hp.2]
    rw [zofP k 0 (y := nI 0) (z := 0) (w := 0) (N := 14 * k + 8) rfl rfl (by omega)]
    refine z_istore_n (lv' := [(3, .int (nI (14 * k + 8))), (0, .ref (am 0)), (1, .int (nI k)), (2, .int (nI 0))]) E dX6_takesOff_6 rfl (by decide) rfl ?_
    refine z_iload_n E dX6_takesOff_7 rfl 0 rfl ?_
    refine z_iload_n E dX6_takesOff_8 rfl 2 rfl ?_
    refine z_iconst (v := 2) E dX6_takesOff_9 (by decide) ?_
    refine z_iconst (v := 0) E dX6_takesOff_10 (by decide) ?_
    refine z_callSi E hZ (k_ofP l D am cI cR cS cL dg mem (nI k) 2 0) gX6_takesOff_X6_ofPerson (n := 3) rfl rfl rfl (by decide +kernel) rfl ⟨Nat.le_of_ble_eq_true rfl, Nat.le_of_ble_eq_true rfl⟩ (As := [.int (nI k), .int 2, .int 0]) (rest := [.int (nI (14 * k + 8))]) rfl (Nat.le_of_ble_eq_true rfl) ⟨Nat.le_of_ble_eq_true rfl, Nat.le_of_ble_eq_true rfl⟩ dX6_takesOff_11 (fun r u hp => ?_)
    rw [hp.1, hp.2]
    rw [zofP k 2 (y := 2) (z := 0) (w := 0) (N := 14 * k + 12) rfl rfl (by omega)]
    refine z_icmp_ge_f (tgt := 37) E dX6_takesOff_14 (by decide) (fun h => by have := (nI_leI (by omega) (by omega)).mp h; omega) ?_
    refine z_aload_n E dX6_takesOff_17 rfl 1 rfl ?_
    refine z_get E 0 mw_obj (C := RX6) (T := TX6) (N := 16) rfl (fun _ h => List.mem_cons_of_mem _ (List.mem_append_right _ h)) 1 (by decide) (List.mem_of_getElem? (i := 1) (by decide +kernel)) rfl (v := .ref (am 1)) rfl dX6_takesOff_18 ?_
    refine z_iload_n E dX6_takesOff_21 rfl 0 rfl ?_
    refine z_aload_n E dX6_takesOff_22 rfl 1 rfl ?_
    refine z_get E 0 mw_obj (C := RX6) (T := TX6) (N := 16) rfl (fun _ h => List.mem_cons_of_mem _ (List.mem_append_right _ h)) 1 (by decide) (List.mem_of_getElem? (i := 1) (by decide +kernel)) rfl (v := .ref (am 1)) rfl dX6_takesOff_23 ?_
    refine z_iload_n E dX6_takesOff_26 rfl 0 rfl ?_
    refine z_iconst (v := 2) E dX6_takesOff_27 (by decide) ?_
    refine z_iadd E dX6_takesOff_28 ?_
    rw [show nI (14 * k + 8) + 2 = nI (14 * k + 10) from nI_add _ 2]
    refine z_iald E 1 0 mw_s rfl (vp_in_nI (by omega) (by decide)) (v := v2) ((congrArg (mem 1) (nI_clamp (by omega))).trans hv2) dX6_takesOff_29 ?_
    refine z_iast E 1 0 mw_s rfl (vp_in_nI (by omega) (by decide)) (ws' := mw am cI dg (mset mem 1 (14 * k + 8) v2)) (by rw [nI_clamp (by omega)]; exact (ms_s (14 * k + 8) v2)) dX6_takesOff_30 ?_
    refine z_gm2 (fun m1 hm1 => ?_)
    have xm1_0 : m1 1 (14 * k + 0) = R 0 := by rw [hm1, mset_ne2 _ _ (by omega)]; exact q0
    have xm1_1 : m1 1 (14 * k + 1) = R 1 := by rw [hm1, mset_ne2 _ _ (by omega)]; exact q1
    have xm1_2 : m1 1 (14 * k + 2) = R 2 := by rw [hm1, mset_ne2 _ _ (by omega)]; exact q2
    have xm1_3 : m1 1 (14 * k + 3) = R 3 := by rw [hm1, mset_ne2 _ _ (by omega)]; exact q3
    have xm1_4 : m1 1 (14 * k + 4) = R 4 := by rw [hm1, mset_ne2 _ _ (by omega)]; exact q4
    have xm1_5 : m1 1 (14 * k + 5) = R 5 := by rw [hm1, mset_ne2 _ _ (by omega)]; exact q5
    have xm1_6 : m1 1 (14 * k + 7) = R 6 := by rw [hm1, mset_ne2 _ _ (by omega)]; exact q7
    have xm1_7 : m1 1 (14 * k + 6) = 1 := by rw [hm1, mset_ne2 _ _ (by omega)]; exact q6
    have xm1_8 : m1 1 (14 * k + 8) = v2 := by rw [hm1, mset_at]
    have xm1_9 : m1 1 (14 * k + 9) = v1 := by rw [hm1, mset_ne2 _ _ (by omega)]; exact hv1
    have xm1_10 : m1 1 (14 * k + 10) = v2 := by rw [hm1, mset_ne2 _ _ (by omega)]; exact hv2
    have xm1_11 : m1 1 (14 * k + 11) = v3 := by rw [hm1, mset_ne2 _ _ (by omega)]; exact hv3
    have xm1_12 : m1 1 (14 * k + 12) = v4 := by rw [hm1, mset_ne2 _ _ (by omega)]; exact hv4
    have xm1_13 : m1 1 (14 * k + 13) = v5 := by rw [hm1, mset_ne2 _ _ (by omega)]; exact hv5
    refine z_iinc (v := nI (14 * k + 8) + 1) (lv' := [(3, .int (nI (14 * k + 8) + 1)), (0, .ref (am 0)), (1, .int (nI k)), (2, .int (nI 0))]) E dX6_takesOff_31 (q := 0) rfl rfl (by decide) rfl ?_
    refine z_eq (ws' := mw am cI dg m1) (lv' := [(3, .int (nI (14 * k + 9))), (0, .ref (am 0)), (1, .int (nI k)), (2, .int (nI 0))]) (st' := []) rfl (by rw [show nI (14 * k + 8) + 1 = nI (14 * k + 9) from nI_1 _]) rfl ?_
    refine z_goto (tgt := 7) E dX6_takesOff_34 (by decide) ?_
    refine z_iload_n E dX6_takesOff_7 rfl 0 rfl ?_
    refine z_iload_n E dX6_takesOff_8 rfl 2 rfl ?_
    refine z_iconst (v := 2) E dX6_takesOff_9 (by decide) ?_
    refine z_iconst (v := 0) E dX6_takesOff_10 (by decide) ?_
    refine z_callSi E hZ (k_ofP l D am cI cR cS cL dg m1 (nI k) 2 0) gX6_takesOff_X6_ofPerson (n := 3) rfl rfl rfl (by decide +kernel) rfl ⟨Nat.le_of_ble_eq_true rfl, Nat.le_of_ble_eq_true rfl⟩ (As := [.int (nI k), .int 2, .int 0]) (rest := [.int (nI (14 * k + 9))]) rfl (Nat.le_of_ble_eq_true rfl) ⟨Nat.le_of_ble_eq_true rfl, Nat.le_of_ble_eq_true rfl⟩ dX6_takesOff_11 (fun r u hp => ?_)
    rw [hp.1, hp.2]
    rw [zofP k 2 (y := 2) (z := 0) (w := 0) (N := 14 * k + 12) rfl rfl (by omega)]
    refine z_icmp_ge_f (tgt := 37) E dX6_takesOff_14 (by decide) (fun h => by have := (nI_leI (by omega) (by omega)).mp h; omega) ?_
    refine z_aload_n E dX6_takesOff_17 rfl 1 rfl ?_
    refine z_get E 0 mw_obj (C := RX6) (T := TX6) (N := 16) rfl (fun _ h => List.mem_cons_of_mem _ (List.mem_append_right _ h)) 1 (by decide) (List.mem_of_getElem? (i := 1) (by decide +kernel)) rfl (v := .ref (am 1)) rfl dX6_takesOff_18 ?_
    refine z_iload_n E dX6_takesOff_21 rfl 0 rfl ?_
    refine z_aload_n E dX6_takesOff_22 rfl 1 rfl ?_
    refine z_get E 0 mw_obj (C := RX6) (T := TX6) (N := 16) rfl (fun _ h => List.mem_cons_of_mem _ (List.mem_append_right _ h)) 1 (by decide) (List.mem_of_getElem? (i := 1) (by decide +kernel)) rfl (v := .ref (am 1)) rfl dX6_takesOff_23 ?_
    refine z_iload_n E dX6_takesOff_26 rfl 0 rfl ?_
    refine z_iconst (v := 2) E dX6_takesOff_27 (by decide) ?_
    refine z_iadd E dX6_takesOff_28 ?_
    rw [show nI (14 * k + 9) + 2 = nI (14 * k + 11) from nI_add _ 2]
    refine z_iald E 1 0 mw_s rfl (vp_in_nI (by omega) (by decide)) (v := v3) ((congrArg (m1 1) (nI_clamp (by omega))).trans xm1_11) dX6_takesOff_29 ?_
    refine z_iast E 1 0 mw_s rfl (vp_in_nI (by omega) (by decide)) (ws' := mw am cI dg (mset m1 1 (14 * k + 9) v3)) (by rw [nI_clamp (by omega)]; exact (ms_s (14 * k + 9) v3)) dX6_takesOff_30 ?_
    refine z_gm2 (fun m2 hm2 => ?_)
    have xm2_0 : m2 1 (14 * k + 0) = R 0 := by rw [hm2, mset_ne2 _ _ (by omega)]; exact xm1_0
    have xm2_1 : m2 1 (14 * k + 1) = R 1 := by rw [hm2, mset_ne2 _ _ (by omega)]; exact xm1_1
    have xm2_2 : m2 1 (14 * k + 2) = R 2 := by rw [hm2, mset_ne2 _ _ (by omega)]; exact xm1_2
    have xm2_3 : m2 1 (14 * k + 3) = R 3 := by rw [hm2, mset_ne2 _ _ (by omega)]; exact xm1_3
    have xm2_4 : m2 1 (14 * k + 4) = R 4 := by rw [hm2, mset_ne2 _ _ (by omega)]; exact xm1_4
    have xm2_5 : m2 1 (14 * k + 5) = R 5 := by rw [hm2, mset_ne2 _ _ (by omega)]; exact xm1_5
    have xm2_6 : m2 1 (14 * k + 7) = R 6 := by rw [hm2, mset_ne2 _ _ (by omega)]; exact xm1_6
    have xm2_7 : m2 1 (14 * k + 6) = 1 := by rw [hm2, mset_ne2 _ _ (by omega)]; exact xm1_7
    have xm2_8 : m2 1 (14 * k + 8) = v2 := by rw [hm2, mset_ne2 _ _ (by omega)]; exact xm1_8
    have xm2_9 : m2 1 (14 * k + 9) = v3 := by rw [hm2, mset_at]
    have xm2_10 : m2 1 (14 * k + 10) = v2 := by rw [hm2, mset_ne2 _ _ (by omega)]; exact xm1_10
    have xm2_11 : m2 1 (14 * k + 11) = v3 := by rw [hm2, mset_ne2 _ _ (by omega)]; exact xm1_11
    have xm2_12 : m2 1 (14 * k + 12) = v4 := by rw [hm2, mset_ne2 _ _ (by omega)]; exact xm1_12
    have xm2_13 : m2 1 (14 * k + 13) = v5 := by rw [hm2, mset_ne2 _ _ (by omega)]; exact xm1_13
    refine z_iinc (v := nI (14 * k + 9) + 1) (lv' := [(3, .int (nI (14 * k + 9) + 1)), (0, .ref (am 0)), (1, .int (nI k)), (2, .int (nI 0))]) E dX6_takesOff_31 (q := 0) rfl rfl (by decide) rfl ?_
    refine z_eq (ws' := mw am cI dg m2) (lv' := [(3, .int (nI (14 * k + 10))), (0, .ref (am 0)), (1, .int (nI k)), (2, .int (nI 0))]) (st' := []) rfl (by rw [show nI (14 * k + 9) + 1 = nI (14 * k + 10) from nI_1 _]) rfl ?_
    refine z_goto (tgt := 7) E dX6_takesOff_34 (by decide) ?_
    refine z_iload_n E dX6_takesOff_7 rfl 0 rfl ?_
    refine z_iload_n E dX6_takesOff_8 rfl 2 rfl ?_
    refine z_iconst (v := 2) E dX6_takesOff_9 (by decide) ?_
    refine z_iconst (v := 0) E dX6_takesOff_10 (by decide) ?_
    refine z_callSi E hZ (k_ofP l D am cI cR cS cL dg m2 (nI k) 2 0) gX6_takesOff_X6_ofPerson (n := 3) rfl rfl rfl (by decide +kernel) rfl ⟨Nat.le_of_ble_eq_true rfl, Nat.le_of_ble_eq_true rfl⟩ (As := [.int (nI k), .int 2, .int 0]) (rest := [.int (nI (14 * k + 10))]) rfl (Nat.le_of_ble_eq_true rfl) ⟨Nat.le_of_ble_eq_true rfl, Nat.le_of_ble_eq_true rfl⟩ dX6_takesOff_11 (fun r u hp => ?_)
    rw [hp.1, hp.2]
    rw [zofP k 2 (y := 2) (z := 0) (w := 0) (N := 14 * k + 12) rfl rfl (by omega)]
    refine z_icmp_ge_f (tgt := 37) E dX6_takesOff_14 (by decide) (fun h => by have := (nI_leI (by omega) (by omega)).mp h; omega) ?_
    refine z_aload_n E dX6_takesOff_17 rfl 1 rfl ?_
    refine z_get E 0 mw_obj (C := RX6) (T := TX6) (N := 16) rfl (fun _ h => List.mem_cons_of_mem _ (List.mem_append_right _ h)) 1 (by decide) (List.mem_of_getElem? (i := 1) (by decide +kernel)) rfl (v := .ref (am 1)) rfl dX6_takesOff_18 ?_
    refine z_iload_n E dX6_takesOff_21 rfl 0 rfl ?_
    refine z_aload_n E dX6_takesOff_22 rfl 1 rfl ?_
    refine z_get E 0 mw_obj (C := RX6) (T := TX6) (N := 16) rfl (fun _ h => List.mem_cons_of_mem _ (List.mem_append_right _ h)) 1 (by decide) (List.mem_of_getElem? (i := 1) (by decide +kernel)) rfl (v := .ref (am 1)) rfl dX6_takesOff_23 ?_
    refine z_iload_n E dX6_takesOff_26 rfl 0 rfl ?_
    refine z_iconst (v := 2) E dX6_takesOff_27 (by decide) ?_
    refine z_iadd E dX6_takesOff_28 ?_
    rw [show nI (14 * k + 10) + 2 = nI (14 * k + 12) from nI_add _ 2]
    refine z_iald E 1 0 mw_s rfl (vp_in_nI (by omega) (by decide)) (v := v4) ((congrArg (m2 1) (nI_clamp (by omega))).trans xm2_12) dX6_takesOff_29 ?_
    refine z_iast E 1 0 mw_s rfl (vp_in_nI (by omega) (by decide)) (ws' := mw am cI dg (mset m2 1 (14 * k + 10) v4)) (by rw [nI_clamp (by omega)]; exact (ms_s (14 * k + 10) v4)) dX6_takesOff_30 ?_
    refine z_gm2 (fun m3 hm3 => ?_)
    have xm3_0 : m3 1 (14 * k + 0) = R 0 := by rw [hm3, mset_ne2 _ _ (by omega)]; exact xm2_0
    have xm3_1 : m3 1 (14 * k + 1) = R 1 := by rw [hm3, mset_ne2 _ _ (by omega)]; exact xm2_1
    have xm3_2 : m3 1 (14 * k + 2) = R 2 := by rw [hm3, mset_ne2 _ _ (by omega)]; exact xm2_2
    have xm3_3 : m3 1 (14 * k + 3) = R 3 := by rw [hm3, mset_ne2 _ _ (by omega)]; exact xm2_3
    have xm3_4 : m3 1 (14 * k + 4) = R 4 := by rw [hm3, mset_ne2 _ _ (by omega)]; exact xm2_4
    have xm3_5 : m3 1 (14 * k + 5) = R 5 := by rw [hm3, mset_ne2 _ _ (by omega)]; exact xm2_5
    have xm3_6 : m3 1 (14 * k + 7) = R 6 := by rw [hm3, mset_ne2 _ _ (by omega)]; exact xm2_6
    have xm3_7 : m3 1 (14 * k + 6) = 1 := by rw [hm3, mset_ne2 _ _ (by omega)]; exact xm2_7
    have xm3_8 : m3 1 (14 * k + 8) = v2 := by rw [hm3, mset_ne2 _ _ (by omega)]; exact xm2_8
    have xm3_9 : m3 1 (14 * k + 9) = v3 := by rw [hm3, mset_ne2 _ _ (by omega)]; exact xm2_9
    have xm3_10 : m3 1 (14 * k + 10) = v4 := by rw [hm3, mset_at]
    have xm3_11 : m3 1 (14 * k + 11) = v3 := by rw [hm3, mset_ne2 _ _ (by omega)]; exact xm2_11
    have xm3_12 : m3 1 (14 * k + 12) = v4 := by rw [hm3, mset_ne2 _ _ (by omega)]; exact xm2_12
    have xm3_13 : m3 1 (14 * k + 13) = v5 := by rw [hm3, mset_ne2 _ _ (by omega)]; exact xm2_13
    refine z_iinc (v := nI (14 * k + 10) + 1) (lv' := [(3, .int (nI (14 * k + 10) + 1)), (0, .ref (am 0)), (1, .int (nI k)), (2, .int (nI 0))]) E dX6_takesOff_31 (q := 0) rfl rfl (by decide) rfl ?_
    refine z_eq (ws' := mw am cI dg m3) (lv' := [(3, .int (nI (14 * k + 11))), (0, .ref (am 0)), (1, .int (nI k)), (2, .int (nI 0))]) (st' := []) rfl (by rw [show nI (14 * k + 10) + 1 = nI (14 * k + 11) from nI_1 _]) rfl ?_
    refine z_goto (tgt := 7) E dX6_takesOff_34 (by decide) ?_
    refine z_iload_n E dX6_takesOff_7 rfl 0 rfl ?_
    refine z_iload_n E dX6_takesOff_8 rfl 2 rfl ?_
    refine z_iconst (v := 2) E dX6_takesOff_9 (by decide) ?_
    refine z_iconst (v := 0) E dX6_takesOff_10 (by decide) ?_
    refine z_callSi E hZ (k_ofP l D am cI cR cS cL dg m3 (nI k) 2 0) gX6_takesOff_X6_ofPerson (n := 3) rfl rfl rfl (by decide +kernel) rfl ⟨Nat.le_of_ble_eq_true rfl, Nat.le_of_ble_eq_true rfl⟩ (As := [.int (nI k), .int 2, .int 0]) (rest := [.int (nI (14 * k + 11))]) rfl (Nat.le_of_ble_eq_true rfl) ⟨Nat.le_of_ble_eq_true rfl, Nat.le_of_ble_eq_true rfl⟩ dX6_takesOff_11 (fun r u hp => ?_)
    rw [hp.1, hp.2]
    rw [zofP k 2 (y := 2) (z := 0) (w := 0) (N := 14 * k + 12) rfl rfl (by omega)]
    refine z_icmp_ge_f (tgt := 37) E dX6_takesOff_14 (by decide) (fun h => by have := (nI_leI (by omega) (by omega)).mp h; omega) ?_
    refine z_aload_n E dX6_takesOff_17 rfl 1 rfl ?_
    refine z_get E 0 mw_obj (C := RX6) (T := TX6) (N := 16) rfl (fun _ h => List.mem_cons_of_mem _ (List.mem_append_right _ h)) 1 (by decide) (List.mem_of_getElem? (i := 1) (by decide +kernel)) rfl (v := .ref (am 1)) rfl dX6_takesOff_18 ?_
    refine z_iload_n E dX6_takesOff_21 rfl 0 rfl ?_
    refine z_aload_n E dX6_takesOff_22 rfl 1 rfl ?_
    refine z_get E 0 mw_obj (C := RX6) (T := TX6) (N := 16) rfl (fun _ h => List.mem_cons_of_mem _ (List.mem_append_right _ h)) 1 (by decide) (List.mem_of_getElem? (i := 1) (by decide +kernel)) rfl (v := .ref (am 1)) rfl dX6_takesOff_23 ?_
    refine z_iload_n E dX6_takesOff_26 rfl 0 rfl ?_
    refine z_iconst (v := 2) E dX6_takesOff_27 (by decide) ?_
    refine z_iadd E dX6_takesOff_28 ?_
    rw [show nI (14 * k + 11) + 2 = nI (14 * k + 13) from nI_add _ 2]
    refine z_iald E 1 0 mw_s rfl (vp_in_nI (by omega) (by decide)) (v := v5) ((congrArg (m3 1) (nI_clamp (by omega))).trans xm3_13) dX6_takesOff_29 ?_
    refine z_iast E 1 0 mw_s rfl (vp_in_nI (by omega) (by decide)) (ws' := mw am cI dg (mset m3 1 (14 * k + 11) v5)) (by rw [nI_clamp (by omega)]; exact (ms_s (14 * k + 11) v5)) dX6_takesOff_30 ?_
    refine z_gm2 (fun m4 hm4 => ?_)
    have xm4_0 : m4 1 (14 * k + 0) = R 0 := by rw [hm4, mset_ne2 _ _ (by omega)]; exact xm3_0
    have xm4_1 : m4 1 (14 * k + 1) = R 1 := by rw [hm4, mset_ne2 _ _ (by omega)]; exact xm3_1
    have xm4_2 : m4 1 (14 * k + 2) = R 2 := by rw [hm4, mset_ne2 _ _ (by omega)]; exact xm3_2
    have xm4_3 : m4 1 (14 * k + 3) = R 3 := by rw [hm4, mset_ne2 _ _ (by omega)]; exact xm3_3
    have xm4_4 : m4 1 (14 * k + 4) = R 4 := by rw [hm4, mset_ne2 _ _ (by omega)]; exact xm3_4
    have xm4_5 : m4 1 (14 * k + 5) = R 5 := by rw [hm4, mset_ne2 _ _ (by omega)]; exact xm3_5
    have xm4_6 : m4 1 (14 * k + 7) = R 6 := by rw [hm4, mset_ne2 _ _ (by omega)]; exact xm3_6
    have xm4_7 : m4 1 (14 * k + 6) = 1 := by rw [hm4, mset_ne2 _ _ (by omega)]; exact xm3_7
    have xm4_8 : m4 1 (14 * k + 8) = v2 := by rw [hm4, mset_ne2 _ _ (by omega)]; exact xm3_8
    have xm4_9 : m4 1 (14 * k + 9) = v3 := by rw [hm4, mset_ne2 _ _ (by omega)]; exact xm3_9
    have xm4_10 : m4 1 (14 * k + 10) = v4 := by rw [hm4, mset_ne2 _ _ (by omega)]; exact xm3_10
    have xm4_11 : m4 1 (14 * k + 11) = v5 := by rw [hm4, mset_at]
    have xm4_12 : m4 1 (14 * k + 12) = v4 := by rw [hm4, mset_ne2 _ _ (by omega)]; exact xm3_12
    have xm4_13 : m4 1 (14 * k + 13) = v5 := by rw [hm4, mset_ne2 _ _ (by omega)]; exact xm3_13
    refine z_iinc (v := nI (14 * k + 11) + 1) (lv' := [(3, .int (nI (14 * k + 11) + 1)), (0, .ref (am 0)), (1, .int (nI k)), (2, .int (nI 0))]) E dX6_takesOff_31 (q := 0) rfl rfl (by decide) rfl ?_
    refine z_eq (ws' := mw am cI dg m4) (lv' := [(3, .int (nI (14 * k + 12))), (0, .ref (am 0)), (1, .int (nI k)), (2, .int (nI 0))]) (st' := []) rfl (by rw [show nI (14 * k + 11) + 1 = nI (14 * k + 12) from nI_1 _]) rfl ?_
    refine z_goto (tgt := 7) E dX6_takesOff_34 (by decide) ?_
    refine z_iload_n E dX6_takesOff_7 rfl 0 rfl ?_
    refine z_iload_n E dX6_takesOff_8 rfl 2 rfl ?_
    refine z_iconst (v := 2) E dX6_takesOff_9 (by decide) ?_
    refine z_iconst (v := 0) E dX6_takesOff_10 (by decide) ?_
    refine z_callSi E hZ (k_ofP l D am cI cR cS cL dg m4 (nI k) 2 0) gX6_takesOff_X6_ofPerson (n := 3) rfl rfl rfl (by decide +kernel) rfl ⟨Nat.le_of_ble_eq_true rfl, Nat.le_of_ble_eq_true rfl⟩ (As := [.int (nI k), .int 2, .int 0]) (rest := [.int (nI (14 * k + 12))]) rfl (Nat.le_of_ble_eq_true rfl) ⟨Nat.le_of_ble_eq_true rfl, Nat.le_of_ble_eq_true rfl⟩ dX6_takesOff_11 (fun r u hp => ?_)
    rw [hp.1, hp.2]
    rw [zofP k 2 (y := 2) (z := 0) (w := 0) (N := 14 * k + 12) rfl rfl (by omega)]
    refine z_icmp_ge_t (tgt := 37) E dX6_takesOff_14 (by decide) ((nI_leI (by omega) (by omega)).mpr (by omega)) ?_
    refine z_aload_n E dX6_takesOff_37 rfl 1 rfl ?_
    refine z_get E 0 mw_obj (C := RX6) (T := TX6) (N := 16) rfl (fun _ h => List.mem_cons_of_mem _ (List.mem_append_right _ h)) 1 (by decide) (List.mem_of_getElem? (i := 1) (by decide +kernel)) rfl (v := .ref (am 1)) rfl dX6_takesOff_38 ?_
    refine z_iload_n E dX6_takesOff_41 rfl 2 rfl ?_
    refine z_bipush (v := 6) E dX6_takesOff_42 (by decide) ?_
    refine z_callSi E hZ (k_of l D am cI cR cS cL dg m4 (nI k) 6) gX6_takesOff_X6_of (n := 2) rfl rfl rfl (by decide +kernel) rfl ⟨Nat.le_of_ble_eq_true rfl, Nat.le_of_ble_eq_true rfl⟩ (As := [.int (nI k), .int 6]) (rest := [.ref (am 1)]) rfl (Nat.le_of_ble_eq_true rfl) ⟨Nat.le_of_ble_eq_true rfl, Nat.le_of_ble_eq_true rfl⟩ dX6_takesOff_44 (fun r u hp => ?_)
    rw [hp.1, hp.2]
    rw [zof k (y := 6) (w := 6) rfl]
    refine z_dup2 E dX6_takesOff_47 rfl rfl ?_
    refine z_iald E 1 0 mw_s rfl (vp_in_nI (by omega) (by decide)) (v := 1) ((congrArg (m4 1) (nI_clamp (by omega))).trans xm4_7) dX6_takesOff_48 ?_
    refine z_iconst (v := 1) E dX6_takesOff_49 (by decide) ?_
    refine z_isubV (v := 0) E dX6_takesOff_50 (by decide) ?_
    refine z_iast E 1 0 mw_s rfl (vp_in_nI (by omega) (by decide)) (ws' := mw am cI dg (mset m4 1 (14 * k + 6) 0)) (by rw [nI_clamp (by omega)]; exact (ms_s (14 * k + 6) 0)) dX6_takesOff_51 ?_
    refine z_gm2 (fun m5 hm5 => ?_)
    have xm5_0 : m5 1 (14 * k + 0) = R 0 := by rw [hm5, mset_ne2 _ _ (by omega)]; exact xm4_0
    have xm5_1 : m5 1 (14 * k + 1) = R 1 := by rw [hm5, mset_ne2 _ _ (by omega)]; exact xm4_1
    have xm5_2 : m5 1 (14 * k + 2) = R 2 := by rw [hm5, mset_ne2 _ _ (by omega)]; exact xm4_2
    have xm5_3 : m5 1 (14 * k + 3) = R 3 := by rw [hm5, mset_ne2 _ _ (by omega)]; exact xm4_3
    have xm5_4 : m5 1 (14 * k + 4) = R 4 := by rw [hm5, mset_ne2 _ _ (by omega)]; exact xm4_4
    have xm5_5 : m5 1 (14 * k + 5) = R 5 := by rw [hm5, mset_ne2 _ _ (by omega)]; exact xm4_5
    have xm5_6 : m5 1 (14 * k + 7) = R 6 := by rw [hm5, mset_ne2 _ _ (by omega)]; exact xm4_6
    have xm5_7 : m5 1 (14 * k + 6) = 0 := by rw [hm5, mset_at]
    have xm5_8 : m5 1 (14 * k + 8) = v2 := by rw [hm5, mset_ne2 _ _ (by omega)]; exact xm4_8
    have xm5_9 : m5 1 (14 * k + 9) = v3 := by rw [hm5, mset_ne2 _ _ (by omega)]; exact xm4_9
    have xm5_10 : m5 1 (14 * k + 10) = v4 := by rw [hm5, mset_ne2 _ _ (by omega)]; exact xm4_10
    have xm5_11 : m5 1 (14 * k + 11) = v5 := by rw [hm5, mset_ne2 _ _ (by omega)]; exact xm4_11
    have xm5_12 : m5 1 (14 * k + 12) = v4 := by rw [hm5, mset_ne2 _ _ (by omega)]; exact xm4_12
    have xm5_13 : m5 1 (14 * k + 13) = v5 := by rw [hm5, mset_ne2 _ _ (by omega)]; exact xm4_13
    exact z_vretM E hr hlocks (m5) rfl ⟨⟨xm5_0, xm5_1, xm5_2, xm5_3, xm5_4, xm5_5, xm5_7, xm5_6, fun i hi => absurd hi (by omega)⟩, fun j hj => by rw [hm5, mset_ne2 _ _ (by omega), hm4, mset_ne2 _ _ (by omega), hm3, mset_ne2 _ _ (by omega), hm2, mset_ne2 _ _ (by omega), hm1, mset_ne2 _ _ (by omega)], by rw [hm5, hm4, hm3, hm2, hm1]; exact (((((zFr_s _ _ _).trans (zFr_s _ _ _)).trans (zFr_s _ _ _)).trans (zFr_s _ _ _)).trans (zFr_s _ _ _))⟩ (Nat.le_of_ble_eq_true rfl) (Nat.le_of_ble_eq_true rfl) dX6_takesOff_52
  · skip
    subst h1; subst h2
    have r0 : v0 = R 8 := hv0.symm.trans (qp 0 (by omega)).1
    have r1 : v1 = R 11 := hv1.symm.trans (qp 0 (by omega)).2
    have r2 : v2 = R 9 := hv2.symm.trans (qp 1 (by omega)).1
    have r3 : v3 = R 12 := hv3.symm.trans (qp 1 (by omega)).2
    refine z_iload_n E dX6_takesOff_0 rfl 1 rfl ?_
    refine z_iload_n E dX6_takesOff_1 rfl 2 rfl ?_
    refine z_iconst (v := 0) E dX6_takesOff_2 (by decide) ?_
    refine z_callSi E hZ (k_ofP l D am cI cR cS cL dg mem (nI k) (nI 0) 0) gX6_takesOff_X6_ofPerson (n := 3) rfl rfl rfl (by decide +kernel) rfl ⟨Nat.le_of_ble_eq_true rfl, Nat.le_of_ble_eq_true rfl⟩ (As := [.int (nI k), .int (nI 0), .int 0]) (rest := []) rfl (Nat.le_of_ble_eq_true rfl) ⟨Nat.le_of_ble_eq_true rfl, Nat.le_of_ble_eq_true rfl⟩ dX6_takesOff_3 (fun r u hp => ?_)
    rw [hp.1, hp.2]
    rw [zofP k 0 (y := nI 0) (z := 0) (w := 0) (N := 14 * k + 8) rfl rfl (by omega)]
    refine z_istore_n (lv' := [(3, .int (nI (14 * k + 8))), (0, .ref (am 0)), (1, .int (nI k)), (2, .int (nI 0))]) E dX6_takesOff_6 rfl (by decide) rfl ?_
    refine z_iload_n E dX6_takesOff_7 rfl 0 rfl ?_
    refine z_iload_n E dX6_takesOff_8 rfl 2 rfl ?_
    refine z_iconst (v := 2) E dX6_takesOff_9 (by decide) ?_
    refine z_iconst (v := 0) E dX6_takesOff_10 (by decide) ?_
    refine z_callSi E hZ (k_ofP l D am cI cR cS cL dg mem (nI k) 2 0) gX6_takesOff_X6_ofPerson (n := 3) rfl rfl rfl (by decide +kernel) rfl ⟨Nat.le_of_ble_eq_true rfl, Nat.le_of_ble_eq_true rfl⟩ (As := [.int (nI k), .int 2, .int 0]) (rest := [.int (nI (14 * k + 8))]) rfl (Nat.le_of_ble_eq_true rfl) ⟨Nat.le_of_ble_eq_true rfl, Nat.le_of_ble_eq_true rfl⟩ dX6_takesOff_11 (fun r u hp => ?_)
    rw [hp.1, hp.2]
    rw [zofP k 2 (y := 2) (z := 0) (w := 0) (N := 14 * k + 12) rfl rfl (by omega)]
    refine z_icmp_ge_f (tgt := 37) E dX6_takesOff_14 (by decide) (fun h => by have := (nI_leI (by omega) (by omega)).mp h; omega) ?_
    refine z_aload_n E dX6_takesOff_17 rfl 1 rfl ?_
    refine z_get E 0 mw_obj (C := RX6) (T := TX6) (N := 16) rfl (fun _ h => List.mem_cons_of_mem _ (List.mem_append_right _ h)) 1 (by decide) (List.mem_of_getElem? (i := 1) (by decide +kernel)) rfl (v := .ref (am 1)) rfl dX6_takesOff_18 ?_
    refine z_iload_n E dX6_takesOff_21 rfl 0 rfl ?_
    refine z_aload_n E dX6_takesOff_22 rfl 1 rfl ?_
    refine z_get E 0 mw_obj (C := RX6) (T := TX6) (N := 16) rfl (fun _ h => List.mem_cons_of_mem _ (List.mem_append_right _ h)) 1 (by decide) (List.mem_of_getElem? (i := 1) (by decide +kernel)) rfl (v := .ref (am 1)) rfl dX6_takesOff_23 ?_
    refine z_iload_n E dX6_takesOff_26 rfl 0 rfl ?_
    refine z_iconst (v := 2) E dX6_takesOff_27 (by decide) ?_
    refine z_iadd E dX6_takesOff_28 ?_
    rw [show nI (14 * k + 8) + 2 = nI (14 * k + 10) from nI_add _ 2]
    refine z_iald E 1 0 mw_s rfl (vp_in_nI (by omega) (by decide)) (v := v2) ((congrArg (mem 1) (nI_clamp (by omega))).trans hv2) dX6_takesOff_29 ?_
    refine z_iast E 1 0 mw_s rfl (vp_in_nI (by omega) (by decide)) (ws' := mw am cI dg (mset mem 1 (14 * k + 8) v2)) (by rw [nI_clamp (by omega)]; exact (ms_s (14 * k + 8) v2)) dX6_takesOff_30 ?_
    refine z_gm2 (fun m6 hm6 => ?_)
    have xm6_0 : m6 1 (14 * k + 0) = R 0 := by rw [hm6, mset_ne2 _ _ (by omega)]; exact q0
    have xm6_1 : m6 1 (14 * k + 1) = R 1 := by rw [hm6, mset_ne2 _ _ (by omega)]; exact q1
    have xm6_2 : m6 1 (14 * k + 2) = R 2 := by rw [hm6, mset_ne2 _ _ (by omega)]; exact q2
    have xm6_3 : m6 1 (14 * k + 3) = R 3 := by rw [hm6, mset_ne2 _ _ (by omega)]; exact q3
    have xm6_4 : m6 1 (14 * k + 4) = R 4 := by rw [hm6, mset_ne2 _ _ (by omega)]; exact q4
    have xm6_5 : m6 1 (14 * k + 5) = R 5 := by rw [hm6, mset_ne2 _ _ (by omega)]; exact q5
    have xm6_6 : m6 1 (14 * k + 7) = R 6 := by rw [hm6, mset_ne2 _ _ (by omega)]; exact q7
    have xm6_7 : m6 1 (14 * k + 6) = 2 := by rw [hm6, mset_ne2 _ _ (by omega)]; exact q6
    have xm6_8 : m6 1 (14 * k + 8) = v2 := by rw [hm6, mset_at]
    have xm6_9 : m6 1 (14 * k + 9) = v1 := by rw [hm6, mset_ne2 _ _ (by omega)]; exact hv1
    have xm6_10 : m6 1 (14 * k + 10) = v2 := by rw [hm6, mset_ne2 _ _ (by omega)]; exact hv2
    have xm6_11 : m6 1 (14 * k + 11) = v3 := by rw [hm6, mset_ne2 _ _ (by omega)]; exact hv3
    have xm6_12 : m6 1 (14 * k + 12) = v4 := by rw [hm6, mset_ne2 _ _ (by omega)]; exact hv4
    have xm6_13 : m6 1 (14 * k + 13) = v5 := by rw [hm6, mset_ne2 _ _ (by omega)]; exact hv5
    refine z_iinc (v := nI (14 * k + 8) + 1) (lv' := [(3, .int (nI (14 * k + 8) + 1)), (0, .ref (am 0)), (1, .int (nI k)), (2, .int (nI 0))]) E dX6_takesOff_31 (q := 0) rfl rfl (by decide) rfl ?_
    refine z_eq (ws' := mw am cI dg m6) (lv' := [(3, .int (nI (14 * k + 9))), (0, .ref (am 0)), (1, .int (nI k)), (2, .int (nI 0))]) (st' := []) rfl (by rw [show nI (14 * k + 8) + 1 = nI (14 * k + 9) from nI_1 _]) rfl ?_
    refine z_goto (tgt := 7) E dX6_takesOff_34 (by decide) ?_
    refine z_iload_n E dX6_takesOff_7 rfl 0 rfl ?_
    refine z_iload_n E dX6_takesOff_8 rfl 2 rfl ?_
    refine z_iconst (v := 2) E dX6_takesOff_9 (by decide) ?_
    refine z_iconst (v := 0) E dX6_takesOff_10 (by decide) ?_
    refine z_callSi E hZ (k_ofP l D am cI cR cS cL dg m6 (nI k) 2 0) gX6_takesOff_X6_ofPerson (n := 3) rfl rfl rfl (by decide +kernel) rfl ⟨Nat.le_of_ble_eq_true rfl, Nat.le_of_ble_eq_true rfl⟩ (As := [.int (nI k), .int 2, .int 0]) (rest := [.int (nI (14 * k + 9))]) rfl (Nat.le_of_ble_eq_true rfl) ⟨Nat.le_of_ble_eq_true rfl, Nat.le_of_ble_eq_true rfl⟩ dX6_takesOff_11 (fun r u hp => ?_)
    rw [hp.1, hp.2]
    rw [zofP k 2 (y := 2) (z := 0) (w := 0) (N := 14 * k + 12) rfl rfl (by omega)]
    refine z_icmp_ge_f (tgt := 37) E dX6_takesOff_14 (by decide) (fun h => by have := (nI_leI (by omega) (by omega)).mp h; omega) ?_
    refine z_aload_n E dX6_takesOff_17 rfl 1 rfl ?_
    refine z_get E 0 mw_obj (C := RX6) (T := TX6) (N := 16) rfl (fun _ h => List.mem_cons_of_mem _ (List.mem_append_right _ h)) 1 (by decide) (List.mem_of_getElem? (i := 1) (by decide +kernel)) rfl (v := .ref (am 1)) rfl dX6_takesOff_18 ?_
    refine z_iload_n E dX6_takesOff_21 rfl 0 rfl ?_
    refine z_aload_n E dX6_takesOff_22 rfl 1 rfl ?_
    refine z_get E 0 mw_obj (C := RX6) (T := TX6) (N := 16) rfl (fun _ h => List.mem_cons_of_mem _ (List.mem_append_right _ h)) 1 (by decide) (List.mem_of_getElem? (i := 1) (by decide +kernel)) rfl (v := .ref (am 1)) rfl dX6_takesOff_23 ?_
    refine z_iload_n E dX6_takesOff_26 rfl 0 rfl ?_
    refine z_iconst (v := 2) E dX6_takesOff_27 (by decide) ?_
    refine z_iadd E dX6_takesOff_28 ?_
    rw [show nI (14 * k + 9) + 2 = nI (14 * k + 11) from nI_add _ 2]
    refine z_iald E 1 0 mw_s rfl (vp_in_nI (by omega) (by decide)) (v := v3) ((congrArg (m6 1) (nI_clamp (by omega))).trans xm6_11) dX6_takesOff_29 ?_
    refine z_iast E 1 0 mw_s rfl (vp_in_nI (by omega) (by decide)) (ws' := mw am cI dg (mset m6 1 (14 * k + 9) v3)) (by rw [nI_clamp (by omega)]; exact (ms_s (14 * k + 9) v3)) dX6_takesOff_30 ?_
    refine z_gm2 (fun m7 hm7 => ?_)
    have xm7_0 : m7 1 (14 * k + 0) = R 0 := by rw [hm7, mset_ne2 _ _ (by omega)]; exact xm6_0
    have xm7_1 : m7 1 (14 * k + 1) = R 1 := by rw [hm7, mset_ne2 _ _ (by omega)]; exact xm6_1
    have xm7_2 : m7 1 (14 * k + 2) = R 2 := by rw [hm7, mset_ne2 _ _ (by omega)]; exact xm6_2
    have xm7_3 : m7 1 (14 * k + 3) = R 3 := by rw [hm7, mset_ne2 _ _ (by omega)]; exact xm6_3
    have xm7_4 : m7 1 (14 * k + 4) = R 4 := by rw [hm7, mset_ne2 _ _ (by omega)]; exact xm6_4
    have xm7_5 : m7 1 (14 * k + 5) = R 5 := by rw [hm7, mset_ne2 _ _ (by omega)]; exact xm6_5
    have xm7_6 : m7 1 (14 * k + 7) = R 6 := by rw [hm7, mset_ne2 _ _ (by omega)]; exact xm6_6
    have xm7_7 : m7 1 (14 * k + 6) = 2 := by rw [hm7, mset_ne2 _ _ (by omega)]; exact xm6_7
    have xm7_8 : m7 1 (14 * k + 8) = v2 := by rw [hm7, mset_ne2 _ _ (by omega)]; exact xm6_8
    have xm7_9 : m7 1 (14 * k + 9) = v3 := by rw [hm7, mset_at]
    have xm7_10 : m7 1 (14 * k + 10) = v2 := by rw [hm7, mset_ne2 _ _ (by omega)]; exact xm6_10
    have xm7_11 : m7 1 (14 * k + 11) = v3 := by rw [hm7, mset_ne2 _ _ (by omega)]; exact xm6_11
    have xm7_12 : m7 1 (14 * k + 12) = v4 := by rw [hm7, mset_ne2 _ _ (by omega)]; exact xm6_12
    have xm7_13 : m7 1 (14 * k + 13) = v5 := by rw [hm7, mset_ne2 _ _ (by omega)]; exact xm6_13
    refine z_iinc (v := nI (14 * k + 9) + 1) (lv' := [(3, .int (nI (14 * k + 9) + 1)), (0, .ref (am 0)), (1, .int (nI k)), (2, .int (nI 0))]) E dX6_takesOff_31 (q := 0) rfl rfl (by decide) rfl ?_
    refine z_eq (ws' := mw am cI dg m7) (lv' := [(3, .int (nI (14 * k + 10))), (0, .ref (am 0)), (1, .int (nI k)), (2, .int (nI 0))]) (st' := []) rfl (by rw [show nI (14 * k + 9) + 1 = nI (14 * k + 10) from nI_1 _]) rfl ?_
    refine z_goto (tgt := 7) E dX6_takesOff_34 (by decide) ?_
    refine z_iload_n E dX6_takesOff_7 rfl 0 rfl ?_
    refine z_iload_n E dX6_takesOff_8 rfl 2 rfl ?_
    refine z_iconst (v := 2) E dX6_takesOff_9 (by decide) ?_
    refine z_iconst (v := 0) E dX6_takesOff_10 (by decide) ?_
    refine z_callSi E hZ (k_ofP l D am cI cR cS cL dg m7 (nI k) 2 0) gX6_takesOff_X6_ofPerson (n := 3) rfl rfl rfl (by decide +kernel) rfl ⟨Nat.le_of_ble_eq_true rfl, Nat.le_of_ble_eq_true rfl⟩ (As := [.int (nI k), .int 2, .int 0]) (rest := [.int (nI (14 * k + 10))]) rfl (Nat.le_of_ble_eq_true rfl) ⟨Nat.le_of_ble_eq_true rfl, Nat.le_of_ble_eq_true rfl⟩ dX6_takesOff_11 (fun r u hp => ?_)
    rw [hp.1, hp.2]
    rw [zofP k 2 (y := 2) (z := 0) (w := 0) (N := 14 * k + 12) rfl rfl (by omega)]
    refine z_icmp_ge_f (tgt := 37) E dX6_takesOff_14 (by decide) (fun h => by have := (nI_leI (by omega) (by omega)).mp h; omega) ?_
    refine z_aload_n E dX6_takesOff_17 rfl 1 rfl ?_
    refine z_get E 0 mw_obj (C := RX6) (T := TX6) (N := 16) rfl (fun _ h => List.mem_cons_of_mem _ (List.mem_append_right _ h)) 1 (by decide) (List.mem_of_getElem? (i := 1) (by decide +kernel)) rfl (v := .ref (am 1)) rfl dX6_takesOff_18 ?_
    refine z_iload_n E dX6_takesOff_21 rfl 0 rfl ?_
    refine z_aload_n E dX6_takesOff_22 rfl 1 rfl ?_
    refine z_get E 0 mw_obj (C := RX6) (T := TX6) (N := 16) rfl (fun _ h => List.mem_cons_of_mem _ (List.mem_append_right _ h)) 1 (by decide) (List.mem_of_getElem? (i := 1) (by decide +kernel)) rfl (v := .ref (am 1)) rfl dX6_takesOff_23 ?_
    refine z_iload_n E dX6_takesOff_26 rfl 0 rfl ?_
    refine z_iconst (v := 2) E dX6_takesOff_27 (by decide) ?_
    refine z_iadd E dX6_takesOff_28 ?_
    rw [show nI (14 * k + 10) + 2 = nI (14 * k + 12) from nI_add _ 2]
    refine z_iald E 1 0 mw_s rfl (vp_in_nI (by omega) (by decide)) (v := v4) ((congrArg (m7 1) (nI_clamp (by omega))).trans xm7_12) dX6_takesOff_29 ?_
    refine z_iast E 1 0 mw_s rfl (vp_in_nI (by omega) (by decide)) (ws' := mw am cI dg (mset m7 1 (14 * k + 10) v4)) (by rw [nI_clamp (by omega)]; exact (ms_s (14 * k + 10) v4)) dX6_takesOff_30 ?_
    refine z_gm2 (fun m8 hm8 => ?_)
    have xm8_0 : m8 1 (14 * k + 0) = R 0 := by rw [hm8, mset_ne2 _ _ (by omega)]; exact xm7_0
    have xm8_1 : m8 1 (14 * k + 1) = R 1 := by rw [hm8, mset_ne2 _ _ (by omega)]; exact xm7_1
    have xm8_2 : m8 1 (14 * k + 2) = R 2 := by rw [hm8, mset_ne2 _ _ (by omega)]; exact xm7_2
    have xm8_3 : m8 1 (14 * k + 3) = R 3 := by rw [hm8, mset_ne2 _ _ (by omega)]; exact xm7_3
    have xm8_4 : m8 1 (14 * k + 4) = R 4 := by rw [hm8, mset_ne2 _ _ (by omega)]; exact xm7_4
    have xm8_5 : m8 1 (14 * k + 5) = R 5 := by rw [hm8, mset_ne2 _ _ (by omega)]; exact xm7_5
    have xm8_6 : m8 1 (14 * k + 7) = R 6 := by rw [hm8, mset_ne2 _ _ (by omega)]; exact xm7_6
    have xm8_7 : m8 1 (14 * k + 6) = 2 := by rw [hm8, mset_ne2 _ _ (by omega)]; exact xm7_7
    have xm8_8 : m8 1 (14 * k + 8) = v2 := by rw [hm8, mset_ne2 _ _ (by omega)]; exact xm7_8
    have xm8_9 : m8 1 (14 * k + 9) = v3 := by rw [hm8, mset_ne2 _ _ (by omega)]; exact xm7_9
    have xm8_10 : m8 1 (14 * k + 10) = v4 := by rw [hm8, mset_at]
    have xm8_11 : m8 1 (14 * k + 11) = v3 := by rw [hm8, mset_ne2 _ _ (by omega)]; exact xm7_11
    have xm8_12 : m8 1 (14 * k + 12) = v4 := by rw [hm8, mset_ne2 _ _ (by omega)]; exact xm7_12
    have xm8_13 : m8 1 (14 * k + 13) = v5 := by rw [hm8, mset_ne2 _ _ (by omega)]; exact xm7_13
    refine z_iinc (v := nI (14 * k + 10) + 1) (lv' := [(3, .int (nI (14 * k + 10) + 1)), (0, .ref (am 0)), (1, .int (nI k)), (2, .int (nI 0))]) E dX6_takesOff_31 (q := 0) rfl rfl (by decide) rfl ?_
    refine z_eq (ws' := mw am cI dg m8) (lv' := [(3, .int (nI (14 * k + 11))), (0, .ref (am 0)), (1, .int (nI k)), (2, .int (nI 0))]) (st' := []) rfl (by rw [show nI (14 * k + 10) + 1 = nI (14 * k + 11) from nI_1 _]) rfl ?_
    refine z_goto (tgt := 7) E dX6_takesOff_34 (by decide) ?_
    refine z_iload_n E dX6_takesOff_7 rfl 0 rfl ?_
    refine z_iload_n E dX6_takesOff_8 rfl 2 rfl ?_
    refine z_iconst (v := 2) E dX6_takesOff_9 (by decide) ?_
    refine z_iconst (v := 0) E dX6_takesOff_10 (by decide) ?_
    refine z_callSi E hZ (k_ofP l D am cI cR cS cL dg m8 (nI k) 2 0) gX6_takesOff_X6_ofPerson (n := 3) rfl rfl rfl (by decide +kernel) rfl ⟨Nat.le_of_ble_eq_true rfl, Nat.le_of_ble_eq_true rfl⟩ (As := [.int (nI k), .int 2, .int 0]) (rest := [.int (nI (14 * k + 11))]) rfl (Nat.le_of_ble_eq_true rfl) ⟨Nat.le_of_ble_eq_true rfl, Nat.le_of_ble_eq_true rfl⟩ dX6_takesOff_11 (fun r u hp => ?_)
    rw [hp.1, hp.2]
    rw [zofP k 2 (y := 2) (z := 0) (w := 0) (N := 14 * k + 12) rfl rfl (by omega)]
    refine z_icmp_ge_f (tgt := 37) E dX6_takesOff_14 (by decide) (fun h => by have := (nI_leI (by omega) (by omega)).mp h; omega) ?_
    refine z_aload_n E dX6_takesOff_17 rfl 1 rfl ?_
    refine z_get E 0 mw_obj (C := RX6) (T := TX6) (N := 16) rfl (fun _ h => List.mem_cons_of_mem _ (List.mem_append_right _ h)) 1 (by decide) (List.mem_of_getElem? (i := 1) (by decide +kernel)) rfl (v := .ref (am 1)) rfl dX6_takesOff_18 ?_
    refine z_iload_n E dX6_takesOff_21 rfl 0 rfl ?_
    refine z_aload_n E dX6_takesOff_22 rfl 1 rfl ?_
    refine z_get E 0 mw_obj (C := RX6) (T := TX6) (N := 16) rfl (fun _ h => List.mem_cons_of_mem _ (List.mem_append_right _ h)) 1 (by decide) (List.mem_of_getElem? (i := 1) (by decide +kernel)) rfl (v := .ref (am 1)) rfl dX6_takesOff_23 ?_
    refine z_iload_n E dX6_takesOff_26 rfl 0 rfl ?_
    refine z_iconst (v := 2) E dX6_takesOff_27 (by decide) ?_
    refine z_iadd E dX6_takesOff_28 ?_
    rw [show nI (14 * k + 11) + 2 = nI (14 * k + 13) from nI_add _ 2]
    refine z_iald E 1 0 mw_s rfl (vp_in_nI (by omega) (by decide)) (v := v5) ((congrArg (m8 1) (nI_clamp (by omega))).trans xm8_13) dX6_takesOff_29 ?_
    refine z_iast E 1 0 mw_s rfl (vp_in_nI (by omega) (by decide)) (ws' := mw am cI dg (mset m8 1 (14 * k + 11) v5)) (by rw [nI_clamp (by omega)]; exact (ms_s (14 * k + 11) v5)) dX6_takesOff_30 ?_
    refine z_gm2 (fun m9 hm9 => ?_)
    have xm9_0 : m9 1 (14 * k + 0) = R 0 := by rw [hm9, mset_ne2 _ _ (by omega)]; exact xm8_0
    have xm9_1 : m9 1 (14 * k + 1) = R 1 := by rw [hm9, mset_ne2 _ _ (by omega)]; exact xm8_1
    have xm9_2 : m9 1 (14 * k + 2) = R 2 := by rw [hm9, mset_ne2 _ _ (by omega)]; exact xm8_2
    have xm9_3 : m9 1 (14 * k + 3) = R 3 := by rw [hm9, mset_ne2 _ _ (by omega)]; exact xm8_3
    have xm9_4 : m9 1 (14 * k + 4) = R 4 := by rw [hm9, mset_ne2 _ _ (by omega)]; exact xm8_4
    have xm9_5 : m9 1 (14 * k + 5) = R 5 := by rw [hm9, mset_ne2 _ _ (by omega)]; exact xm8_5
    have xm9_6 : m9 1 (14 * k + 7) = R 6 := by rw [hm9, mset_ne2 _ _ (by omega)]; exact xm8_6
    have xm9_7 : m9 1 (14 * k + 6) = 2 := by rw [hm9, mset_ne2 _ _ (by omega)]; exact xm8_7
    have xm9_8 : m9 1 (14 * k + 8) = v2 := by rw [hm9, mset_ne2 _ _ (by omega)]; exact xm8_8
    have xm9_9 : m9 1 (14 * k + 9) = v3 := by rw [hm9, mset_ne2 _ _ (by omega)]; exact xm8_9
    have xm9_10 : m9 1 (14 * k + 10) = v4 := by rw [hm9, mset_ne2 _ _ (by omega)]; exact xm8_10
    have xm9_11 : m9 1 (14 * k + 11) = v5 := by rw [hm9, mset_at]
    have xm9_12 : m9 1 (14 * k + 12) = v4 := by rw [hm9, mset_ne2 _ _ (by omega)]; exact xm8_12
    have xm9_13 : m9 1 (14 * k + 13) = v5 := by rw [hm9, mset_ne2 _ _ (by omega)]; exact xm8_13
    refine z_iinc (v := nI (14 * k + 11) + 1) (lv' := [(3, .int (nI (14 * k + 11) + 1)), (0, .ref (am 0)), (1, .int (nI k)), (2, .int (nI 0))]) E dX6_takesOff_31 (q := 0) rfl rfl (by decide) rfl ?_
    refine z_eq (ws' := mw am cI dg m9) (lv' := [(3, .int (nI (14 * k + 12))), (0, .ref (am 0)), (1, .int (nI k)), (2, .int (nI 0))]) (st' := []) rfl (by rw [show nI (14 * k + 11) + 1 = nI (14 * k + 12) from nI_1 _]) rfl ?_
    refine z_goto (tgt := 7) E dX6_takesOff_34 (by decide) ?_
    refine z_iload_n E dX6_takesOff_7 rfl 0 rfl ?_
    refine z_iload_n E dX6_takesOff_8 rfl 2 rfl ?_
    refine z_iconst (v := 2) E dX6_takesOff_9 (by decide) ?_
    refine z_iconst (v := 0) E dX6_takesOff_10 (by decide) ?_
    refine z_callSi E hZ (k_ofP l D am cI cR cS cL dg m9 (nI k) 2 0) gX6_takesOff_X6_ofPerson (n := 3) rfl rfl rfl (by decide +kernel) rfl ⟨Nat.le_of_ble_eq_true rfl, Nat.le_of_ble_eq_true rfl⟩ (As := [.int (nI k), .int 2, .int 0]) (rest := [.int (nI (14 * k + 12))]) rfl (Nat.le_of_ble_eq_true rfl) ⟨Nat.le_of_ble_eq_true rfl, Nat.le_of_ble_eq_true rfl⟩ dX6_takesOff_11 (fun r u hp => ?_)
    rw [hp.1, hp.2]
    rw [zofP k 2 (y := 2) (z := 0) (w := 0) (N := 14 * k + 12) rfl rfl (by omega)]
    refine z_icmp_ge_t (tgt := 37) E dX6_takesOff_14 (by decide) ((nI_leI (by omega) (by omega)).mpr (by omega)) ?_
    refine z_aload_n E dX6_takesOff_37 rfl 1 rfl ?_
    refine z_get E 0 mw_obj (C := RX6) (T := TX6) (N := 16) rfl (fun _ h => List.mem_cons_of_mem _ (List.mem_append_right _ h)) 1 (by decide) (List.mem_of_getElem? (i := 1) (by decide +kernel)) rfl (v := .ref (am 1)) rfl dX6_takesOff_38 ?_
    refine z_iload_n E dX6_takesOff_41 rfl 2 rfl ?_
    refine z_bipush (v := 6) E dX6_takesOff_42 (by decide) ?_
    refine z_callSi E hZ (k_of l D am cI cR cS cL dg m9 (nI k) 6) gX6_takesOff_X6_of (n := 2) rfl rfl rfl (by decide +kernel) rfl ⟨Nat.le_of_ble_eq_true rfl, Nat.le_of_ble_eq_true rfl⟩ (As := [.int (nI k), .int 6]) (rest := [.ref (am 1)]) rfl (Nat.le_of_ble_eq_true rfl) ⟨Nat.le_of_ble_eq_true rfl, Nat.le_of_ble_eq_true rfl⟩ dX6_takesOff_44 (fun r u hp => ?_)
    rw [hp.1, hp.2]
    rw [zof k (y := 6) (w := 6) rfl]
    refine z_dup2 E dX6_takesOff_47 rfl rfl ?_
    refine z_iald E 1 0 mw_s rfl (vp_in_nI (by omega) (by decide)) (v := 2) ((congrArg (m9 1) (nI_clamp (by omega))).trans xm9_7) dX6_takesOff_48 ?_
    refine z_iconst (v := 1) E dX6_takesOff_49 (by decide) ?_
    refine z_isubV (v := 1) E dX6_takesOff_50 (by decide) ?_
    refine z_iast E 1 0 mw_s rfl (vp_in_nI (by omega) (by decide)) (ws' := mw am cI dg (mset m9 1 (14 * k + 6) 1)) (by rw [nI_clamp (by omega)]; exact (ms_s (14 * k + 6) 1)) dX6_takesOff_51 ?_
    refine z_gm2 (fun m10 hm10 => ?_)
    have xm10_0 : m10 1 (14 * k + 0) = R 0 := by rw [hm10, mset_ne2 _ _ (by omega)]; exact xm9_0
    have xm10_1 : m10 1 (14 * k + 1) = R 1 := by rw [hm10, mset_ne2 _ _ (by omega)]; exact xm9_1
    have xm10_2 : m10 1 (14 * k + 2) = R 2 := by rw [hm10, mset_ne2 _ _ (by omega)]; exact xm9_2
    have xm10_3 : m10 1 (14 * k + 3) = R 3 := by rw [hm10, mset_ne2 _ _ (by omega)]; exact xm9_3
    have xm10_4 : m10 1 (14 * k + 4) = R 4 := by rw [hm10, mset_ne2 _ _ (by omega)]; exact xm9_4
    have xm10_5 : m10 1 (14 * k + 5) = R 5 := by rw [hm10, mset_ne2 _ _ (by omega)]; exact xm9_5
    have xm10_6 : m10 1 (14 * k + 7) = R 6 := by rw [hm10, mset_ne2 _ _ (by omega)]; exact xm9_6
    have xm10_7 : m10 1 (14 * k + 6) = 1 := by rw [hm10, mset_at]
    have xm10_8 : m10 1 (14 * k + 8) = v2 := by rw [hm10, mset_ne2 _ _ (by omega)]; exact xm9_8
    have xm10_9 : m10 1 (14 * k + 9) = v3 := by rw [hm10, mset_ne2 _ _ (by omega)]; exact xm9_9
    have xm10_10 : m10 1 (14 * k + 10) = v4 := by rw [hm10, mset_ne2 _ _ (by omega)]; exact xm9_10
    have xm10_11 : m10 1 (14 * k + 11) = v5 := by rw [hm10, mset_ne2 _ _ (by omega)]; exact xm9_11
    have xm10_12 : m10 1 (14 * k + 12) = v4 := by rw [hm10, mset_ne2 _ _ (by omega)]; exact xm9_12
    have xm10_13 : m10 1 (14 * k + 13) = v5 := by rw [hm10, mset_ne2 _ _ (by omega)]; exact xm9_13
    exact z_vretM E hr hlocks (m10) rfl ⟨⟨xm10_0, xm10_1, xm10_2, xm10_3, xm10_4, xm10_5, xm10_7, xm10_6, fun i hi => by have hi0 : i = 0 := by { omega }; subst hi0; exact ⟨xm10_8.trans r2, xm10_9.trans r3⟩⟩, fun j hj => by rw [hm10, mset_ne2 _ _ (by omega), hm9, mset_ne2 _ _ (by omega), hm8, mset_ne2 _ _ (by omega), hm7, mset_ne2 _ _ (by omega), hm6, mset_ne2 _ _ (by omega)], by rw [hm10, hm9, hm8, hm7, hm6]; exact (((((zFr_s _ _ _).trans (zFr_s _ _ _)).trans (zFr_s _ _ _)).trans (zFr_s _ _ _)).trans (zFr_s _ _ _))⟩ (Nat.le_of_ble_eq_true rfl) (Nat.le_of_ble_eq_true rfl) dX6_takesOff_52
  · skip
    subst h1; subst h2
    have r0 : v0 = R 8 := hv0.symm.trans (qp 0 (by omega)).1
    have r1 : v1 = R 11 := hv1.symm.trans (qp 0 (by omega)).2
    have r2 : v2 = R 9 := hv2.symm.trans (qp 1 (by omega)).1
    have r3 : v3 = R 12 := hv3.symm.trans (qp 1 (by omega)).2
    refine z_iload_n E dX6_takesOff_0 rfl 1 rfl ?_
    refine z_iload_n E dX6_takesOff_1 rfl 2 rfl ?_
    refine z_iconst (v := 0) E dX6_takesOff_2 (by decide) ?_
    refine z_callSi E hZ (k_ofP l D am cI cR cS cL dg mem (nI k) (nI 1) 0) gX6_takesOff_X6_ofPerson (n := 3) rfl rfl rfl (by decide +kernel) rfl ⟨Nat.le_of_ble_eq_true rfl, Nat.le_of_ble_eq_true rfl⟩ (As := [.int (nI k), .int (nI 1), .int 0]) (rest := []) rfl (Nat.le_of_ble_eq_true rfl) ⟨Nat.le_of_ble_eq_true rfl, Nat.le_of_ble_eq_true rfl⟩ dX6_takesOff_3 (fun r u hp => ?_)
    rw [hp.1, hp.2]
    rw [zofP k 1 (y := nI 1) (z := 0) (w := 0) (N := 14 * k + 10) rfl rfl (by omega)]
    refine z_istore_n (lv' := [(3, .int (nI (14 * k + 10))), (0, .ref (am 0)), (1, .int (nI k)), (2, .int (nI 1))]) E dX6_takesOff_6 rfl (by decide) rfl ?_
    refine z_iload_n E dX6_takesOff_7 rfl 0 rfl ?_
    refine z_iload_n E dX6_takesOff_8 rfl 2 rfl ?_
    refine z_iconst (v := 2) E dX6_takesOff_9 (by decide) ?_
    refine z_iconst (v := 0) E dX6_takesOff_10 (by decide) ?_
    refine z_callSi E hZ (k_ofP l D am cI cR cS cL dg mem (nI k) 2 0) gX6_takesOff_X6_ofPerson (n := 3) rfl rfl rfl (by decide +kernel) rfl ⟨Nat.le_of_ble_eq_true rfl, Nat.le_of_ble_eq_true rfl⟩ (As := [.int (nI k), .int 2, .int 0]) (rest := [.int (nI (14 * k + 10))]) rfl (Nat.le_of_ble_eq_true rfl) ⟨Nat.le_of_ble_eq_true rfl, Nat.le_of_ble_eq_true rfl⟩ dX6_takesOff_11 (fun r u hp => ?_)
    rw [hp.1, hp.2]
    rw [zofP k 2 (y := 2) (z := 0) (w := 0) (N := 14 * k + 12) rfl rfl (by omega)]
    refine z_icmp_ge_f (tgt := 37) E dX6_takesOff_14 (by decide) (fun h => by have := (nI_leI (by omega) (by omega)).mp h; omega) ?_
    refine z_aload_n E dX6_takesOff_17 rfl 1 rfl ?_
    refine z_get E 0 mw_obj (C := RX6) (T := TX6) (N := 16) rfl (fun _ h => List.mem_cons_of_mem _ (List.mem_append_right _ h)) 1 (by decide) (List.mem_of_getElem? (i := 1) (by decide +kernel)) rfl (v := .ref (am 1)) rfl dX6_takesOff_18 ?_
    refine z_iload_n E dX6_takesOff_21 rfl 0 rfl ?_
    refine z_aload_n E dX6_takesOff_22 rfl 1 rfl ?_
    refine z_get E 0 mw_obj (C := RX6) (T := TX6) (N := 16) rfl (fun _ h => List.mem_cons_of_mem _ (List.mem_append_right _ h)) 1 (by decide) (List.mem_of_getElem? (i := 1) (by decide +kernel)) rfl (v := .ref (am 1)) rfl dX6_takesOff_23 ?_
    refine z_iload_n E dX6_takesOff_26 rfl 0 rfl ?_
    refine z_iconst (v := 2) E dX6_takesOff_27 (by decide) ?_
    refine z_iadd E dX6_takesOff_28 ?_
    rw [show nI (14 * k + 10) + 2 = nI (14 * k + 12) from nI_add _ 2]
    refine z_iald E 1 0 mw_s rfl (vp_in_nI (by omega) (by decide)) (v := v4) ((congrArg (mem 1) (nI_clamp (by omega))).trans hv4) dX6_takesOff_29 ?_
    refine z_iast E 1 0 mw_s rfl (vp_in_nI (by omega) (by decide)) (ws' := mw am cI dg (mset mem 1 (14 * k + 10) v4)) (by rw [nI_clamp (by omega)]; exact (ms_s (14 * k + 10) v4)) dX6_takesOff_30 ?_
    refine z_gm2 (fun m11 hm11 => ?_)
    have xm11_0 : m11 1 (14 * k + 0) = R 0 := by rw [hm11, mset_ne2 _ _ (by omega)]; exact q0
    have xm11_1 : m11 1 (14 * k + 1) = R 1 := by rw [hm11, mset_ne2 _ _ (by omega)]; exact q1
    have xm11_2 : m11 1 (14 * k + 2) = R 2 := by rw [hm11, mset_ne2 _ _ (by omega)]; exact q2
    have xm11_3 : m11 1 (14 * k + 3) = R 3 := by rw [hm11, mset_ne2 _ _ (by omega)]; exact q3
    have xm11_4 : m11 1 (14 * k + 4) = R 4 := by rw [hm11, mset_ne2 _ _ (by omega)]; exact q4
    have xm11_5 : m11 1 (14 * k + 5) = R 5 := by rw [hm11, mset_ne2 _ _ (by omega)]; exact q5
    have xm11_6 : m11 1 (14 * k + 7) = R 6 := by rw [hm11, mset_ne2 _ _ (by omega)]; exact q7
    have xm11_7 : m11 1 (14 * k + 6) = 2 := by rw [hm11, mset_ne2 _ _ (by omega)]; exact q6
    have xm11_8 : m11 1 (14 * k + 8) = v0 := by rw [hm11, mset_ne2 _ _ (by omega)]; exact hv0
    have xm11_9 : m11 1 (14 * k + 9) = v1 := by rw [hm11, mset_ne2 _ _ (by omega)]; exact hv1
    have xm11_10 : m11 1 (14 * k + 10) = v4 := by rw [hm11, mset_at]
    have xm11_11 : m11 1 (14 * k + 11) = v3 := by rw [hm11, mset_ne2 _ _ (by omega)]; exact hv3
    have xm11_12 : m11 1 (14 * k + 12) = v4 := by rw [hm11, mset_ne2 _ _ (by omega)]; exact hv4
    have xm11_13 : m11 1 (14 * k + 13) = v5 := by rw [hm11, mset_ne2 _ _ (by omega)]; exact hv5
    refine z_iinc (v := nI (14 * k + 10) + 1) (lv' := [(3, .int (nI (14 * k + 10) + 1)), (0, .ref (am 0)), (1, .int (nI k)), (2, .int (nI 1))]) E dX6_takesOff_31 (q := 0) rfl rfl (by decide) rfl ?_
    refine z_eq (ws' := mw am cI dg m11) (lv' := [(3, .int (nI (14 * k + 11))), (0, .ref (am 0)), (1, .int (nI k)), (2, .int (nI 1))]) (st' := []) rfl (by rw [show nI (14 * k + 10) + 1 = nI (14 * k + 11) from nI_1 _]) rfl ?_
    refine z_goto (tgt := 7) E dX6_takesOff_34 (by decide) ?_
    refine z_iload_n E dX6_takesOff_7 rfl 0 rfl ?_
    refine z_iload_n E dX6_takesOff_8 rfl 2 rfl ?_
    refine z_iconst (v := 2) E dX6_takesOff_9 (by decide) ?_
    refine z_iconst (v := 0) E dX6_takesOff_10 (by decide) ?_
    refine z_callSi E hZ (k_ofP l D am cI cR cS cL dg m11 (nI k) 2 0) gX6_takesOff_X6_ofPerson (n := 3) rfl rfl rfl (by decide +kernel) rfl ⟨Nat.le_of_ble_eq_true rfl, Nat.le_of_ble_eq_true rfl⟩ (As := [.int (nI k), .int 2, .int 0]) (rest := [.int (nI (14 * k + 11))]) rfl (Nat.le_of_ble_eq_true rfl) ⟨Nat.le_of_ble_eq_true rfl, Nat.le_of_ble_eq_true rfl⟩ dX6_takesOff_11 (fun r u hp => ?_)
    rw [hp.1, hp.2]
    rw [zofP k 2 (y := 2) (z := 0) (w := 0) (N := 14 * k + 12) rfl rfl (by omega)]
    refine z_icmp_ge_f (tgt := 37) E dX6_takesOff_14 (by decide) (fun h => by have := (nI_leI (by omega) (by omega)).mp h; omega) ?_
    refine z_aload_n E dX6_takesOff_17 rfl 1 rfl ?_
    refine z_get E 0 mw_obj (C := RX6) (T := TX6) (N := 16) rfl (fun _ h => List.mem_cons_of_mem _ (List.mem_append_right _ h)) 1 (by decide) (List.mem_of_getElem? (i := 1) (by decide +kernel)) rfl (v := .ref (am 1)) rfl dX6_takesOff_18 ?_
    refine z_iload_n E dX6_takesOff_21 rfl 0 rfl ?_
    refine z_aload_n E dX6_takesOff_22 rfl 1 rfl ?_
    refine z_get E 0 mw_obj (C := RX6) (T := TX6) (N := 16) rfl (fun _ h => List.mem_cons_of_mem _ (List.mem_append_right _ h)) 1 (by decide) (List.mem_of_getElem? (i := 1) (by decide +kernel)) rfl (v := .ref (am 1)) rfl dX6_takesOff_23 ?_
    refine z_iload_n E dX6_takesOff_26 rfl 0 rfl ?_
    refine z_iconst (v := 2) E dX6_takesOff_27 (by decide) ?_
    refine z_iadd E dX6_takesOff_28 ?_
    rw [show nI (14 * k + 11) + 2 = nI (14 * k + 13) from nI_add _ 2]
    refine z_iald E 1 0 mw_s rfl (vp_in_nI (by omega) (by decide)) (v := v5) ((congrArg (m11 1) (nI_clamp (by omega))).trans xm11_13) dX6_takesOff_29 ?_
    refine z_iast E 1 0 mw_s rfl (vp_in_nI (by omega) (by decide)) (ws' := mw am cI dg (mset m11 1 (14 * k + 11) v5)) (by rw [nI_clamp (by omega)]; exact (ms_s (14 * k + 11) v5)) dX6_takesOff_30 ?_
    refine z_gm2 (fun m12 hm12 => ?_)
    have xm12_0 : m12 1 (14 * k + 0) = R 0 := by rw [hm12, mset_ne2 _ _ (by omega)]; exact xm11_0
    have xm12_1 : m12 1 (14 * k + 1) = R 1 := by rw [hm12, mset_ne2 _ _ (by omega)]; exact xm11_1
    have xm12_2 : m12 1 (14 * k + 2) = R 2 := by rw [hm12, mset_ne2 _ _ (by omega)]; exact xm11_2
    have xm12_3 : m12 1 (14 * k + 3) = R 3 := by rw [hm12, mset_ne2 _ _ (by omega)]; exact xm11_3
    have xm12_4 : m12 1 (14 * k + 4) = R 4 := by rw [hm12, mset_ne2 _ _ (by omega)]; exact xm11_4
    have xm12_5 : m12 1 (14 * k + 5) = R 5 := by rw [hm12, mset_ne2 _ _ (by omega)]; exact xm11_5
    have xm12_6 : m12 1 (14 * k + 7) = R 6 := by rw [hm12, mset_ne2 _ _ (by omega)]; exact xm11_6
    have xm12_7 : m12 1 (14 * k + 6) = 2 := by rw [hm12, mset_ne2 _ _ (by omega)]; exact xm11_7
    have xm12_8 : m12 1 (14 * k + 8) = v0 := by rw [hm12, mset_ne2 _ _ (by omega)]; exact xm11_8
    have xm12_9 : m12 1 (14 * k + 9) = v1 := by rw [hm12, mset_ne2 _ _ (by omega)]; exact xm11_9
    have xm12_10 : m12 1 (14 * k + 10) = v4 := by rw [hm12, mset_ne2 _ _ (by omega)]; exact xm11_10
    have xm12_11 : m12 1 (14 * k + 11) = v5 := by rw [hm12, mset_at]
    have xm12_12 : m12 1 (14 * k + 12) = v4 := by rw [hm12, mset_ne2 _ _ (by omega)]; exact xm11_12
    have xm12_13 : m12 1 (14 * k + 13) = v5 := by rw [hm12, mset_ne2 _ _ (by omega)]; exact xm11_13
    refine z_iinc (v := nI (14 * k + 11) + 1) (lv' := [(3, .int (nI (14 * k + 11) + 1)), (0, .ref (am 0)), (1, .int (nI k)), (2, .int (nI 1))]) E dX6_takesOff_31 (q := 0) rfl rfl (by decide) rfl ?_
    refine z_eq (ws' := mw am cI dg m12) (lv' := [(3, .int (nI (14 * k + 12))), (0, .ref (am 0)), (1, .int (nI k)), (2, .int (nI 1))]) (st' := []) rfl (by rw [show nI (14 * k + 11) + 1 = nI (14 * k + 12) from nI_1 _]) rfl ?_
    refine z_goto (tgt := 7) E dX6_takesOff_34 (by decide) ?_
    refine z_iload_n E dX6_takesOff_7 rfl 0 rfl ?_
    refine z_iload_n E dX6_takesOff_8 rfl 2 rfl ?_
    refine z_iconst (v := 2) E dX6_takesOff_9 (by decide) ?_
    refine z_iconst (v := 0) E dX6_takesOff_10 (by decide) ?_
    refine z_callSi E hZ (k_ofP l D am cI cR cS cL dg m12 (nI k) 2 0) gX6_takesOff_X6_ofPerson (n := 3) rfl rfl rfl (by decide +kernel) rfl ⟨Nat.le_of_ble_eq_true rfl, Nat.le_of_ble_eq_true rfl⟩ (As := [.int (nI k), .int 2, .int 0]) (rest := [.int (nI (14 * k + 12))]) rfl (Nat.le_of_ble_eq_true rfl) ⟨Nat.le_of_ble_eq_true rfl, Nat.le_of_ble_eq_true rfl⟩ dX6_takesOff_11 (fun r u hp => ?_)
    rw [hp.1, hp.2]
    rw [zofP k 2 (y := 2) (z := 0) (w := 0) (N := 14 * k + 12) rfl rfl (by omega)]
    refine z_icmp_ge_t (tgt := 37) E dX6_takesOff_14 (by decide) ((nI_leI (by omega) (by omega)).mpr (by omega)) ?_
    refine z_aload_n E dX6_takesOff_37 rfl 1 rfl ?_
    refine z_get E 0 mw_obj (C := RX6) (T := TX6) (N := 16) rfl (fun _ h => List.mem_cons_of_mem _ (List.mem_append_right _ h)) 1 (by decide) (List.mem_of_getElem? (i := 1) (by decide +kernel)) rfl (v := .ref (am 1)) rfl dX6_takesOff_38 ?_
    refine z_iload_n E dX6_takesOff_41 rfl 2 rfl ?_
    refine z_bipush (v := 6) E dX6_takesOff_42 (by decide) ?_
    refine z_callSi E hZ (k_of l D am cI cR cS cL dg m12 (nI k) 6) gX6_takesOff_X6_of (n := 2) rfl rfl rfl (by decide +kernel) rfl ⟨Nat.le_of_ble_eq_true rfl, Nat.le_of_ble_eq_true rfl⟩ (As := [.int (nI k), .int 6]) (rest := [.ref (am 1)]) rfl (Nat.le_of_ble_eq_true rfl) ⟨Nat.le_of_ble_eq_true rfl, Nat.le_of_ble_eq_true rfl⟩ dX6_takesOff_44 (fun r u hp => ?_)
    rw [hp.1, hp.2]
    rw [zof k (y := 6) (w := 6) rfl]
    refine z_dup2 E dX6_takesOff_47 rfl rfl ?_
    refine z_iald E 1 0 mw_s rfl (vp_in_nI (by omega) (by decide)) (v := 2) ((congrArg (m12 1) (nI_clamp (by omega))).trans xm12_7) dX6_takesOff_48 ?_
    refine z_iconst (v := 1) E dX6_takesOff_49 (by decide) ?_
    refine z_isubV (v := 1) E dX6_takesOff_50 (by decide) ?_
    refine z_iast E 1 0 mw_s rfl (vp_in_nI (by omega) (by decide)) (ws' := mw am cI dg (mset m12 1 (14 * k + 6) 1)) (by rw [nI_clamp (by omega)]; exact (ms_s (14 * k + 6) 1)) dX6_takesOff_51 ?_
    refine z_gm2 (fun m13 hm13 => ?_)
    have xm13_0 : m13 1 (14 * k + 0) = R 0 := by rw [hm13, mset_ne2 _ _ (by omega)]; exact xm12_0
    have xm13_1 : m13 1 (14 * k + 1) = R 1 := by rw [hm13, mset_ne2 _ _ (by omega)]; exact xm12_1
    have xm13_2 : m13 1 (14 * k + 2) = R 2 := by rw [hm13, mset_ne2 _ _ (by omega)]; exact xm12_2
    have xm13_3 : m13 1 (14 * k + 3) = R 3 := by rw [hm13, mset_ne2 _ _ (by omega)]; exact xm12_3
    have xm13_4 : m13 1 (14 * k + 4) = R 4 := by rw [hm13, mset_ne2 _ _ (by omega)]; exact xm12_4
    have xm13_5 : m13 1 (14 * k + 5) = R 5 := by rw [hm13, mset_ne2 _ _ (by omega)]; exact xm12_5
    have xm13_6 : m13 1 (14 * k + 7) = R 6 := by rw [hm13, mset_ne2 _ _ (by omega)]; exact xm12_6
    have xm13_7 : m13 1 (14 * k + 6) = 1 := by rw [hm13, mset_at]
    have xm13_8 : m13 1 (14 * k + 8) = v0 := by rw [hm13, mset_ne2 _ _ (by omega)]; exact xm12_8
    have xm13_9 : m13 1 (14 * k + 9) = v1 := by rw [hm13, mset_ne2 _ _ (by omega)]; exact xm12_9
    have xm13_10 : m13 1 (14 * k + 10) = v4 := by rw [hm13, mset_ne2 _ _ (by omega)]; exact xm12_10
    have xm13_11 : m13 1 (14 * k + 11) = v5 := by rw [hm13, mset_ne2 _ _ (by omega)]; exact xm12_11
    have xm13_12 : m13 1 (14 * k + 12) = v4 := by rw [hm13, mset_ne2 _ _ (by omega)]; exact xm12_12
    have xm13_13 : m13 1 (14 * k + 13) = v5 := by rw [hm13, mset_ne2 _ _ (by omega)]; exact xm12_13
    exact z_vretM E hr hlocks (m13) rfl ⟨⟨xm13_0, xm13_1, xm13_2, xm13_3, xm13_4, xm13_5, xm13_7, xm13_6, fun i hi => by have hi0 : i = 0 := by { omega }; subst hi0; exact ⟨xm13_8.trans r0, xm13_9.trans r1⟩⟩, fun j hj => by rw [hm13, mset_ne2 _ _ (by omega), hm12, mset_ne2 _ _ (by omega), hm11, mset_ne2 _ _ (by omega)], by rw [hm13, hm12, hm11]; exact (((zFr_s _ _ _).trans (zFr_s _ _ _)).trans (zFr_s _ _ _))⟩ (Nat.le_of_ble_eq_true rfl) (Nat.le_of_ble_eq_true rfl) dX6_takesOff_52
  · skip
    subst h1; subst h2
    have r0 : v0 = R 8 := hv0.symm.trans (qp 0 (by omega)).1
    have r1 : v1 = R 11 := hv1.symm.trans (qp 0 (by omega)).2
    have r2 : v2 = R 9 := hv2.symm.trans (qp 1 (by omega)).1
    have r3 : v3 = R 12 := hv3.symm.trans (qp 1 (by omega)).2
    have r4 : v4 = R 10 := hv4.symm.trans (qp 2 (by omega)).1
    have r5 : v5 = R 13 := hv5.symm.trans (qp 2 (by omega)).2
    refine z_iload_n E dX6_takesOff_0 rfl 1 rfl ?_
    refine z_iload_n E dX6_takesOff_1 rfl 2 rfl ?_
    refine z_iconst (v := 0) E dX6_takesOff_2 (by decide) ?_
    refine z_callSi E hZ (k_ofP l D am cI cR cS cL dg mem (nI k) (nI 0) 0) gX6_takesOff_X6_ofPerson (n := 3) rfl rfl rfl (by decide +kernel) rfl ⟨Nat.le_of_ble_eq_true rfl, Nat.le_of_ble_eq_true rfl⟩ (As := [.int (nI k), .int (nI 0), .int 0]) (rest := []) rfl (Nat.le_of_ble_eq_true rfl) ⟨Nat.le_of_ble_eq_true rfl, Nat.le_of_ble_eq_true rfl⟩ dX6_takesOff_3 (fun r u hp => ?_)
    rw [hp.1, hp.2]
    rw [zofP k 0 (y := nI 0) (z := 0) (w := 0) (N := 14 * k + 8) rfl rfl (by omega)]
    refine z_istore_n (lv' := [(3, .int (nI (14 * k + 8))), (0, .ref (am 0)), (1, .int (nI k)), (2, .int (nI 0))]) E dX6_takesOff_6 rfl (by decide) rfl ?_
    refine z_iload_n E dX6_takesOff_7 rfl 0 rfl ?_
    refine z_iload_n E dX6_takesOff_8 rfl 2 rfl ?_
    refine z_iconst (v := 2) E dX6_takesOff_9 (by decide) ?_
    refine z_iconst (v := 0) E dX6_takesOff_10 (by decide) ?_
    refine z_callSi E hZ (k_ofP l D am cI cR cS cL dg mem (nI k) 2 0) gX6_takesOff_X6_ofPerson (n := 3) rfl rfl rfl (by decide +kernel) rfl ⟨Nat.le_of_ble_eq_true rfl, Nat.le_of_ble_eq_true rfl⟩ (As := [.int (nI k), .int 2, .int 0]) (rest := [.int (nI (14 * k + 8))]) rfl (Nat.le_of_ble_eq_true rfl) ⟨Nat.le_of_ble_eq_true rfl, Nat.le_of_ble_eq_true rfl⟩ dX6_takesOff_11 (fun r u hp => ?_)
    rw [hp.1, hp.2]
    rw [zofP k 2 (y := 2) (z := 0) (w := 0) (N := 14 * k + 12) rfl rfl (by omega)]
    refine z_icmp_ge_f (tgt := 37) E dX6_takesOff_14 (by decide) (fun h => by have := (nI_leI (by omega) (by omega)).mp h; omega) ?_
    refine z_aload_n E dX6_takesOff_17 rfl 1 rfl ?_
    refine z_get E 0 mw_obj (C := RX6) (T := TX6) (N := 16) rfl (fun _ h => List.mem_cons_of_mem _ (List.mem_append_right _ h)) 1 (by decide) (List.mem_of_getElem? (i := 1) (by decide +kernel)) rfl (v := .ref (am 1)) rfl dX6_takesOff_18 ?_
    refine z_iload_n E dX6_takesOff_21 rfl 0 rfl ?_
    refine z_aload_n E dX6_takesOff_22 rfl 1 rfl ?_
    refine z_get E 0 mw_obj (C := RX6) (T := TX6) (N := 16) rfl (fun _ h => List.mem_cons_of_mem _ (List.mem_append_right _ h)) 1 (by decide) (List.mem_of_getElem? (i := 1) (by decide +kernel)) rfl (v := .ref (am 1)) rfl dX6_takesOff_23 ?_
    refine z_iload_n E dX6_takesOff_26 rfl 0 rfl ?_
    refine z_iconst (v := 2) E dX6_takesOff_27 (by decide) ?_
    refine z_iadd E dX6_takesOff_28 ?_
    rw [show nI (14 * k + 8) + 2 = nI (14 * k + 10) from nI_add _ 2]
    refine z_iald E 1 0 mw_s rfl (vp_in_nI (by omega) (by decide)) (v := v2) ((congrArg (mem 1) (nI_clamp (by omega))).trans hv2) dX6_takesOff_29 ?_
    refine z_iast E 1 0 mw_s rfl (vp_in_nI (by omega) (by decide)) (ws' := mw am cI dg (mset mem 1 (14 * k + 8) v2)) (by rw [nI_clamp (by omega)]; exact (ms_s (14 * k + 8) v2)) dX6_takesOff_30 ?_
    refine z_gm2 (fun m14 hm14 => ?_)
    have xm14_0 : m14 1 (14 * k + 0) = R 0 := by rw [hm14, mset_ne2 _ _ (by omega)]; exact q0
    have xm14_1 : m14 1 (14 * k + 1) = R 1 := by rw [hm14, mset_ne2 _ _ (by omega)]; exact q1
    have xm14_2 : m14 1 (14 * k + 2) = R 2 := by rw [hm14, mset_ne2 _ _ (by omega)]; exact q2
    have xm14_3 : m14 1 (14 * k + 3) = R 3 := by rw [hm14, mset_ne2 _ _ (by omega)]; exact q3
    have xm14_4 : m14 1 (14 * k + 4) = R 4 := by rw [hm14, mset_ne2 _ _ (by omega)]; exact q4
    have xm14_5 : m14 1 (14 * k + 5) = R 5 := by rw [hm14, mset_ne2 _ _ (by omega)]; exact q5
    have xm14_6 : m14 1 (14 * k + 7) = R 6 := by rw [hm14, mset_ne2 _ _ (by omega)]; exact q7
    have xm14_7 : m14 1 (14 * k + 6) = 3 := by rw [hm14, mset_ne2 _ _ (by omega)]; exact q6
    have xm14_8 : m14 1 (14 * k + 8) = v2 := by rw [hm14, mset_at]
    have xm14_9 : m14 1 (14 * k + 9) = v1 := by rw [hm14, mset_ne2 _ _ (by omega)]; exact hv1
    have xm14_10 : m14 1 (14 * k + 10) = v2 := by rw [hm14, mset_ne2 _ _ (by omega)]; exact hv2
    have xm14_11 : m14 1 (14 * k + 11) = v3 := by rw [hm14, mset_ne2 _ _ (by omega)]; exact hv3
    have xm14_12 : m14 1 (14 * k + 12) = v4 := by rw [hm14, mset_ne2 _ _ (by omega)]; exact hv4
    have xm14_13 : m14 1 (14 * k + 13) = v5 := by rw [hm14, mset_ne2 _ _ (by omega)]; exact hv5
    refine z_iinc (v := nI (14 * k + 8) + 1) (lv' := [(3, .int (nI (14 * k + 8) + 1)), (0, .ref (am 0)), (1, .int (nI k)), (2, .int (nI 0))]) E dX6_takesOff_31 (q := 0) rfl rfl (by decide) rfl ?_
    refine z_eq (ws' := mw am cI dg m14) (lv' := [(3, .int (nI (14 * k + 9))), (0, .ref (am 0)), (1, .int (nI k)), (2, .int (nI 0))]) (st' := []) rfl (by rw [show nI (14 * k + 8) + 1 = nI (14 * k + 9) from nI_1 _]) rfl ?_
    refine z_goto (tgt := 7) E dX6_takesOff_34 (by decide) ?_
    refine z_iload_n E dX6_takesOff_7 rfl 0 rfl ?_
    refine z_iload_n E dX6_takesOff_8 rfl 2 rfl ?_
    refine z_iconst (v := 2) E dX6_takesOff_9 (by decide) ?_
    refine z_iconst (v := 0) E dX6_takesOff_10 (by decide) ?_
    refine z_callSi E hZ (k_ofP l D am cI cR cS cL dg m14 (nI k) 2 0) gX6_takesOff_X6_ofPerson (n := 3) rfl rfl rfl (by decide +kernel) rfl ⟨Nat.le_of_ble_eq_true rfl, Nat.le_of_ble_eq_true rfl⟩ (As := [.int (nI k), .int 2, .int 0]) (rest := [.int (nI (14 * k + 9))]) rfl (Nat.le_of_ble_eq_true rfl) ⟨Nat.le_of_ble_eq_true rfl, Nat.le_of_ble_eq_true rfl⟩ dX6_takesOff_11 (fun r u hp => ?_)
    rw [hp.1, hp.2]
    rw [zofP k 2 (y := 2) (z := 0) (w := 0) (N := 14 * k + 12) rfl rfl (by omega)]
    refine z_icmp_ge_f (tgt := 37) E dX6_takesOff_14 (by decide) (fun h => by have := (nI_leI (by omega) (by omega)).mp h; omega) ?_
    refine z_aload_n E dX6_takesOff_17 rfl 1 rfl ?_
    refine z_get E 0 mw_obj (C := RX6) (T := TX6) (N := 16) rfl (fun _ h => List.mem_cons_of_mem _ (List.mem_append_right _ h)) 1 (by decide) (List.mem_of_getElem? (i := 1) (by decide +kernel)) rfl (v := .ref (am 1)) rfl dX6_takesOff_18 ?_
    refine z_iload_n E dX6_takesOff_21 rfl 0 rfl ?_
    refine z_aload_n E dX6_takesOff_22 rfl 1 rfl ?_
    refine z_get E 0 mw_obj (C := RX6) (T := TX6) (N := 16) rfl (fun _ h => List.mem_cons_of_mem _ (List.mem_append_right _ h)) 1 (by decide) (List.mem_of_getElem? (i := 1) (by decide +kernel)) rfl (v := .ref (am 1)) rfl dX6_takesOff_23 ?_
    refine z_iload_n E dX6_takesOff_26 rfl 0 rfl ?_
    refine z_iconst (v := 2) E dX6_takesOff_27 (by decide) ?_
    refine z_iadd E dX6_takesOff_28 ?_
    rw [show nI (14 * k + 9) + 2 = nI (14 * k + 11) from nI_add _ 2]
    refine z_iald E 1 0 mw_s rfl (vp_in_nI (by omega) (by decide)) (v := v3) ((congrArg (m14 1) (nI_clamp (by omega))).trans xm14_11) dX6_takesOff_29 ?_
    refine z_iast E 1 0 mw_s rfl (vp_in_nI (by omega) (by decide)) (ws' := mw am cI dg (mset m14 1 (14 * k + 9) v3)) (by rw [nI_clamp (by omega)]; exact (ms_s (14 * k + 9) v3)) dX6_takesOff_30 ?_
    refine z_gm2 (fun m15 hm15 => ?_)
    have xm15_0 : m15 1 (14 * k + 0) = R 0 := by rw [hm15, mset_ne2 _ _ (by omega)]; exact xm14_0
    have xm15_1 : m15 1 (14 * k + 1) = R 1 := by rw [hm15, mset_ne2 _ _ (by omega)]; exact xm14_1
    have xm15_2 : m15 1 (14 * k + 2) = R 2 := by rw [hm15, mset_ne2 _ _ (by omega)]; exact xm14_2
    have xm15_3 : m15 1 (14 * k + 3) = R 3 := by rw [hm15, mset_ne2 _ _ (by omega)]; exact xm14_3
    have xm15_4 : m15 1 (14 * k + 4) = R 4 := by rw [hm15, mset_ne2 _ _ (by omega)]; exact xm14_4
    have xm15_5 : m15 1 (14 * k + 5) = R 5 := by rw [hm15, mset_ne2 _ _ (by omega)]; exact xm14_5
    have xm15_6 : m15 1 (14 * k + 7) = R 6 := by rw [hm15, mset_ne2 _ _ (by omega)]; exact xm14_6
    have xm15_7 : m15 1 (14 * k + 6) = 3 := by rw [hm15, mset_ne2 _ _ (by omega)]; exact xm14_7
    have xm15_8 : m15 1 (14 * k + 8) = v2 := by rw [hm15, mset_ne2 _ _ (by omega)]; exact xm14_8
    have xm15_9 : m15 1 (14 * k + 9) = v3 := by rw [hm15, mset_at]
    have xm15_10 : m15 1 (14 * k + 10) = v2 := by rw [hm15, mset_ne2 _ _ (by omega)]; exact xm14_10
    have xm15_11 : m15 1 (14 * k + 11) = v3 := by rw [hm15, mset_ne2 _ _ (by omega)]; exact xm14_11
    have xm15_12 : m15 1 (14 * k + 12) = v4 := by rw [hm15, mset_ne2 _ _ (by omega)]; exact xm14_12
    have xm15_13 : m15 1 (14 * k + 13) = v5 := by rw [hm15, mset_ne2 _ _ (by omega)]; exact xm14_13
    refine z_iinc (v := nI (14 * k + 9) + 1) (lv' := [(3, .int (nI (14 * k + 9) + 1)), (0, .ref (am 0)), (1, .int (nI k)), (2, .int (nI 0))]) E dX6_takesOff_31 (q := 0) rfl rfl (by decide) rfl ?_
    refine z_eq (ws' := mw am cI dg m15) (lv' := [(3, .int (nI (14 * k + 10))), (0, .ref (am 0)), (1, .int (nI k)), (2, .int (nI 0))]) (st' := []) rfl (by rw [show nI (14 * k + 9) + 1 = nI (14 * k + 10) from nI_1 _]) rfl ?_
    refine z_goto (tgt := 7) E dX6_takesOff_34 (by decide) ?_
    refine z_iload_n E dX6_takesOff_7 rfl 0 rfl ?_
    refine z_iload_n E dX6_takesOff_8 rfl 2 rfl ?_
    refine z_iconst (v := 2) E dX6_takesOff_9 (by decide) ?_
    refine z_iconst (v := 0) E dX6_takesOff_10 (by decide) ?_
    refine z_callSi E hZ (k_ofP l D am cI cR cS cL dg m15 (nI k) 2 0) gX6_takesOff_X6_ofPerson (n := 3) rfl rfl rfl (by decide +kernel) rfl ⟨Nat.le_of_ble_eq_true rfl, Nat.le_of_ble_eq_true rfl⟩ (As := [.int (nI k), .int 2, .int 0]) (rest := [.int (nI (14 * k + 10))]) rfl (Nat.le_of_ble_eq_true rfl) ⟨Nat.le_of_ble_eq_true rfl, Nat.le_of_ble_eq_true rfl⟩ dX6_takesOff_11 (fun r u hp => ?_)
    rw [hp.1, hp.2]
    rw [zofP k 2 (y := 2) (z := 0) (w := 0) (N := 14 * k + 12) rfl rfl (by omega)]
    refine z_icmp_ge_f (tgt := 37) E dX6_takesOff_14 (by decide) (fun h => by have := (nI_leI (by omega) (by omega)).mp h; omega) ?_
    refine z_aload_n E dX6_takesOff_17 rfl 1 rfl ?_
    refine z_get E 0 mw_obj (C := RX6) (T := TX6) (N := 16) rfl (fun _ h => List.mem_cons_of_mem _ (List.mem_append_right _ h)) 1 (by decide) (List.mem_of_getElem? (i := 1) (by decide +kernel)) rfl (v := .ref (am 1)) rfl dX6_takesOff_18 ?_
    refine z_iload_n E dX6_takesOff_21 rfl 0 rfl ?_
    refine z_aload_n E dX6_takesOff_22 rfl 1 rfl ?_
    refine z_get E 0 mw_obj (C := RX6) (T := TX6) (N := 16) rfl (fun _ h => List.mem_cons_of_mem _ (List.mem_append_right _ h)) 1 (by decide) (List.mem_of_getElem? (i := 1) (by decide +kernel)) rfl (v := .ref (am 1)) rfl dX6_takesOff_23 ?_
    refine z_iload_n E dX6_takesOff_26 rfl 0 rfl ?_
    refine z_iconst (v := 2) E dX6_takesOff_27 (by decide) ?_
    refine z_iadd E dX6_takesOff_28 ?_
    rw [show nI (14 * k + 10) + 2 = nI (14 * k + 12) from nI_add _ 2]
    refine z_iald E 1 0 mw_s rfl (vp_in_nI (by omega) (by decide)) (v := v4) ((congrArg (m15 1) (nI_clamp (by omega))).trans xm15_12) dX6_takesOff_29 ?_
    refine z_iast E 1 0 mw_s rfl (vp_in_nI (by omega) (by decide)) (ws' := mw am cI dg (mset m15 1 (14 * k + 10) v4)) (by rw [nI_clamp (by omega)]; exact (ms_s (14 * k + 10) v4)) dX6_takesOff_30 ?_
    refine z_gm2 (fun m16 hm16 => ?_)
    have xm16_0 : m16 1 (14 * k + 0) = R 0 := by rw [hm16, mset_ne2 _ _ (by omega)]; exact xm15_0
    have xm16_1 : m16 1 (14 * k + 1) = R 1 := by rw [hm16, mset_ne2 _ _ (by omega)]; exact xm15_1
    have xm16_2 : m16 1 (14 * k + 2) = R 2 := by rw [hm16, mset_ne2 _ _ (by omega)]; exact xm15_2
    have xm16_3 : m16 1 (14 * k + 3) = R 3 := by rw [hm16, mset_ne2 _ _ (by omega)]; exact xm15_3
    have xm16_4 : m16 1 (14 * k + 4) = R 4 := by rw [hm16, mset_ne2 _ _ (by omega)]; exact xm15_4
    have xm16_5 : m16 1 (14 * k + 5) = R 5 := by rw [hm16, mset_ne2 _ _ (by omega)]; exact xm15_5
    have xm16_6 : m16 1 (14 * k + 7) = R 6 := by rw [hm16, mset_ne2 _ _ (by omega)]; exact xm15_6
    have xm16_7 : m16 1 (14 * k + 6) = 3 := by rw [hm16, mset_ne2 _ _ (by omega)]; exact xm15_7
    have xm16_8 : m16 1 (14 * k + 8) = v2 := by rw [hm16, mset_ne2 _ _ (by omega)]; exact xm15_8
    have xm16_9 : m16 1 (14 * k + 9) = v3 := by rw [hm16, mset_ne2 _ _ (by omega)]; exact xm15_9
    have xm16_10 : m16 1 (14 * k + 10) = v4 := by rw [hm16, mset_at]
    have xm16_11 : m16 1 (14 * k + 11) = v3 := by rw [hm16, mset_ne2 _ _ (by omega)]; exact xm15_11
    have xm16_12 : m16 1 (14 * k + 12) = v4 := by rw [hm16, mset_ne2 _ _ (by omega)]; exact xm15_12
    have xm16_13 : m16 1 (14 * k + 13) = v5 := by rw [hm16, mset_ne2 _ _ (by omega)]; exact xm15_13
    refine z_iinc (v := nI (14 * k + 10) + 1) (lv' := [(3, .int (nI (14 * k + 10) + 1)), (0, .ref (am 0)), (1, .int (nI k)), (2, .int (nI 0))]) E dX6_takesOff_31 (q := 0) rfl rfl (by decide) rfl ?_
    refine z_eq (ws' := mw am cI dg m16) (lv' := [(3, .int (nI (14 * k + 11))), (0, .ref (am 0)), (1, .int (nI k)), (2, .int (nI 0))]) (st' := []) rfl (by rw [show nI (14 * k + 10) + 1 = nI (14 * k + 11) from nI_1 _]) rfl ?_
    refine z_goto (tgt := 7) E dX6_takesOff_34 (by decide) ?_
    refine z_iload_n E dX6_takesOff_7 rfl 0 rfl ?_
    refine z_iload_n E dX6_takesOff_8 rfl 2 rfl ?_
    refine z_iconst (v := 2) E dX6_takesOff_9 (by decide) ?_
    refine z_iconst (v := 0) E dX6_takesOff_10 (by decide) ?_
    refine z_callSi E hZ (k_ofP l D am cI cR cS cL dg m16 (nI k) 2 0) gX6_takesOff_X6_ofPerson (n := 3) rfl rfl rfl (by decide +kernel) rfl ⟨Nat.le_of_ble_eq_true rfl, Nat.le_of_ble_eq_true rfl⟩ (As := [.int (nI k), .int 2, .int 0]) (rest := [.int (nI (14 * k + 11))]) rfl (Nat.le_of_ble_eq_true rfl) ⟨Nat.le_of_ble_eq_true rfl, Nat.le_of_ble_eq_true rfl⟩ dX6_takesOff_11 (fun r u hp => ?_)
    rw [hp.1, hp.2]
    rw [zofP k 2 (y := 2) (z := 0) (w := 0) (N := 14 * k + 12) rfl rfl (by omega)]
    refine z_icmp_ge_f (tgt := 37) E dX6_takesOff_14 (by decide) (fun h => by have := (nI_leI (by omega) (by omega)).mp h; omega) ?_
    refine z_aload_n E dX6_takesOff_17 rfl 1 rfl ?_
    refine z_get E 0 mw_obj (C := RX6) (T := TX6) (N := 16) rfl (fun _ h => List.mem_cons_of_mem _ (List.mem_append_right _ h)) 1 (by decide) (List.mem_of_getElem? (i := 1) (by decide +kernel)) rfl (v := .ref (am 1)) rfl dX6_takesOff_18 ?_
    refine z_iload_n E dX6_takesOff_21 rfl 0 rfl ?_
    refine z_aload_n E dX6_takesOff_22 rfl 1 rfl ?_
    refine z_get E 0 mw_obj (C := RX6) (T := TX6) (N := 16) rfl (fun _ h => List.mem_cons_of_mem _ (List.mem_append_right _ h)) 1 (by decide) (List.mem_of_getElem? (i := 1) (by decide +kernel)) rfl (v := .ref (am 1)) rfl dX6_takesOff_23 ?_
    refine z_iload_n E dX6_takesOff_26 rfl 0 rfl ?_
    refine z_iconst (v := 2) E dX6_takesOff_27 (by decide) ?_
    refine z_iadd E dX6_takesOff_28 ?_
    rw [show nI (14 * k + 11) + 2 = nI (14 * k + 13) from nI_add _ 2]
    refine z_iald E 1 0 mw_s rfl (vp_in_nI (by omega) (by decide)) (v := v5) ((congrArg (m16 1) (nI_clamp (by omega))).trans xm16_13) dX6_takesOff_29 ?_
    refine z_iast E 1 0 mw_s rfl (vp_in_nI (by omega) (by decide)) (ws' := mw am cI dg (mset m16 1 (14 * k + 11) v5)) (by rw [nI_clamp (by omega)]; exact (ms_s (14 * k + 11) v5)) dX6_takesOff_30 ?_
    refine z_gm2 (fun m17 hm17 => ?_)
    have xm17_0 : m17 1 (14 * k + 0) = R 0 := by rw [hm17, mset_ne2 _ _ (by omega)]; exact xm16_0
    have xm17_1 : m17 1 (14 * k + 1) = R 1 := by rw [hm17, mset_ne2 _ _ (by omega)]; exact xm16_1
    have xm17_2 : m17 1 (14 * k + 2) = R 2 := by rw [hm17, mset_ne2 _ _ (by omega)]; exact xm16_2
    have xm17_3 : m17 1 (14 * k + 3) = R 3 := by rw [hm17, mset_ne2 _ _ (by omega)]; exact xm16_3
    have xm17_4 : m17 1 (14 * k + 4) = R 4 := by rw [hm17, mset_ne2 _ _ (by omega)]; exact xm16_4
    have xm17_5 : m17 1 (14 * k + 5) = R 5 := by rw [hm17, mset_ne2 _ _ (by omega)]; exact xm16_5
    have xm17_6 : m17 1 (14 * k + 7) = R 6 := by rw [hm17, mset_ne2 _ _ (by omega)]; exact xm16_6
    have xm17_7 : m17 1 (14 * k + 6) = 3 := by rw [hm17, mset_ne2 _ _ (by omega)]; exact xm16_7
    have xm17_8 : m17 1 (14 * k + 8) = v2 := by rw [hm17, mset_ne2 _ _ (by omega)]; exact xm16_8
    have xm17_9 : m17 1 (14 * k + 9) = v3 := by rw [hm17, mset_ne2 _ _ (by omega)]; exact xm16_9
    have xm17_10 : m17 1 (14 * k + 10) = v4 := by rw [hm17, mset_ne2 _ _ (by omega)]; exact xm16_10
    have xm17_11 : m17 1 (14 * k + 11) = v5 := by rw [hm17, mset_at]
    have xm17_12 : m17 1 (14 * k + 12) = v4 := by rw [hm17, mset_ne2 _ _ (by omega)]; exact xm16_12
    have xm17_13 : m17 1 (14 * k + 13) = v5 := by rw [hm17, mset_ne2 _ _ (by omega)]; exact xm16_13
    refine z_iinc (v := nI (14 * k + 11) + 1) (lv' := [(3, .int (nI (14 * k + 11) + 1)), (0, .ref (am 0)), (1, .int (nI k)), (2, .int (nI 0))]) E dX6_takesOff_31 (q := 0) rfl rfl (by decide) rfl ?_
    refine z_eq (ws' := mw am cI dg m17) (lv' := [(3, .int (nI (14 * k + 12))), (0, .ref (am 0)), (1, .int (nI k)), (2, .int (nI 0))]) (st' := []) rfl (by rw [show nI (14 * k + 11) + 1 = nI (14 * k + 12) from nI_1 _]) rfl ?_
    refine z_goto (tgt := 7) E dX6_takesOff_34 (by decide) ?_
    refine z_iload_n E dX6_takesOff_7 rfl 0 rfl ?_
    refine z_iload_n E dX6_takesOff_8 rfl 2 rfl ?_
    refine z_iconst (v := 2) E dX6_takesOff_9 (by decide) ?_
    refine z_iconst (v := 0) E dX6_takesOff_10 (by decide) ?_
    refine z_callSi E hZ (k_ofP l D am cI cR cS cL dg m17 (nI k) 2 0) gX6_takesOff_X6_ofPerson (n := 3) rfl rfl rfl (by decide +kernel) rfl ⟨Nat.le_of_ble_eq_true rfl, Nat.le_of_ble_eq_true rfl⟩ (As := [.int (nI k), .int 2, .int 0]) (rest := [.int (nI (14 * k + 12))]) rfl (Nat.le_of_ble_eq_true rfl) ⟨Nat.le_of_ble_eq_true rfl, Nat.le_of_ble_eq_true rfl⟩ dX6_takesOff_11 (fun r u hp => ?_)
    rw [hp.1, hp.2]
    rw [zofP k 2 (y := 2) (z := 0) (w := 0) (N := 14 * k + 12) rfl rfl (by omega)]
    refine z_icmp_ge_t (tgt := 37) E dX6_takesOff_14 (by decide) ((nI_leI (by omega) (by omega)).mpr (by omega)) ?_
    refine z_aload_n E dX6_takesOff_37 rfl 1 rfl ?_
    refine z_get E 0 mw_obj (C := RX6) (T := TX6) (N := 16) rfl (fun _ h => List.mem_cons_of_mem _ (List.mem_append_right _ h)) 1 (by decide) (List.mem_of_getElem? (i := 1) (by decide +kernel)) rfl (v := .ref (am 1)) rfl dX6_takesOff_38 ?_
    refine z_iload_n E dX6_takesOff_41 rfl 2 rfl ?_
    refine z_bipush (v := 6) E dX6_takesOff_42 (by decide) ?_
    refine z_callSi E hZ (k_of l D am cI cR cS cL dg m17 (nI k) 6) gX6_takesOff_X6_of (n := 2) rfl rfl rfl (by decide +kernel) rfl ⟨Nat.le_of_ble_eq_true rfl, Nat.le_of_ble_eq_true rfl⟩ (As := [.int (nI k), .int 6]) (rest := [.ref (am 1)]) rfl (Nat.le_of_ble_eq_true rfl) ⟨Nat.le_of_ble_eq_true rfl, Nat.le_of_ble_eq_true rfl⟩ dX6_takesOff_44 (fun r u hp => ?_)
    rw [hp.1, hp.2]
    rw [zof k (y := 6) (w := 6) rfl]
    refine z_dup2 E dX6_takesOff_47 rfl rfl ?_
    refine z_iald E 1 0 mw_s rfl (vp_in_nI (by omega) (by decide)) (v := 3) ((congrArg (m17 1) (nI_clamp (by omega))).trans xm17_7) dX6_takesOff_48 ?_
    refine z_iconst (v := 1) E dX6_takesOff_49 (by decide) ?_
    refine z_isubV (v := 2) E dX6_takesOff_50 (by decide) ?_
    refine z_iast E 1 0 mw_s rfl (vp_in_nI (by omega) (by decide)) (ws' := mw am cI dg (mset m17 1 (14 * k + 6) 2)) (by rw [nI_clamp (by omega)]; exact (ms_s (14 * k + 6) 2)) dX6_takesOff_51 ?_
    refine z_gm2 (fun m18 hm18 => ?_)
    have xm18_0 : m18 1 (14 * k + 0) = R 0 := by rw [hm18, mset_ne2 _ _ (by omega)]; exact xm17_0
    have xm18_1 : m18 1 (14 * k + 1) = R 1 := by rw [hm18, mset_ne2 _ _ (by omega)]; exact xm17_1
    have xm18_2 : m18 1 (14 * k + 2) = R 2 := by rw [hm18, mset_ne2 _ _ (by omega)]; exact xm17_2
    have xm18_3 : m18 1 (14 * k + 3) = R 3 := by rw [hm18, mset_ne2 _ _ (by omega)]; exact xm17_3
    have xm18_4 : m18 1 (14 * k + 4) = R 4 := by rw [hm18, mset_ne2 _ _ (by omega)]; exact xm17_4
    have xm18_5 : m18 1 (14 * k + 5) = R 5 := by rw [hm18, mset_ne2 _ _ (by omega)]; exact xm17_5
    have xm18_6 : m18 1 (14 * k + 7) = R 6 := by rw [hm18, mset_ne2 _ _ (by omega)]; exact xm17_6
    have xm18_7 : m18 1 (14 * k + 6) = 2 := by rw [hm18, mset_at]
    have xm18_8 : m18 1 (14 * k + 8) = v2 := by rw [hm18, mset_ne2 _ _ (by omega)]; exact xm17_8
    have xm18_9 : m18 1 (14 * k + 9) = v3 := by rw [hm18, mset_ne2 _ _ (by omega)]; exact xm17_9
    have xm18_10 : m18 1 (14 * k + 10) = v4 := by rw [hm18, mset_ne2 _ _ (by omega)]; exact xm17_10
    have xm18_11 : m18 1 (14 * k + 11) = v5 := by rw [hm18, mset_ne2 _ _ (by omega)]; exact xm17_11
    have xm18_12 : m18 1 (14 * k + 12) = v4 := by rw [hm18, mset_ne2 _ _ (by omega)]; exact xm17_12
    have xm18_13 : m18 1 (14 * k + 13) = v5 := by rw [hm18, mset_ne2 _ _ (by omega)]; exact xm17_13
    exact z_vretM E hr hlocks (m18) rfl ⟨⟨xm18_0, xm18_1, xm18_2, xm18_3, xm18_4, xm18_5, xm18_7, xm18_6, fun i hi => by rcases (show i = 0 ∨ i = 1 by omega) with hi0 | hi0; subst hi0; exact ⟨xm18_8.trans r2, xm18_9.trans r3⟩; subst hi0; exact ⟨xm18_10.trans r4, xm18_11.trans r5⟩⟩, fun j hj => by rw [hm18, mset_ne2 _ _ (by omega), hm17, mset_ne2 _ _ (by omega), hm16, mset_ne2 _ _ (by omega), hm15, mset_ne2 _ _ (by omega), hm14, mset_ne2 _ _ (by omega)], by rw [hm18, hm17, hm16, hm15, hm14]; exact (((((zFr_s _ _ _).trans (zFr_s _ _ _)).trans (zFr_s _ _ _)).trans (zFr_s _ _ _)).trans (zFr_s _ _ _))⟩ (Nat.le_of_ble_eq_true rfl) (Nat.le_of_ble_eq_true rfl) dX6_takesOff_52
  · skip
    subst h1; subst h2
    have r0 : v0 = R 8 := hv0.symm.trans (qp 0 (by omega)).1
    have r1 : v1 = R 11 := hv1.symm.trans (qp 0 (by omega)).2
    have r2 : v2 = R 9 := hv2.symm.trans (qp 1 (by omega)).1
    have r3 : v3 = R 12 := hv3.symm.trans (qp 1 (by omega)).2
    have r4 : v4 = R 10 := hv4.symm.trans (qp 2 (by omega)).1
    have r5 : v5 = R 13 := hv5.symm.trans (qp 2 (by omega)).2
    refine z_iload_n E dX6_takesOff_0 rfl 1 rfl ?_
    refine z_iload_n E dX6_takesOff_1 rfl 2 rfl ?_
    refine z_iconst (v := 0) E dX6_takesOff_2 (by decide) ?_
    refine z_callSi E hZ (k_ofP l D am cI cR cS cL dg mem (nI k) (nI 1) 0) gX6_takesOff_X6_ofPerson (n := 3) rfl rfl rfl (by decide +kernel) rfl ⟨Nat.le_of_ble_eq_true rfl, Nat.le_of_ble_eq_true rfl⟩ (As := [.int (nI k), .int (nI 1), .int 0]) (rest := []) rfl (Nat.le_of_ble_eq_true rfl) ⟨Nat.le_of_ble_eq_true rfl, Nat.le_of_ble_eq_true rfl⟩ dX6_takesOff_3 (fun r u hp => ?_)
    rw [hp.1, hp.2]
    rw [zofP k 1 (y := nI 1) (z := 0) (w := 0) (N := 14 * k + 10) rfl rfl (by omega)]
    refine z_istore_n (lv' := [(3, .int (nI (14 * k + 10))), (0, .ref (am 0)), (1, .int (nI k)), (2, .int (nI 1))]) E dX6_takesOff_6 rfl (by decide) rfl ?_
    refine z_iload_n E dX6_takesOff_7 rfl 0 rfl ?_
    refine z_iload_n E dX6_takesOff_8 rfl 2 rfl ?_
    refine z_iconst (v := 2) E dX6_takesOff_9 (by decide) ?_
    refine z_iconst (v := 0) E dX6_takesOff_10 (by decide) ?_
    refine z_callSi E hZ (k_ofP l D am cI cR cS cL dg mem (nI k) 2 0) gX6_takesOff_X6_ofPerson (n := 3) rfl rfl rfl (by decide +kernel) rfl ⟨Nat.le_of_ble_eq_true rfl, Nat.le_of_ble_eq_true rfl⟩ (As := [.int (nI k), .int 2, .int 0]) (rest := [.int (nI (14 * k + 10))]) rfl (Nat.le_of_ble_eq_true rfl) ⟨Nat.le_of_ble_eq_true rfl, Nat.le_of_ble_eq_true rfl⟩ dX6_takesOff_11 (fun r u hp => ?_)
    rw [hp.1, hp.2]
    rw [zofP k 2 (y := 2) (z := 0) (w := 0) (N := 14 * k + 12) rfl rfl (by omega)]
    refine z_icmp_ge_f (tgt := 37) E dX6_takesOff_14 (by decide) (fun h => by have := (nI_leI (by omega) (by omega)).mp h; omega) ?_
    refine z_aload_n E dX6_takesOff_17 rfl 1 rfl ?_
    refine z_get E 0 mw_obj (C := RX6) (T := TX6) (N := 16) rfl (fun _ h => List.mem_cons_of_mem _ (List.mem_append_right _ h)) 1 (by decide) (List.mem_of_getElem? (i := 1) (by decide +kernel)) rfl (v := .ref (am 1)) rfl dX6_takesOff_18 ?_
    refine z_iload_n E dX6_takesOff_21 rfl 0 rfl ?_
    refine z_aload_n E dX6_takesOff_22 rfl 1 rfl ?_
    refine z_get E 0 mw_obj (C := RX6) (T := TX6) (N := 16) rfl (fun _ h => List.mem_cons_of_mem _ (List.mem_append_right _ h)) 1 (by decide) (List.mem_of_getElem? (i := 1) (by decide +kernel)) rfl (v := .ref (am 1)) rfl dX6_takesOff_23 ?_
    refine z_iload_n E dX6_takesOff_26 rfl 0 rfl ?_
    refine z_iconst (v := 2) E dX6_takesOff_27 (by decide) ?_
    refine z_iadd E dX6_takesOff_28 ?_
    rw [show nI (14 * k + 10) + 2 = nI (14 * k + 12) from nI_add _ 2]
    refine z_iald E 1 0 mw_s rfl (vp_in_nI (by omega) (by decide)) (v := v4) ((congrArg (mem 1) (nI_clamp (by omega))).trans hv4) dX6_takesOff_29 ?_
    refine z_iast E 1 0 mw_s rfl (vp_in_nI (by omega) (by decide)) (ws' := mw am cI dg (mset mem 1 (14 * k + 10) v4)) (by rw [nI_clamp (by omega)]; exact (ms_s (14 * k + 10) v4)) dX6_takesOff_30 ?_
    refine z_gm2 (fun m19 hm19 => ?_)
    have xm19_0 : m19 1 (14 * k + 0) = R 0 := by rw [hm19, mset_ne2 _ _ (by omega)]; exact q0
    have xm19_1 : m19 1 (14 * k + 1) = R 1 := by rw [hm19, mset_ne2 _ _ (by omega)]; exact q1
    have xm19_2 : m19 1 (14 * k + 2) = R 2 := by rw [hm19, mset_ne2 _ _ (by omega)]; exact q2
    have xm19_3 : m19 1 (14 * k + 3) = R 3 := by rw [hm19, mset_ne2 _ _ (by omega)]; exact q3
    have xm19_4 : m19 1 (14 * k + 4) = R 4 := by rw [hm19, mset_ne2 _ _ (by omega)]; exact q4
    have xm19_5 : m19 1 (14 * k + 5) = R 5 := by rw [hm19, mset_ne2 _ _ (by omega)]; exact q5
    have xm19_6 : m19 1 (14 * k + 7) = R 6 := by rw [hm19, mset_ne2 _ _ (by omega)]; exact q7
    have xm19_7 : m19 1 (14 * k + 6) = 3 := by rw [hm19, mset_ne2 _ _ (by omega)]; exact q6
    have xm19_8 : m19 1 (14 * k + 8) = v0 := by rw [hm19, mset_ne2 _ _ (by omega)]; exact hv0
    have xm19_9 : m19 1 (14 * k + 9) = v1 := by rw [hm19, mset_ne2 _ _ (by omega)]; exact hv1
    have xm19_10 : m19 1 (14 * k + 10) = v4 := by rw [hm19, mset_at]
    have xm19_11 : m19 1 (14 * k + 11) = v3 := by rw [hm19, mset_ne2 _ _ (by omega)]; exact hv3
    have xm19_12 : m19 1 (14 * k + 12) = v4 := by rw [hm19, mset_ne2 _ _ (by omega)]; exact hv4
    have xm19_13 : m19 1 (14 * k + 13) = v5 := by rw [hm19, mset_ne2 _ _ (by omega)]; exact hv5
    refine z_iinc (v := nI (14 * k + 10) + 1) (lv' := [(3, .int (nI (14 * k + 10) + 1)), (0, .ref (am 0)), (1, .int (nI k)), (2, .int (nI 1))]) E dX6_takesOff_31 (q := 0) rfl rfl (by decide) rfl ?_
    refine z_eq (ws' := mw am cI dg m19) (lv' := [(3, .int (nI (14 * k + 11))), (0, .ref (am 0)), (1, .int (nI k)), (2, .int (nI 1))]) (st' := []) rfl (by rw [show nI (14 * k + 10) + 1 = nI (14 * k + 11) from nI_1 _]) rfl ?_
    refine z_goto (tgt := 7) E dX6_takesOff_34 (by decide) ?_
    refine z_iload_n E dX6_takesOff_7 rfl 0 rfl ?_
    refine z_iload_n E dX6_takesOff_8 rfl 2 rfl ?_
    refine z_iconst (v := 2) E dX6_takesOff_9 (by decide) ?_
    refine z_iconst (v := 0) E dX6_takesOff_10 (by decide) ?_
    refine z_callSi E hZ (k_ofP l D am cI cR cS cL dg m19 (nI k) 2 0) gX6_takesOff_X6_ofPerson (n := 3) rfl rfl rfl (by decide +kernel) rfl ⟨Nat.le_of_ble_eq_true rfl, Nat.le_of_ble_eq_true rfl⟩ (As := [.int (nI k), .int 2, .int 0]) (rest := [.int (nI (14 * k + 11))]) rfl (Nat.le_of_ble_eq_true rfl) ⟨Nat.le_of_ble_eq_true rfl, Nat.le_of_ble_eq_true rfl⟩ dX6_takesOff_11 (fun r u hp => ?_)
    rw [hp.1, hp.2]
    rw [zofP k 2 (y := 2) (z := 0) (w := 0) (N := 14 * k + 12) rfl rfl (by omega)]
    refine z_icmp_ge_f (tgt := 37) E dX6_takesOff_14 (by decide) (fun h => by have := (nI_leI (by omega) (by omega)).mp h; omega) ?_
    refine z_aload_n E dX6_takesOff_17 rfl 1 rfl ?_
    refine z_get E 0 mw_obj (C := RX6) (T := TX6) (N := 16) rfl (fun _ h => List.mem_cons_of_mem _ (List.mem_append_right _ h)) 1 (by decide) (List.mem_of_getElem? (i := 1) (by decide +kernel)) rfl (v := .ref (am 1)) rfl dX6_takesOff_18 ?_
    refine z_iload_n E dX6_takesOff_21 rfl 0 rfl ?_
    refine z_aload_n E dX6_takesOff_22 rfl 1 rfl ?_
    refine z_get E 0 mw_obj (C := RX6) (T := TX6) (N := 16) rfl (fun _ h => List.mem_cons_of_mem _ (List.mem_append_right _ h)) 1 (by decide) (List.mem_of_getElem? (i := 1) (by decide +kernel)) rfl (v := .ref (am 1)) rfl dX6_takesOff_23 ?_
    refine z_iload_n E dX6_takesOff_26 rfl 0 rfl ?_
    refine z_iconst (v := 2) E dX6_takesOff_27 (by decide) ?_
    refine z_iadd E dX6_takesOff_28 ?_
    rw [show nI (14 * k + 11) + 2 = nI (14 * k + 13) from nI_add _ 2]
    refine z_iald E 1 0 mw_s rfl (vp_in_nI (by omega) (by decide)) (v := v5) ((congrArg (m19 1) (nI_clamp (by omega))).trans xm19_13) dX6_takesOff_29 ?_
    refine z_iast E 1 0 mw_s rfl (vp_in_nI (by omega) (by decide)) (ws' := mw am cI dg (mset m19 1 (14 * k + 11) v5)) (by rw [nI_clamp (by omega)]; exact (ms_s (14 * k + 11) v5)) dX6_takesOff_30 ?_
    refine z_gm2 (fun m20 hm20 => ?_)
    have xm20_0 : m20 1 (14 * k + 0) = R 0 := by rw [hm20, mset_ne2 _ _ (by omega)]; exact xm19_0
    have xm20_1 : m20 1 (14 * k + 1) = R 1 := by rw [hm20, mset_ne2 _ _ (by omega)]; exact xm19_1
    have xm20_2 : m20 1 (14 * k + 2) = R 2 := by rw [hm20, mset_ne2 _ _ (by omega)]; exact xm19_2
    have xm20_3 : m20 1 (14 * k + 3) = R 3 := by rw [hm20, mset_ne2 _ _ (by omega)]; exact xm19_3
    have xm20_4 : m20 1 (14 * k + 4) = R 4 := by rw [hm20, mset_ne2 _ _ (by omega)]; exact xm19_4
    have xm20_5 : m20 1 (14 * k + 5) = R 5 := by rw [hm20, mset_ne2 _ _ (by omega)]; exact xm19_5
    have xm20_6 : m20 1 (14 * k + 7) = R 6 := by rw [hm20, mset_ne2 _ _ (by omega)]; exact xm19_6
    have xm20_7 : m20 1 (14 * k + 6) = 3 := by rw [hm20, mset_ne2 _ _ (by omega)]; exact xm19_7
    have xm20_8 : m20 1 (14 * k + 8) = v0 := by rw [hm20, mset_ne2 _ _ (by omega)]; exact xm19_8
    have xm20_9 : m20 1 (14 * k + 9) = v1 := by rw [hm20, mset_ne2 _ _ (by omega)]; exact xm19_9
    have xm20_10 : m20 1 (14 * k + 10) = v4 := by rw [hm20, mset_ne2 _ _ (by omega)]; exact xm19_10
    have xm20_11 : m20 1 (14 * k + 11) = v5 := by rw [hm20, mset_at]
    have xm20_12 : m20 1 (14 * k + 12) = v4 := by rw [hm20, mset_ne2 _ _ (by omega)]; exact xm19_12
    have xm20_13 : m20 1 (14 * k + 13) = v5 := by rw [hm20, mset_ne2 _ _ (by omega)]; exact xm19_13
    refine z_iinc (v := nI (14 * k + 11) + 1) (lv' := [(3, .int (nI (14 * k + 11) + 1)), (0, .ref (am 0)), (1, .int (nI k)), (2, .int (nI 1))]) E dX6_takesOff_31 (q := 0) rfl rfl (by decide) rfl ?_
    refine z_eq (ws' := mw am cI dg m20) (lv' := [(3, .int (nI (14 * k + 12))), (0, .ref (am 0)), (1, .int (nI k)), (2, .int (nI 1))]) (st' := []) rfl (by rw [show nI (14 * k + 11) + 1 = nI (14 * k + 12) from nI_1 _]) rfl ?_
    refine z_goto (tgt := 7) E dX6_takesOff_34 (by decide) ?_
    refine z_iload_n E dX6_takesOff_7 rfl 0 rfl ?_
    refine z_iload_n E dX6_takesOff_8 rfl 2 rfl ?_
    refine z_iconst (v := 2) E dX6_takesOff_9 (by decide) ?_
    refine z_iconst (v := 0) E dX6_takesOff_10 (by decide) ?_
    refine z_callSi E hZ (k_ofP l D am cI cR cS cL dg m20 (nI k) 2 0) gX6_takesOff_X6_ofPerson (n := 3) rfl rfl rfl (by decide +kernel) rfl ⟨Nat.le_of_ble_eq_true rfl, Nat.le_of_ble_eq_true rfl⟩ (As := [.int (nI k), .int 2, .int 0]) (rest := [.int (nI (14 * k + 12))]) rfl (Nat.le_of_ble_eq_true rfl) ⟨Nat.le_of_ble_eq_true rfl, Nat.le_of_ble_eq_true rfl⟩ dX6_takesOff_11 (fun r u hp => ?_)
    rw [hp.1, hp.2]
    rw [zofP k 2 (y := 2) (z := 0) (w := 0) (N := 14 * k + 12) rfl rfl (by omega)]
    refine z_icmp_ge_t (tgt := 37) E dX6_takesOff_14 (by decide) ((nI_leI (by omega) (by omega)).mpr (by omega)) ?_
    refine z_aload_n E dX6_takesOff_37 rfl 1 rfl ?_
    refine z_get E 0 mw_obj (C := RX6) (T := TX6) (N := 16) rfl (fun _ h => List.mem_cons_of_mem _ (List.mem_append_right _ h)) 1 (by decide) (List.mem_of_getElem? (i := 1) (by decide +kernel)) rfl (v := .ref (am 1)) rfl dX6_takesOff_38 ?_
    refine z_iload_n E dX6_takesOff_41 rfl 2 rfl ?_
    refine z_bipush (v := 6) E dX6_takesOff_42 (by decide) ?_
    refine z_callSi E hZ (k_of l D am cI cR cS cL dg m20 (nI k) 6) gX6_takesOff_X6_of (n := 2) rfl rfl rfl (by decide +kernel) rfl ⟨Nat.le_of_ble_eq_true rfl, Nat.le_of_ble_eq_true rfl⟩ (As := [.int (nI k), .int 6]) (rest := [.ref (am 1)]) rfl (Nat.le_of_ble_eq_true rfl) ⟨Nat.le_of_ble_eq_true rfl, Nat.le_of_ble_eq_true rfl⟩ dX6_takesOff_44 (fun r u hp => ?_)
    rw [hp.1, hp.2]
    rw [zof k (y := 6) (w := 6) rfl]
    refine z_dup2 E dX6_takesOff_47 rfl rfl ?_
    refine z_iald E 1 0 mw_s rfl (vp_in_nI (by omega) (by decide)) (v := 3) ((congrArg (m20 1) (nI_clamp (by omega))).trans xm20_7) dX6_takesOff_48 ?_
    refine z_iconst (v := 1) E dX6_takesOff_49 (by decide) ?_
    refine z_isubV (v := 2) E dX6_takesOff_50 (by decide) ?_
    refine z_iast E 1 0 mw_s rfl (vp_in_nI (by omega) (by decide)) (ws' := mw am cI dg (mset m20 1 (14 * k + 6) 2)) (by rw [nI_clamp (by omega)]; exact (ms_s (14 * k + 6) 2)) dX6_takesOff_51 ?_
    refine z_gm2 (fun m21 hm21 => ?_)
    have xm21_0 : m21 1 (14 * k + 0) = R 0 := by rw [hm21, mset_ne2 _ _ (by omega)]; exact xm20_0
    have xm21_1 : m21 1 (14 * k + 1) = R 1 := by rw [hm21, mset_ne2 _ _ (by omega)]; exact xm20_1
    have xm21_2 : m21 1 (14 * k + 2) = R 2 := by rw [hm21, mset_ne2 _ _ (by omega)]; exact xm20_2
    have xm21_3 : m21 1 (14 * k + 3) = R 3 := by rw [hm21, mset_ne2 _ _ (by omega)]; exact xm20_3
    have xm21_4 : m21 1 (14 * k + 4) = R 4 := by rw [hm21, mset_ne2 _ _ (by omega)]; exact xm20_4
    have xm21_5 : m21 1 (14 * k + 5) = R 5 := by rw [hm21, mset_ne2 _ _ (by omega)]; exact xm20_5
    have xm21_6 : m21 1 (14 * k + 7) = R 6 := by rw [hm21, mset_ne2 _ _ (by omega)]; exact xm20_6
    have xm21_7 : m21 1 (14 * k + 6) = 2 := by rw [hm21, mset_at]
    have xm21_8 : m21 1 (14 * k + 8) = v0 := by rw [hm21, mset_ne2 _ _ (by omega)]; exact xm20_8
    have xm21_9 : m21 1 (14 * k + 9) = v1 := by rw [hm21, mset_ne2 _ _ (by omega)]; exact xm20_9
    have xm21_10 : m21 1 (14 * k + 10) = v4 := by rw [hm21, mset_ne2 _ _ (by omega)]; exact xm20_10
    have xm21_11 : m21 1 (14 * k + 11) = v5 := by rw [hm21, mset_ne2 _ _ (by omega)]; exact xm20_11
    have xm21_12 : m21 1 (14 * k + 12) = v4 := by rw [hm21, mset_ne2 _ _ (by omega)]; exact xm20_12
    have xm21_13 : m21 1 (14 * k + 13) = v5 := by rw [hm21, mset_ne2 _ _ (by omega)]; exact xm20_13
    exact z_vretM E hr hlocks (m21) rfl ⟨⟨xm21_0, xm21_1, xm21_2, xm21_3, xm21_4, xm21_5, xm21_7, xm21_6, fun i hi => by rcases (show i = 0 ∨ i = 1 by omega) with hi0 | hi0; subst hi0; exact ⟨xm21_8.trans r0, xm21_9.trans r1⟩; subst hi0; exact ⟨xm21_10.trans r4, xm21_11.trans r5⟩⟩, fun j hj => by rw [hm21, mset_ne2 _ _ (by omega), hm20, mset_ne2 _ _ (by omega), hm19, mset_ne2 _ _ (by omega)], by rw [hm21, hm20, hm19]; exact (((zFr_s _ _ _).trans (zFr_s _ _ _)).trans (zFr_s _ _ _))⟩ (Nat.le_of_ble_eq_true rfl) (Nat.le_of_ble_eq_true rfl) dX6_takesOff_52
  · skip
    subst h1; subst h2
    have r0 : v0 = R 8 := hv0.symm.trans (qp 0 (by omega)).1
    have r1 : v1 = R 11 := hv1.symm.trans (qp 0 (by omega)).2
    have r2 : v2 = R 9 := hv2.symm.trans (qp 1 (by omega)).1
    have r3 : v3 = R 12 := hv3.symm.trans (qp 1 (by omega)).2
    have r4 : v4 = R 10 := hv4.symm.trans (qp 2 (by omega)).1
    have r5 : v5 = R 13 := hv5.symm.trans (qp 2 (by omega)).2
    refine z_iload_n E dX6_takesOff_0 rfl 1 rfl ?_
    refine z_iload_n E dX6_takesOff_1 rfl 2 rfl ?_
    refine z_iconst (v := 0) E dX6_takesOff_2 (by decide) ?_
    refine z_callSi E hZ (k_ofP l D am cI cR cS cL dg mem (nI k) (nI 2) 0) gX6_takesOff_X6_ofPerson (n := 3) rfl rfl rfl (by decide +kernel) rfl ⟨Nat.le_of_ble_eq_true rfl, Nat.le_of_ble_eq_true rfl⟩ (As := [.int (nI k), .int (nI 2), .int 0]) (rest := []) rfl (Nat.le_of_ble_eq_true rfl) ⟨Nat.le_of_ble_eq_true rfl, Nat.le_of_ble_eq_true rfl⟩ dX6_takesOff_3 (fun r u hp => ?_)
    rw [hp.1, hp.2]
    rw [zofP k 2 (y := nI 2) (z := 0) (w := 0) (N := 14 * k + 12) rfl rfl (by omega)]
    refine z_istore_n (lv' := [(3, .int (nI (14 * k + 12))), (0, .ref (am 0)), (1, .int (nI k)), (2, .int (nI 2))]) E dX6_takesOff_6 rfl (by decide) rfl ?_
    refine z_iload_n E dX6_takesOff_7 rfl 0 rfl ?_
    refine z_iload_n E dX6_takesOff_8 rfl 2 rfl ?_
    refine z_iconst (v := 2) E dX6_takesOff_9 (by decide) ?_
    refine z_iconst (v := 0) E dX6_takesOff_10 (by decide) ?_
    refine z_callSi E hZ (k_ofP l D am cI cR cS cL dg mem (nI k) 2 0) gX6_takesOff_X6_ofPerson (n := 3) rfl rfl rfl (by decide +kernel) rfl ⟨Nat.le_of_ble_eq_true rfl, Nat.le_of_ble_eq_true rfl⟩ (As := [.int (nI k), .int 2, .int 0]) (rest := [.int (nI (14 * k + 12))]) rfl (Nat.le_of_ble_eq_true rfl) ⟨Nat.le_of_ble_eq_true rfl, Nat.le_of_ble_eq_true rfl⟩ dX6_takesOff_11 (fun r u hp => ?_)
    rw [hp.1, hp.2]
    rw [zofP k 2 (y := 2) (z := 0) (w := 0) (N := 14 * k + 12) rfl rfl (by omega)]
    refine z_icmp_ge_t (tgt := 37) E dX6_takesOff_14 (by decide) ((nI_leI (by omega) (by omega)).mpr (by omega)) ?_
    refine z_aload_n E dX6_takesOff_37 rfl 1 rfl ?_
    refine z_get E 0 mw_obj (C := RX6) (T := TX6) (N := 16) rfl (fun _ h => List.mem_cons_of_mem _ (List.mem_append_right _ h)) 1 (by decide) (List.mem_of_getElem? (i := 1) (by decide +kernel)) rfl (v := .ref (am 1)) rfl dX6_takesOff_38 ?_
    refine z_iload_n E dX6_takesOff_41 rfl 2 rfl ?_
    refine z_bipush (v := 6) E dX6_takesOff_42 (by decide) ?_
    refine z_callSi E hZ (k_of l D am cI cR cS cL dg mem (nI k) 6) gX6_takesOff_X6_of (n := 2) rfl rfl rfl (by decide +kernel) rfl ⟨Nat.le_of_ble_eq_true rfl, Nat.le_of_ble_eq_true rfl⟩ (As := [.int (nI k), .int 6]) (rest := [.ref (am 1)]) rfl (Nat.le_of_ble_eq_true rfl) ⟨Nat.le_of_ble_eq_true rfl, Nat.le_of_ble_eq_true rfl⟩ dX6_takesOff_44 (fun r u hp => ?_)
    rw [hp.1, hp.2]
    rw [zof k (y := 6) (w := 6) rfl]
    refine z_dup2 E dX6_takesOff_47 rfl rfl ?_
    refine z_iald E 1 0 mw_s rfl (vp_in_nI (by omega) (by decide)) (v := 3) ((congrArg (mem 1) (nI_clamp (by omega))).trans q6) dX6_takesOff_48 ?_
    refine z_iconst (v := 1) E dX6_takesOff_49 (by decide) ?_
    refine z_isubV (v := 2) E dX6_takesOff_50 (by decide) ?_
    refine z_iast E 1 0 mw_s rfl (vp_in_nI (by omega) (by decide)) (ws' := mw am cI dg (mset mem 1 (14 * k + 6) 2)) (by rw [nI_clamp (by omega)]; exact (ms_s (14 * k + 6) 2)) dX6_takesOff_51 ?_
    refine z_gm2 (fun m22 hm22 => ?_)
    have xm22_0 : m22 1 (14 * k + 0) = R 0 := by rw [hm22, mset_ne2 _ _ (by omega)]; exact q0
    have xm22_1 : m22 1 (14 * k + 1) = R 1 := by rw [hm22, mset_ne2 _ _ (by omega)]; exact q1
    have xm22_2 : m22 1 (14 * k + 2) = R 2 := by rw [hm22, mset_ne2 _ _ (by omega)]; exact q2
    have xm22_3 : m22 1 (14 * k + 3) = R 3 := by rw [hm22, mset_ne2 _ _ (by omega)]; exact q3
    have xm22_4 : m22 1 (14 * k + 4) = R 4 := by rw [hm22, mset_ne2 _ _ (by omega)]; exact q4
    have xm22_5 : m22 1 (14 * k + 5) = R 5 := by rw [hm22, mset_ne2 _ _ (by omega)]; exact q5
    have xm22_6 : m22 1 (14 * k + 7) = R 6 := by rw [hm22, mset_ne2 _ _ (by omega)]; exact q7
    have xm22_7 : m22 1 (14 * k + 6) = 2 := by rw [hm22, mset_at]
    have xm22_8 : m22 1 (14 * k + 8) = v0 := by rw [hm22, mset_ne2 _ _ (by omega)]; exact hv0
    have xm22_9 : m22 1 (14 * k + 9) = v1 := by rw [hm22, mset_ne2 _ _ (by omega)]; exact hv1
    have xm22_10 : m22 1 (14 * k + 10) = v2 := by rw [hm22, mset_ne2 _ _ (by omega)]; exact hv2
    have xm22_11 : m22 1 (14 * k + 11) = v3 := by rw [hm22, mset_ne2 _ _ (by omega)]; exact hv3
    have xm22_12 : m22 1 (14 * k + 12) = v4 := by rw [hm22, mset_ne2 _ _ (by omega)]; exact hv4
    have xm22_13 : m22 1 (14 * k + 13) = v5 := by rw [hm22, mset_ne2 _ _ (by omega)]; exact hv5
    exact z_vretM E hr hlocks (m22) rfl ⟨⟨xm22_0, xm22_1, xm22_2, xm22_3, xm22_4, xm22_5, xm22_7, xm22_6, fun i hi => by rcases (show i = 0 ∨ i = 1 by omega) with hi0 | hi0; subst hi0; exact ⟨xm22_8.trans r0, xm22_9.trans r1⟩; subst hi0; exact ⟨xm22_10.trans r2, xm22_11.trans r3⟩⟩, fun j hj => by rw [hm22, mset_ne2 _ _ (by omega)], by rw [hm22]; exact (zFr_s _ _ _)⟩ (Nat.le_of_ble_eq_true rfl) (Nat.le_of_ble_eq_true rfl) dX6_takesOff_52
set_option maxHeartbeats 1000000 in
set_option maxRecDepth 100000 in
theorem k_goes (l : Launch) (D : va_G) (am : Nat → Nat) (cI cR cS cL : ClassId) (dg : Int64) (mem : zM) {cm : zM} (hok : zOK cm) (hS : zS cm (mem 1)) {k : Nat} (hk : k < 4) {p0 t : Nat} (hpp : rPp (rv cm k) p0) (ht : t < p0) : zMi l yX6_goes wsX6_goes ({ frames := 5, cells := 0, slots := 0, locals := 119 }) D (cK cI cR cS cL) [.ref (am 0), .int (nI k), .int (nI t)] (mw am cI dg mem) (fun r u => r = sFN (sRemove cm k (nI t)) 0 k (3 * k) 7 ∧ zFr mem u ∧ zS (sFN (sRemove cm k (nI t)) 0 k) (u 1)) (mw am cI dg) 0 0 := by
  refine zMiM.of (cc := cX6_goes) (maxL := 3) (ret := (some .int)) (by decide +kernel) rfl (lv0 := [(0, .ref (am 0)), (1, .int (nI k)), (2, .int (nI t))]) (Nat.le_of_ble_eq_true rfl) rfl ?_
  intro p e s m args below meth c E hZ hr hlocks hnm
  have hmR : mR (mem 1) k (rv cm k) p0 := by { obtain ⟨p1, hp1, hm1⟩ := hS.1 k hk; rw [rPp_unique hpp hp1]; exact hm1 }
  refine z_aload_n E dX6_goes_0 rfl 0 rfl ?_
  refine z_iload_n E dX6_goes_1 rfl 1 rfl ?_
  refine z_iload_n E dX6_goes_2 rfl 2 rfl ?_
  refine z_callVv E hZ (k_takesOff l D am cI cR cS cL dg mem hk hmR hpp.1 ht) gX6_goes_X6_takesOff (n := 2) rfl rfl rfl (by decide +kernel) rfl ⟨(Nat.le_of_ble_eq_true rfl), (Nat.le_of_ble_eq_true rfl)⟩ (C := RX6) rfl 0 mw_obj (As := [.int (nI k), .int (nI t)]) (rest := []) rfl (Nat.le_of_ble_eq_true rfl) ⟨(Nat.le_of_ble_eq_true rfl), (Nat.le_of_ble_eq_true rfl)⟩ dX6_goes_3 (fun m1 hp => ?_)
  have hS1 : zS (sRemove cm k (nI t)) (m1 1) := zS_rm hk hS hpp ht hp.1 hp.2.1
  have hok1 : zOK (sRemove cm k (nI t)) := zOK_rm hok hk hpp ht
  have fr0 := hp.2.2
  refine z_aload_n E dX6_goes_6 rfl 0 rfl ?_
  refine z_iload_n E dX6_goes_7 rfl 1 rfl ?_
  refine z_callVi E hZ (k_mfalls l D am cI cR cS cL dg m1 hok1 hS1 hk) gX6_goes_X6_falls (n := 1) rfl rfl rfl (by decide +kernel) rfl ⟨(Nat.le_of_ble_eq_true rfl), (Nat.le_of_ble_eq_true rfl)⟩ (C := RX6) rfl 0 mw_obj (As := [.int (nI k)]) (rest := []) rfl (Nat.le_of_ble_eq_true rfl) ⟨(Nat.le_of_ble_eq_true rfl), (Nat.le_of_ble_eq_true rfl)⟩ dX6_goes_8 (fun r m2 hp => ?_)
  rw [hp.1]
  have frm2 := hp.2.1
  have hSm2 := hp.2.2
  refine z_if_eq (tgt := 18) E dX6_goes_11 (by decide) (fun c11 => ?_) (fun c11 => ?_)
  · skip
    obtain ⟨p2, hp2, hm2⟩ := hSm2.1 k hk
    refine z_aload_n E dX6_goes_18 rfl 0 rfl ?_
    refine z_get E 0 mw_obj (C := RX6) (T := TX6) (N := 16) rfl (fun _ h => List.mem_cons_of_mem _ (List.mem_append_right _ h)) 1 (by decide) (List.mem_of_getElem? (i := 1) (by decide +kernel)) rfl (v := .ref (am 1)) rfl dX6_goes_19 ?_
    refine z_iload_n E dX6_goes_22 rfl 1 rfl ?_
    refine z_bipush (v := 6) E dX6_goes_23 (by decide) ?_
    refine z_callSi E hZ (k_of l D am cI cR cS cL dg m2 (nI k) 6) gX6_goes_X6_of (n := 2) rfl rfl rfl (by decide +kernel) rfl ⟨Nat.le_of_ble_eq_true rfl, Nat.le_of_ble_eq_true rfl⟩ (As := [.int (nI k), .int 6]) (rest := [.ref (am 1)]) rfl (Nat.le_of_ble_eq_true rfl) ⟨Nat.le_of_ble_eq_true rfl, Nat.le_of_ble_eq_true rfl⟩ dX6_goes_25 (fun r u hp => ?_)
    rw [hp.1, hp.2]
    rw [zof k (y := 6) (w := 6) rfl]
    refine z_iald E 1 0 mw_s rfl (vp_in_nI (by omega) (by decide)) (v := nI p2) ((congrArg (m2 1) (nI_clamp (by omega))).trans hm2.2.2.2.2.2.2.1) dX6_goes_28 ?_
    exact z_iretM E hr hlocks (m2) rfl ⟨hp2.2.1.symm, fr0.trans frm2, hSm2⟩ (Nat.le_of_ble_eq_true rfl) (Nat.le_of_ble_eq_true rfl) dX6_goes_29
  · skip
    refine z_iconst (v := 0) E dX6_goes_14 (by decide) ?_
    refine z_goto (tgt := 29) E dX6_goes_15 (by decide) ?_
    exact z_iretM E hr hlocks (m2) rfl ⟨(sFN_many0 hk ((fFN_01 _).resolve_left c11)).symm, fr0.trans frm2, hSm2⟩ (Nat.le_of_ble_eq_true rfl) (Nat.le_of_ble_eq_true rfl) dX6_goes_29
