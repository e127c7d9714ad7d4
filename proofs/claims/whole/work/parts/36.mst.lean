/-! the reference: somebody comes, goes, climbs -/
theorem sFN_many0 {c : zM} {k : Nat} (hk : k < 4) (h : fFN (rv c k) = 1) : sFN c 0 k (3 * k) 7 = 0 := by
  rw [sFN_1 h]
  exact congrFun (rv_fall (mem := c) (t := 0) (show k < 29 by omega)) 7
theorem addR_old {R : Nat → Int32} {p : Nat} {w : Int32} {j : Nat} (h7 : j ≠ 7) (h8 : j ≠ 8 + p) (h11 : j ≠ 11 + p) : addR R p w j = R j := by
  unfold addR
  rw [pk_un h7, pk_un h11, pk_un h8]
theorem zS_add {c : zM} {s s' : Nat → Int32} {k p : Nat} {w : Int32} (hk : k < 4) (h : zS c s) (hp : rPp (rv c k) p) (h3 : p < 3) (hp' : rPp (addR (rv c k) p w) (p + 1)) (e : s' = upd (upd (upd s (14 * k + 8 + 2 * p) w) (14 * k + 9 + 2 * p) 0) (14 * k + 6) (nI (p + 1))) : zS (sAdd c k w) s' := by
  obtain ⟨p', hpp, hm⟩ := h.1 k hk
  have ep := rPp_unique hp hpp
  subst ep
  have ho := zOnly_add k c w
  have hrv := rv_add (mem := c) (j := k) (v := w) hp.2.1 h3
  have out : ∀ j, j ≠ 14 * k + 6 → j ≠ 14 * k + 8 + 2 * p → j ≠ 14 * k + 9 + 2 * p → s' j = s j := fun j a b d => by rw [e, pk_un a, pk_un d, pk_un b]
  refine zS_rig (k := k) h (fun i hi ne => ho.rv ne) (fun j hj ne => out j (by omega) (by omega) (by omega)) (by rw [hrv]; exact hp') ?_ ?_ ?_
  · rw [hrv]
    obtain ⟨q0, q1, q2, q3, q4, q5, q6, q7, qp⟩ := hm
    have hR : ∀ j, j < 7 → addR (rv c k) p w j = rv c k j := fun j hj => addR_old (by omega) (by omega) (by omega)
    refine ⟨?_, ?_, ?_, ?_, ?_, ?_, ?_, ?_, fun t ht => ?_⟩
    · rw [out _ (by omega) (by omega) (by omega), hR _ (by omega)]; exact q0
    · rw [out _ (by omega) (by omega) (by omega), hR _ (by omega)]; exact q1
    · rw [out _ (by omega) (by omega) (by omega), hR _ (by omega)]; exact q2
    · rw [out _ (by omega) (by omega) (by omega), hR _ (by omega)]; exact q3
    · rw [out _ (by omega) (by omega) (by omega), hR _ (by omega)]; exact q4
    · rw [out _ (by omega) (by omega) (by omega), hR _ (by omega)]; exact q5
    · rw [e, pk_us]
    · rw [out _ (by omega) (by omega) (by omega), hR _ (by omega)]; exact q7
    · by_cases et : t = p
      · subst et
        constructor
        · rw [e, pk_un (by omega), pk_un (by omega), pk_us]
          unfold addR
          rw [pk_un (by omega), pk_un (by omega), pk_us]
        · rw [e, pk_un (by omega), pk_us]
          unfold addR
          rw [pk_un (by omega), pk_us]
      · have := qp t (by omega)
        rw [out _ (by omega) (by omega) (by omega), out _ (by omega) (by omega) (by omega), addR_old (by omega) (by omega) (by omega), addR_old (by omega) (by omega) (by omega)]
        exact this
  · rw [out _ (by omega) (by omega) (by omega), ho 87 (by omega) (by omega) (by omega)]; exact h.2.1
  · rw [out _ (by omega) (by omega) (by omega), ho 87 (by omega) (by omega) (by omega)]; exact h.2.2
set_option maxHeartbeats 1000000 in
set_option maxRecDepth 100000 in
theorem k_comes (l : Launch) (D : va_G) (am : Nat → Nat) (cI cR cS cL : ClassId) (dg : Int64) (mem : zM) {cm : zM} (hok : zOK cm) (hS : zS cm (mem 1)) {k : Nat} (hk : k < 4) {p0 w : Nat} (hpp : rPp (rv cm k) p0) (h3 : p0 < 3) (hw1 : 20 ≤ w) (hw2 : w ≤ 150) : zMi l yX6_comes wsX6_comes ({ frames := 5, cells := 0, slots := 0, locals := 119 }) D (cK cI cR cS cL) [.ref (am 0), .int (nI k), .int (nI w)] (mw am cI dg mem) (fun r u => r = sFN (sAdd cm k (nI w)) 0 k (3 * k) 7 ∧ zFr mem u ∧ zS (sFN (sAdd cm k (nI w)) 0 k) (u 1)) (mw am cI dg) 0 0 := by
  refine zMiM.of (cc := cX6_comes) (maxL := 4) (ret := (some .int)) (by decide +kernel) rfl (lv0 := [(0, .ref (am 0)), (1, .int (nI k)), (2, .int (nI w))]) (Nat.le_of_ble_eq_true rfl) rfl ?_
  intro p e s m args below meth c E hZ hr hlocks hnm
  have q6 : mem 1 (14 * k + 6) = nI p0 := by { obtain ⟨p1, hp1, hm1⟩ := hS.1 k hk; rw [rPp_unique hpp hp1]; exact hm1.2.2.2.2.2.2.1 }
  refine z_aload_n E dX6_comes_0 rfl 0 rfl ?_
  refine z_get E 0 mw_obj (C := RX6) (T := TX6) (N := 16) rfl (fun _ h => List.mem_cons_of_mem _ (List.mem_append_right _ h)) 1 (by decide) (List.mem_of_getElem? (i := 1) (by decide +kernel)) rfl (v := .ref (am 1)) rfl dX6_comes_1 ?_
  refine z_iload_n E dX6_comes_4 rfl 1 rfl ?_
  refine z_bipush (v := 6) E dX6_comes_5 (by decide) ?_
  refine z_callSi E hZ (k_of l D am cI cR cS cL dg mem (nI k) 6) gX6_comes_X6_of (n := 2) rfl rfl rfl (by decide +kernel) rfl ⟨Nat.le_of_ble_eq_true rfl, Nat.le_of_ble_eq_true rfl⟩ (As := [.int (nI k), .int 6]) (rest := [.ref (am 1)]) rfl (Nat.le_of_ble_eq_true rfl) ⟨Nat.le_of_ble_eq_true rfl, Nat.le_of_ble_eq_true rfl⟩ dX6_comes_7 (fun r u hp => ?_)
  rw [hp.1, hp.2]
  rw [zof k (y := 6) (w := 6) rfl]
  refine z_iald E 1 0 mw_s rfl (vp_in_nI (by omega) (by decide)) (v := nI p0) ((congrArg (mem 1) (nI_clamp (by omega))).trans q6) dX6_comes_10 ?_
  refine z_istore_n (lv' := [(3, .int (nI p0)), (0, .ref (am 0)), (1, .int (nI k)), (2, .int (nI w))]) E dX6_comes_11 rfl (by decide) rfl ?_
  refine z_aload_n E dX6_comes_12 rfl 1 rfl ?_
  refine z_get E 0 mw_obj (C := RX6) (T := TX6) (N := 16) rfl (fun _ h => List.mem_cons_of_mem _ (List.mem_append_right _ h)) 1 (by decide) (List.mem_of_getElem? (i := 1) (by decide +kernel)) rfl (v := .ref (am 1)) rfl dX6_comes_13 ?_
  refine z_iload_n E dX6_comes_16 rfl 2 rfl ?_
  refine z_iload_n E dX6_comes_17 rfl 0 rfl ?_
  refine z_iconst (v := 0) E dX6_comes_18 (by decide) ?_
  refine z_callSi E hZ (k_ofP l D am cI cR cS cL dg mem (nI k) (nI p0) 0) gX6_comes_X6_ofPerson (n := 3) rfl rfl rfl (by decide +kernel) rfl ⟨Nat.le_of_ble_eq_true rfl, Nat.le_of_ble_eq_true rfl⟩ (As := [.int (nI k), .int (nI p0), .int 0]) (rest := [.ref (am 1)]) rfl (Nat.le_of_ble_eq_true rfl) ⟨Nat.le_of_ble_eq_true rfl, Nat.le_of_ble_eq_true rfl⟩ dX6_comes_19 (fun r u hp => ?_)
  rw [hp.1, hp.2]
  rw [zofP k p0 (y := nI p0) (z := 0) (w := 0) (N := 14 * k + 8 + 2 * p0) rfl rfl (by omega)]
  refine z_iload_n E dX6_comes_22 rfl 3 rfl ?_
  refine z_iast E 1 0 mw_s rfl (vp_in_nI (by omega) (by decide)) (ws' := mw am cI dg (mset mem 1 (14 * k + 8 + 2 * p0) (nI w))) (by rw [nI_clamp (by omega)]; exact (ms_s (14 * k + 8 + 2 * p0) (nI w))) dX6_comes_23 ?_
  refine z_gm2 (fun m1 hm1 => ?_)
  have xm1_0 : m1 1 (14 * k + 6) = nI p0 := by rw [hm1, mset_ne2 _ _ (by omega)]; exact q6
  refine z_aload_n E dX6_comes_24 rfl 1 rfl ?_
  refine z_get E 0 mw_obj (C := RX6) (T := TX6) (N := 16) rfl (fun _ h => List.mem_cons_of_mem _ (List.mem_append_right _ h)) 1 (by decide) (List.mem_of_getElem? (i := 1) (by decide +kernel)) rfl (v := .ref (am 1)) rfl dX6_comes_25 ?_
  refine z_iload_n E dX6_comes_28 rfl 2 rfl ?_
  refine z_iload_n E dX6_comes_29 rfl 0 rfl ?_
  refine z_iconst (v := 1) E dX6_comes_30 (by decide) ?_
  refine z_callSi E hZ (k_ofP l D am cI cR cS cL dg m1 (nI k) (nI p0) 1) gX6_comes_X6_ofPerson (n := 3) rfl rfl rfl (by decide +kernel) rfl ⟨Nat.le_of_ble_eq_true rfl, Nat.le_of_ble_eq_true rfl⟩ (As := [.int (nI k), .int (nI p0), .int 1]) (rest := [.ref (am 1)]) rfl (Nat.le_of_ble_eq_true rfl) ⟨Nat.le_of_ble_eq_true rfl, Nat.le_of_ble_eq_true rfl⟩ dX6_comes_31 (fun r u hp => ?_)
  rw [hp.1, hp.2]
  rw [zofP k p0 (y := nI p0) (z := 1) (w := 1) (N := 14 * k + 9 + 2 * p0) rfl rfl (by omega)]
  refine z_iconst (v := 0) E dX6_comes_34 (by decide) ?_
  refine z_iast E 1 0 mw_s rfl (vp_in_nI (by omega) (by decide)) (ws' := mw am cI dg (mset m1 1 (14 * k + 9 + 2 * p0) 0)) (by rw [nI_clamp (by omega)]; exact (ms_s (14 * k + 9 + 2 * p0) 0)) dX6_comes_35 ?_
  refine z_gm2 (fun m2 hm2 => ?_)
  have xm2_0 : m2 1 (14 * k + 6) = nI p0 := by rw [hm2, mset_ne2 _ _ (by omega)]; exact xm1_0
  refine z_aload_n E dX6_comes_36 rfl 1 rfl ?_
  refine z_get E 0 mw_obj (C := RX6) (T := TX6) (N := 16) rfl (fun _ h => List.mem_cons_of_mem _ (List.mem_append_right _ h)) 1 (by decide) (List.mem_of_getElem? (i := 1) (by decide +kernel)) rfl (v := .ref (am 1)) rfl dX6_comes_37 ?_
  refine z_iload_n E dX6_comes_40 rfl 2 rfl ?_
  refine z_bipush (v := 6) E dX6_comes_41 (by decide) ?_
  refine z_callSi E hZ (k_of l D am cI cR cS cL dg m2 (nI k) 6) gX6_comes_X6_of (n := 2) rfl rfl rfl (by decide +kernel) rfl ⟨Nat.le_of_ble_eq_true rfl, Nat.le_of_ble_eq_true rfl⟩ (As := [.int (nI k), .int 6]) (rest := [.ref (am 1)]) rfl (Nat.le_of_ble_eq_true rfl) ⟨Nat.le_of_ble_eq_true rfl, Nat.le_of_ble_eq_true rfl⟩ dX6_comes_43 (fun r u hp => ?_)
  rw [hp.1, hp.2]
  rw [zof k (y := 6) (w := 6) rfl]
  refine z_dup2 E dX6_comes_46 rfl rfl ?_
  refine z_iald E 1 0 mw_s rfl (vp_in_nI (by omega) (by decide)) (v := nI p0) ((congrArg (m2 1) (nI_clamp (by omega))).trans xm2_0) dX6_comes_47 ?_
  refine z_iconst (v := 1) E dX6_comes_48 (by decide) ?_
  refine z_iadd E dX6_comes_49 ?_
  refine z_iast E 1 0 mw_s rfl (vp_in_nI (by omega) (by decide)) (ws' := mw am cI dg (mset m2 1 (14 * k + 6) ((nI p0) + 1))) (by rw [nI_clamp (by omega)]; exact (ms_s (14 * k + 6) ((nI p0) + 1))) dX6_comes_50 ?_
  refine z_gm2 (fun m3 hm3 => ?_)
  have xm3_0 : m3 1 (14 * k + 6) = (nI p0) + 1 := by rw [hm3, mset_at]
  have hS1 : zS (sAdd cm k (nI w)) (m3 1) := zS_add hk hS hpp h3 (rPp_add hpp h3 hw1 hw2) (by rw [hm3, hm2, hm1, mset_self, mset_self, mset_self, nI_1])
  have hok1 : zOK (sAdd cm k (nI w)) := zOK_add hok hk hpp h3 hw1 hw2
  have fr0 : zFr mem m3 := by rw [hm3, hm2, hm1]; exact ((zFr_s _ _ _).trans (zFr_s _ _ _)).trans (zFr_s _ _ _)
  refine z_aload_n E dX6_comes_51 rfl 1 rfl ?_
  refine z_iload_n E dX6_comes_52 rfl 2 rfl ?_
  refine z_callVi E hZ (k_mfalls l D am cI cR cS cL dg m3 hok1 hS1 hk) gX6_comes_X6_falls (n := 1) rfl rfl rfl (by decide +kernel) rfl ⟨(Nat.le_of_ble_eq_true rfl), (Nat.le_of_ble_eq_true rfl)⟩ (C := RX6) rfl 0 mw_obj (As := [.int (nI k)]) (rest := []) rfl (Nat.le_of_ble_eq_true rfl) ⟨(Nat.le_of_ble_eq_true rfl), (Nat.le_of_ble_eq_true rfl)⟩ dX6_comes_53 (fun r m4 hp => ?_)
  rw [hp.1]
  have frm4 := hp.2.1
  have hSm4 := hp.2.2
  refine z_if_eq (tgt := 63) E dX6_comes_56 (by decide) (fun c56 => ?_) (fun c56 => ?_)
  · skip
    obtain ⟨p2, hp2, hm2⟩ := hSm4.1 k hk
    refine z_aload_n E dX6_comes_63 rfl 1 rfl ?_
    refine z_get E 0 mw_obj (C := RX6) (T := TX6) (N := 16) rfl (fun _ h => List.mem_cons_of_mem _ (List.mem_append_right _ h)) 1 (by decide) (List.mem_of_getElem? (i := 1) (by decide +kernel)) rfl (v := .ref (am 1)) rfl dX6_comes_64 ?_
    refine z_iload_n E dX6_comes_67 rfl 2 rfl ?_
    refine z_bipush (v := 6) E dX6_comes_68 (by decide) ?_
    refine z_callSi E hZ (k_of l D am cI cR cS cL dg m4 (nI k) 6) gX6_comes_X6_of (n := 2) rfl rfl rfl (by decide +kernel) rfl ⟨Nat.le_of_ble_eq_true rfl, Nat.le_of_ble_eq_true rfl⟩ (As := [.int (nI k), .int 6]) (rest := [.ref (am 1)]) rfl (Nat.le_of_ble_eq_true rfl) ⟨Nat.le_of_ble_eq_true rfl, Nat.le_of_ble_eq_true rfl⟩ dX6_comes_70 (fun r u hp => ?_)
    rw [hp.1, hp.2]
    rw [zof k (y := 6) (w := 6) rfl]
    refine z_iald E 1 0 mw_s rfl (vp_in_nI (by omega) (by decide)) (v := nI p2) ((congrArg (m4 1) (nI_clamp (by omega))).trans hm2.2.2.2.2.2.2.1) dX6_comes_73 ?_
    exact z_iretM E hr hlocks (m4) rfl ⟨hp2.2.1.symm, fr0.trans frm4, hSm4⟩ (Nat.le_of_ble_eq_true rfl) (Nat.le_of_ble_eq_true rfl) dX6_comes_74
  · skip
    refine z_iconst (v := 0) E dX6_comes_59 (by decide) ?_
    refine z_goto (tgt := 74) E dX6_comes_60 (by decide) ?_
    exact z_iretM E hr hlocks (m4) rfl ⟨(sFN_many0 hk ((fFN_01 _).resolve_left c56)).symm, fr0.trans frm4, hSm4⟩ (Nat.le_of_ble_eq_true rfl) (Nat.le_of_ble_eq_true rfl) dX6_comes_74
