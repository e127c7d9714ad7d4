/-! the reference: what would be -/
theorem mR_fld {s : Nat → Int32} {k p n : Nat} {R : Nat → Int32} {v : Int32} (hn : n < 6) (h : mR s k R p) : mR (upd s (14 * k + n) v) k (upd R n v) p := by
  obtain ⟨q0, q1, q2, q3, q4, q5, q6, q7, qp⟩ := h
  have key : ∀ j, j < 6 → s (14 * k + j) = R j → upd s (14 * k + n) v (14 * k + j) = upd R n v j := fun j hj q => by
    by_cases ej : j = n
    · subst ej; rw [pk_us, pk_us]
    · rw [pk_un (by omega), pk_un ej]; exact q
  refine ⟨key 0 (by omega) q0, key 1 (by omega) q1, key 2 (by omega) q2, key 3 (by omega) q3, key 4 (by omega) q4, key 5 (by omega) q5, by rw [pk_un (by omega)]; exact q6, by rw [pk_un (by omega), pk_un (by omega)]; exact q7, fun t ht => ?_⟩
  rw [pk_un (by omega), pk_un (by omega), pk_un (by omega), pk_un (by omega)]; exact qp t ht
theorem zScr_w {mem m : zM} {n : Nat} {v : Int32} (h : zScr (mset mem 1 n v) m) : m 1 = upd (mem 1) n v := by rw [h.1 1 (by decide), mset_self]
theorem zScr_over {mem m : zM} {n : Nat} {v v' : Int32} (h : zScr (mset mem 1 n v) m) : zScr (mset mem 1 n v') (mset m 1 n v') := by
  have := h.set (i := 1) (by decide) n v'
  rw [mset_over] at this
  exact this
theorem zScr_back {mem m : zM} {n : Nat} {v w : Int32} (h : zScr (mset mem 1 n v) m) (hw : mem 1 n = w) : zScr mem (mset m 1 n w) := by
  have := zScr_over (v' := w) h
  rw [mset_same hw] at this
  exact this
theorem rPp_fld {R : Nat → Int32} {p n : Nat} {v : Int32} (hn : n < 6) (h : rPp R p) : rPp (upd R n v) p := rPp_congr (fun j h7 _ => pk_un (by omega)) h
theorem zin_lit {lo hi : Int32} {a b j : Nat} (hlo : lo.toInt = a) (hhi : hi.toInt = b) (hj : j < 2147483648) (h1 : a ≤ j) (h2 : j ≤ b) : ¬ (nI j < lo ∨ hi < nI j) := by
  rw [zltI (zL hj) hlo, zltI hhi (zL hj)]
  omega
set_option maxHeartbeats 1000000 in
set_option maxRecDepth 100000 in
theorem k_mropeFor (l : Launch) (D : va_G) (am : Nat → Nat) (cI cR cS cL : ClassId) (dg : Int64) (mem : zM) {k : Nat} (hk : k < 4) {R : Nat → Int32} {p0 : Nat} (hR : mR (mem 1) k R p0) (hpp : rPp R p0) (hfd : rFd R) : zMi l yX6_ropeFor wsX6_ropeFor ({ frames := 4, cells := 0, slots := 0, locals := 97 }) D (cK cI cR cS cL) [.ref (am 0), .int (nI k)] (mw am cI dg mem) (fun r u => r = fNR R ∧ zScr mem u) (mw am cI dg) 0 0 := by
  refine zMiM.of (cc := cX6_ropeFor) (maxL := 4) (ret := (some .int)) (by decide +kernel) rfl (lv0 := [(0, .ref (am 0)), (1, .int (nI k))]) (Nat.le_of_ble_eq_true rfl) rfl ?_
  intro p e s m args below meth c E hZ hr hlocks hnm
  obtain ⟨q0, q1, q2, q3, q4, q5, q6, q7, qp⟩ := id hR
  refine z_aload_n E dX6_ropeFor_0 rfl 0 rfl ?_
  refine z_get E 0 mw_obj (C := RX6) (T := TX6) (N := 16) rfl (fun _ h => List.mem_cons_of_mem _ (List.mem_append_right _ h)) 1 (by decide) (List.mem_of_getElem? (i := 1) (by decide +kernel)) rfl (v := .ref (am 1)) rfl dX6_ropeFor_1 ?_
  refine z_iload_n E dX6_ropeFor_4 rfl 1 rfl ?_
  refine z_iconst (v := 5) E dX6_ropeFor_5 (by decide) ?_
  refine z_callSi E hZ (k_of l D am cI cR cS cL dg mem (nI k) 5) gX6_ropeFor_X6_of (n := 2) rfl rfl rfl (by decide +kernel) rfl ⟨Nat.le_of_ble_eq_true rfl, Nat.le_of_ble_eq_true rfl⟩ (As := [.int (nI k), .int 5]) (rest := [.ref (am 1)]) rfl (Nat.le_of_ble_eq_true rfl) ⟨Nat.le_of_ble_eq_true rfl, Nat.le_of_ble_eq_true rfl⟩ dX6_ropeFor_6 (fun r u hp => ?_)
  rw [hp.1, hp.2]
  rw [zof k (y := 5) (w := 5) rfl]
  refine z_iald E 1 0 mw_s rfl (vp_in_nI (by omega) (by decide)) (v := R 5) ((congrArg (mem 1) (nI_clamp (by omega))).trans q5) dX6_ropeFor_9 ?_
  refine z_istore_n (lv' := [(2, .int (R 5)), (0, .ref (am 0)), (1, .int (nI k))]) E dX6_ropeFor_10 rfl (by decide) rfl ?_
  refine z_iconst (v := 0) E dX6_ropeFor_11 (by decide) ?_
  refine z_istore_n (lv' := [(3, .int 0), (2, .int (R 5)), (0, .ref (am 0)), (1, .int (nI k))]) E dX6_ropeFor_12 rfl (by decide) rfl ?_
  refine z_aload_n E dX6_ropeFor_13 rfl 2 rfl ?_
  refine z_get E 0 mw_obj (C := RX6) (T := TX6) (N := 16) rfl (fun _ h => List.mem_cons_of_mem _ (List.mem_append_right _ h)) 1 (by decide) (List.mem_of_getElem? (i := 1) (by decide +kernel)) rfl (v := .ref (am 1)) rfl dX6_ropeFor_14 ?_
  refine z_iload_n E dX6_ropeFor_17 rfl 3 rfl ?_
  refine z_iconst (v := 5) E dX6_ropeFor_18 (by decide) ?_
  refine z_callSi E hZ (k_of l D am cI cR cS cL dg mem (nI k) 5) gX6_ropeFor_X6_of (n := 2) rfl rfl rfl (by decide +kernel) rfl ⟨Nat.le_of_ble_eq_true rfl, Nat.le_of_ble_eq_true rfl⟩ (As := [.int (nI k), .int 5]) (rest := [.ref (am 1)]) rfl (Nat.le_of_ble_eq_true rfl) ⟨Nat.le_of_ble_eq_true rfl, Nat.le_of_ble_eq_true rfl⟩ dX6_ropeFor_19 (fun r u hp => ?_)
  rw [hp.1, hp.2]
  rw [zof k (y := 5) (w := 5) rfl]
  refine z_iload_n E dX6_ropeFor_22 rfl 0 rfl ?_
  refine z_iast E 1 0 mw_s rfl (vp_in_nI (by omega) (by decide)) (ws' := mw am cI dg (mset mem 1 (14 * k + 5) 0)) (by rw [nI_clamp (by omega)]; exact (ms_s (14 * k + 5) 0)) dX6_ropeFor_23 ?_
  refine z_gm2 (fun m1 hm1 => ?_)
  have xm1_0 : m1 1 (14 * k + 0) = R 0 := by rw [hm1, mset_ne2 _ _ (by omega)]; exact q0
  have xm1_1 : m1 1 (14 * k + 1) = R 1 := by rw [hm1, mset_ne2 _ _ (by omega)]; exact q1
  have xm1_2 : m1 1 (14 * k + 2) = R 2 := by rw [hm1, mset_ne2 _ _ (by omega)]; exact q2
  have xm1_3 : m1 1 (14 * k + 3) = R 3 := by rw [hm1, mset_ne2 _ _ (by omega)]; exact q3
  have xm1_4 : m1 1 (14 * k + 4) = R 4 := by rw [hm1, mset_ne2 _ _ (by omega)]; exact q4
  have xm1_5 : m1 1 (14 * k + 5) = 0 := by rw [hm1, mset_at]
  have xm1_6 : m1 1 (14 * k + 7) = R 6 := by rw [hm1, mset_ne2 _ _ (by omega)]; exact q7
  refine z_loop (σ := zM × Nat) (fun n y => y.2 + n = 201 ∧ zScr (mset mem 1 (14 * k + 5) (nI y.2)) y.1 ∧ fNR R = fNRGo R n y.2) (fun y => mw am cI dg y.1) (fun y => [(3, .int (nI y.2)), (2, .int (R 5)), (0, .ref (am 0)), (1, .int (nI k))]) 24 0 0 ?_ 201 (m1, 0) ⟨rfl, by show zScr (mset mem 1 (14 * k + 5) 0) m1; rw [hm1]; exact zScr.refl _, rfl⟩ rfl rfl rfl rfl rfl
  rintro n ⟨m, j⟩ ⟨hin, hz, hgo⟩ ih
  dsimp only at hin hz hgo ⊢
  refine z_iload_n E dX6_ropeFor_24 rfl 0 rfl ?_
  refine z_sipush (v := 200) E dX6_ropeFor_25 (by decide) ?_
  refine z_icmp_gt (tgt := 56) E dX6_ropeFor_28 (by decide) (fun c28 => ?_) (fun c28 => ?_)
  · skip
    refine z_aload_n E dX6_ropeFor_56 rfl 2 rfl ?_
    refine z_get E 0 mw_obj (C := RX6) (T := TX6) (N := 16) rfl (fun _ h => List.mem_cons_of_mem _ (List.mem_append_right _ h)) 1 (by decide) (List.mem_of_getElem? (i := 1) (by decide +kernel)) rfl (v := .ref (am 1)) rfl dX6_ropeFor_57 ?_
    refine z_iload_n E dX6_ropeFor_60 rfl 3 rfl ?_
    refine z_iconst (v := 5) E dX6_ropeFor_61 (by decide) ?_
    refine z_callSi E hZ (k_of l D am cI cR cS cL dg m (nI k) 5) gX6_ropeFor_X6_of (n := 2) rfl rfl rfl (by decide +kernel) rfl ⟨Nat.le_of_ble_eq_true rfl, Nat.le_of_ble_eq_true rfl⟩ (As := [.int (nI k), .int 5]) (rest := [.ref (am 1)]) rfl (Nat.le_of_ble_eq_true rfl) ⟨Nat.le_of_ble_eq_true rfl, Nat.le_of_ble_eq_true rfl⟩ dX6_ropeFor_62 (fun r u hp => ?_)
    rw [hp.1, hp.2]
    rw [zof k (y := 5) (w := 5) rfl]
    refine z_iload_n E dX6_ropeFor_65 rfl 1 rfl ?_
    refine z_iast E 1 0 mw_s rfl (vp_in_nI (by omega) (by decide)) (ws' := mw am cI dg (mset m 1 (14 * k + 5) (R 5))) (by rw [nI_clamp (by omega)]; exact (ms_s (14 * k + 5) (R 5))) dX6_ropeFor_66 ?_
    refine z_gm2 (fun m2 hm2 => ?_)
    refine z_iload_n E dX6_ropeFor_67 rfl 0 rfl ?_
    refine z_sipush (v := 200) E dX6_ropeFor_68 (by decide) ?_
    refine z_icmp_le_f (tgt := 78) E dX6_ropeFor_71 (by decide) (fun h => absurd h (Int32.not_le.mpr c28)) ?_
    refine z_iconst (v := -1) E dX6_ropeFor_74 (by decide) ?_
    refine z_goto (tgt := 79) E dX6_ropeFor_75 (by decide) ?_
    exact z_iretM E hr hlocks (m2) rfl ⟨(hgo.trans (by rw [show n = 0 by have := (nI_ltI (a := 200) (b := j) (by omega) (by omega)).mp c28; omega]; rfl)).symm, by rw [hm2]; exact zScr_back hz q5⟩ (Nat.le_of_ble_eq_true rfl) (Nat.le_of_ble_eq_true rfl) dX6_ropeFor_79
  · skip
    obtain ⟨n, rfl⟩ : ∃ n1, n = n1 + 1 := ⟨n - 1, by have := znlt (a := 200) (b := j) (by omega) (by omega) c28; omega⟩
    refine z_aload_n E dX6_ropeFor_31 rfl 2 rfl ?_
    refine z_iload_n E dX6_ropeFor_32 rfl 3 rfl ?_
    have hmR2 : mR (m 1) k (upd R 5 (nI j)) p0 := by rw [zScr_w hz]; exact mR_fld (by omega) hR
    refine z_callVi E hZ (k_mstands l D am cI cR cS cL dg m hk hmR2 (rQ_of (rPp_fld (by omega) hpp)) ((rFd_in hfd).2.2.2.2 (zin_lit (a := 0) (b := 200) (by decide) (by decide) (by omega) (by omega) (by omega)))) gX6_ropeFor_X6_stands (n := 1) rfl rfl rfl (by decide +kernel) rfl ⟨(Nat.le_of_ble_eq_true rfl), (Nat.le_of_ble_eq_true rfl)⟩ (C := RX6) rfl 0 mw_obj (As := [.int (nI k)]) (rest := []) rfl (Nat.le_of_ble_eq_true rfl) ⟨(Nat.le_of_ble_eq_true rfl), (Nat.le_of_ble_eq_true rfl)⟩ dX6_ropeFor_33 (fun r m3 hp => ?_)
    rw [hp.1]
    have sm3 := (hz).trans hp.2.1
    refine z_if_ne (tgt := 56) E dX6_ropeFor_36 (by decide) (fun c36 => ?_) (fun c36 => ?_)
    · skip
      refine z_aload_n E dX6_ropeFor_56 rfl 2 rfl ?_
      refine z_get E 0 mw_obj (C := RX6) (T := TX6) (N := 16) rfl (fun _ h => List.mem_cons_of_mem _ (List.mem_append_right _ h)) 1 (by decide) (List.mem_of_getElem? (i := 1) (by decide +kernel)) rfl (v := .ref (am 1)) rfl dX6_ropeFor_57 ?_
      refine z_iload_n E dX6_ropeFor_60 rfl 3 rfl ?_
      refine z_iconst (v := 5) E dX6_ropeFor_61 (by decide) ?_
      refine z_callSi E hZ (k_of l D am cI cR cS cL dg m3 (nI k) 5) gX6_ropeFor_X6_of (n := 2) rfl rfl rfl (by decide +kernel) rfl ⟨Nat.le_of_ble_eq_true rfl, Nat.le_of_ble_eq_true rfl⟩ (As := [.int (nI k), .int 5]) (rest := [.ref (am 1)]) rfl (Nat.le_of_ble_eq_true rfl) ⟨Nat.le_of_ble_eq_true rfl, Nat.le_of_ble_eq_true rfl⟩ dX6_ropeFor_62 (fun r u hp => ?_)
      rw [hp.1, hp.2]
      rw [zof k (y := 5) (w := 5) rfl]
      refine z_iload_n E dX6_ropeFor_65 rfl 1 rfl ?_
      refine z_iast E 1 0 mw_s rfl (vp_in_nI (by omega) (by decide)) (ws' := mw am cI dg (mset m3 1 (14 * k + 5) (R 5))) (by rw [nI_clamp (by omega)]; exact (ms_s (14 * k + 5) (R 5))) dX6_ropeFor_66 ?_
      refine z_gm2 (fun m4 hm4 => ?_)
      refine z_iload_n E dX6_ropeFor_67 rfl 0 rfl ?_
      refine z_sipush (v := 200) E dX6_ropeFor_68 (by decide) ?_
      refine z_icmp_le_t (tgt := 78) E dX6_ropeFor_71 (by decide) (Int32.not_lt.mp c28) ?_
      refine z_iload_n E dX6_ropeFor_78 rfl 0 rfl ?_
      exact z_iretM E hr hlocks (m4) rfl ⟨(hgo.trans ((fNRGo_s _ _ _).trans (if_neg c36))).symm, by rw [hm4]; exact zScr_back sm3 q5⟩ (Nat.le_of_ble_eq_true rfl) (Nat.le_of_ble_eq_true rfl) dX6_ropeFor_79
    · skip
      refine z_iinc (v := nI j + 1) (lv' := [(3, .int (nI j + 1)), (2, .int (R 5)), (0, .ref (am 0)), (1, .int (nI k))]) E dX6_ropeFor_39 (q := 0) rfl rfl (by decide) rfl ?_
      refine z_eq (ws' := mw am cI dg m3) (lv' := [(3, .int (nI (j + 1))), (2, .int (R 5)), (0, .ref (am 0)), (1, .int (nI k))]) (st' := []) rfl (by rw [← nI_1 j]) rfl ?_
      refine z_aload_n E dX6_ropeFor_42 rfl 2 rfl ?_
      refine z_get E 0 mw_obj (C := RX6) (T := TX6) (N := 16) rfl (fun _ h => List.mem_cons_of_mem _ (List.mem_append_right _ h)) 1 (by decide) (List.mem_of_getElem? (i := 1) (by decide +kernel)) rfl (v := .ref (am 1)) rfl dX6_ropeFor_43 ?_
      refine z_iload_n E dX6_ropeFor_46 rfl 3 rfl ?_
      refine z_iconst (v := 5) E dX6_ropeFor_47 (by decide) ?_
      refine z_callSi E hZ (k_of l D am cI cR cS cL dg m3 (nI k) 5) gX6_ropeFor_X6_of (n := 2) rfl rfl rfl (by decide +kernel) rfl ⟨Nat.le_of_ble_eq_true rfl, Nat.le_of_ble_eq_true rfl⟩ (As := [.int (nI k), .int 5]) (rest := [.ref (am 1)]) rfl (Nat.le_of_ble_eq_true rfl) ⟨Nat.le_of_ble_eq_true rfl, Nat.le_of_ble_eq_true rfl⟩ dX6_ropeFor_48 (fun r u hp => ?_)
      rw [hp.1, hp.2]
      rw [zof k (y := 5) (w := 5) rfl]
      refine z_iload_n E dX6_ropeFor_51 rfl 0 rfl ?_
      refine z_iast E 1 0 mw_s rfl (vp_in_nI (by omega) (by decide)) (ws' := mw am cI dg (mset m3 1 (14 * k + 5) (nI (j + 1)))) (by rw [nI_clamp (by omega)]; exact (ms_s (14 * k + 5) (nI (j + 1)))) dX6_ropeFor_52 ?_
      refine z_gm2 (fun m5 hm5 => ?_)
      refine z_goto (tgt := 24) E dX6_ropeFor_53 (by decide) ?_
      exact ih n (m5, j + 1) (by omega) ⟨by show j + 1 + n = 201; omega, by show zScr (mset mem 1 (14 * k + 5) (nI (j + 1))) m5; rw [hm5]; exact zScr_over sm3, hgo.trans ((fNRGo_s _ _ _).trans (if_pos c36))⟩
set_option maxHeartbeats 1000000 in
set_option maxRecDepth 100000 in
theorem k_mwallsFor (l : Launch) (D : va_G) (am : Nat → Nat) (cI cR cS cL : ClassId) (dg : Int64) (mem : zM) {k : Nat} (hk : k < 4) {R : Nat → Int32} {p0 : Nat} (hR : mR (mem 1) k R p0) (hpp : rPp R p0) (hfd : rFd R) : zMi l yX6_wallsFor wsX6_wallsFor ({ frames := 4, cells := 0, slots := 0, locals := 97 }) D (cK cI cR cS cL) [.ref (am 0), .int (nI k)] (mw am cI dg mem) (fun r u => r = fWL R ∧ zScr mem u) (mw am cI dg) 0 0 := by
  refine zMiM.of (cc := cX6_wallsFor) (maxL := 5) (ret := (some .int)) (by decide +kernel) rfl (lv0 := [(0, .ref (am 0)), (1, .int (nI k))]) (Nat.le_of_ble_eq_true rfl) rfl ?_
  intro p e s m args below meth c E hZ hr hlocks hnm
  obtain ⟨q0, q1, q2, q3, q4, q5, q6, q7, qp⟩ := id hR
  refine z_aload_n E dX6_wallsFor_0 rfl 0 rfl ?_
  refine z_get E 0 mw_obj (C := RX6) (T := TX6) (N := 16) rfl (fun _ h => List.mem_cons_of_mem _ (List.mem_append_right _ h)) 1 (by decide) (List.mem_of_getElem? (i := 1) (by decide +kernel)) rfl (v := .ref (am 1)) rfl dX6_wallsFor_1 ?_
  refine z_iload_n E dX6_wallsFor_4 rfl 1 rfl ?_
  refine z_iconst (v := 4) E dX6_wallsFor_5 (by decide) ?_
  refine z_callSi E hZ (k_of l D am cI cR cS cL dg mem (nI k) 4) gX6_wallsFor_X6_of (n := 2) rfl rfl rfl (by decide +kernel) rfl ⟨Nat.le_of_ble_eq_true rfl, Nat.le_of_ble_eq_true rfl⟩ (As := [.int (nI k), .int 4]) (rest := [.ref (am 1)]) rfl (Nat.le_of_ble_eq_true rfl) ⟨Nat.le_of_ble_eq_true rfl, Nat.le_of_ble_eq_true rfl⟩ dX6_wallsFor_6 (fun r u hp => ?_)
  rw [hp.1, hp.2]
  rw [zof k (y := 4) (w := 4) rfl]
  refine z_iald E 1 0 mw_s rfl (vp_in_nI (by omega) (by decide)) (v := R 4) ((congrArg (mem 1) (nI_clamp (by omega))).trans q4) dX6_wallsFor_9 ?_
  refine z_istore_n (lv' := [(2, .int (R 4)), (0, .ref (am 0)), (1, .int (nI k))]) E dX6_wallsFor_10 rfl (by decide) rfl ?_
  refine z_iconst (v := 0) E dX6_wallsFor_11 (by decide) ?_
  refine z_istore_n (lv' := [(3, .int 0), (2, .int (R 4)), (0, .ref (am 0)), (1, .int (nI k))]) E dX6_wallsFor_12 rfl (by decide) rfl ?_
  refine z_iconst (v := 0) E dX6_wallsFor_13 (by decide) ?_
  refine z_istore (lv' := [(4, .int 0), (3, .int 0), (2, .int (R 4)), (0, .ref (am 0)), (1, .int (nI k))]) E dX6_wallsFor_14 (by decide) rfl ?_
  refine z_loop (σ := zM × Nat × Int32) (fun n y => y.2.1 + n = 4 ∧ (zScr mem y.1 ∨ ∃ v, zScr (mset mem 1 (14 * k + 4) v) y.1) ∧ fWL R = fWLGo R n y.2.1 y.2.2) (fun y => mw am cI dg y.1) (fun y => [(4, .int (nI y.2.1)), (3, .int y.2.2), (2, .int (R 4)), (0, .ref (am 0)), (1, .int (nI k))]) 16 0 0 ?_ 4 (mem, 0, 0) ⟨rfl, Or.inl (zScr.refl _), rfl⟩ rfl rfl rfl rfl rfl
  rintro n ⟨m, j, mask⟩ ⟨hin, hz0, hgo⟩ ih
  dsimp only at hin hz0 hgo ⊢
  have hz : ∀ v, zScr (mset mem 1 (14 * k + 4) v) (mset m 1 (14 * k + 4) v) := fun v => by rcases hz0 with h | ⟨v0, h⟩; exact h.set (by decide) _ _; exact zScr_over h
  have hb : zScr mem (mset m 1 (14 * k + 4) (R 4)) := by have := hz (R 4); rw [mset_same q4] at this; exact this
  refine z_iload E dX6_wallsFor_16 0 rfl ?_
  refine z_iconst (v := 4) E dX6_wallsFor_18 (by decide) ?_
  refine z_icmp_ge (tgt := 59) E dX6_wallsFor_19 (by decide) (fun c19 => ?_) (fun c19 => ?_)
  · skip
    refine z_aload_n E dX6_wallsFor_59 rfl 3 rfl ?_
    refine z_get E 0 mw_obj (C := RX6) (T := TX6) (N := 16) rfl (fun _ h => List.mem_cons_of_mem _ (List.mem_append_right _ h)) 1 (by decide) (List.mem_of_getElem? (i := 1) (by decide +kernel)) rfl (v := .ref (am 1)) rfl dX6_wallsFor_60 ?_
    refine z_iload_n E dX6_wallsFor_63 rfl 4 rfl ?_
    refine z_iconst (v := 4) E dX6_wallsFor_64 (by decide) ?_
    refine z_callSi E hZ (k_of l D am cI cR cS cL dg m (nI k) 4) gX6_wallsFor_X6_of (n := 2) rfl rfl rfl (by decide +kernel) rfl ⟨Nat.le_of_ble_eq_true rfl, Nat.le_of_ble_eq_true rfl⟩ (As := [.int (nI k), .int 4]) (rest := [.ref (am 1)]) rfl (Nat.le_of_ble_eq_true rfl) ⟨Nat.le_of_ble_eq_true rfl, Nat.le_of_ble_eq_true rfl⟩ dX6_wallsFor_65 (fun r u hp => ?_)
    rw [hp.1, hp.2]
    rw [zof k (y := 4) (w := 4) rfl]
    refine z_iload_n E dX6_wallsFor_68 rfl 2 rfl ?_
    refine z_iast E 1 0 mw_s rfl (vp_in_nI (by omega) (by decide)) (ws' := mw am cI dg (mset m 1 (14 * k + 4) (R 4))) (by rw [nI_clamp (by omega)]; exact (ms_s (14 * k + 4) (R 4))) dX6_wallsFor_69 ?_
    refine z_gm2 (fun m1 hm1 => ?_)
    refine z_iload_n E dX6_wallsFor_70 rfl 1 rfl ?_
    exact z_iretM E hr hlocks (m1) rfl ⟨(hgo.trans (by rw [show n = 0 by have := (nI_leI (a := 4) (b := j) (by omega) (by omega)).mp c19; omega]; rfl)).symm, by rw [hm1]; exact hb⟩ (Nat.le_of_ble_eq_true rfl) (Nat.le_of_ble_eq_true rfl) dX6_wallsFor_71
  · skip
    obtain ⟨n, rfl⟩ : ∃ n1, n = n1 + 1 := ⟨n - 1, by have := zklt (k := j) (L := 4) (by omega) (by omega) c19; omega⟩
    refine z_aload_n E dX6_wallsFor_22 rfl 3 rfl ?_
    refine z_get E 0 mw_obj (C := RX6) (T := TX6) (N := 16) rfl (fun _ h => List.mem_cons_of_mem _ (List.mem_append_right _ h)) 1 (by decide) (List.mem_of_getElem? (i := 1) (by decide +kernel)) rfl (v := .ref (am 1)) rfl dX6_wallsFor_23 ?_
    refine z_iload_n E dX6_wallsFor_26 rfl 4 rfl ?_
    refine z_iconst (v := 4) E dX6_wallsFor_27 (by decide) ?_
    refine z_callSi E hZ (k_of l D am cI cR cS cL dg m (nI k) 4) gX6_wallsFor_X6_of (n := 2) rfl rfl rfl (by decide +kernel) rfl ⟨Nat.le_of_ble_eq_true rfl, Nat.le_of_ble_eq_true rfl⟩ (As := [.int (nI k), .int 4]) (rest := [.ref (am 1)]) rfl (Nat.le_of_ble_eq_true rfl) ⟨Nat.le_of_ble_eq_true rfl, Nat.le_of_ble_eq_true rfl⟩ dX6_wallsFor_28 (fun r u hp => ?_)
    rw [hp.1, hp.2]
    rw [zof k (y := 4) (w := 4) rfl]
    refine z_iload E dX6_wallsFor_31 0 rfl ?_
    refine z_iast E 1 0 mw_s rfl (vp_in_nI (by omega) (by decide)) (ws' := mw am cI dg (mset m 1 (14 * k + 4) (nI j))) (by rw [nI_clamp (by omega)]; exact (ms_s (14 * k + 4) (nI j))) dX6_wallsFor_33 ?_
    refine z_gm2 (fun m2 hm2 => ?_)
    refine z_iload_n E dX6_wallsFor_34 rfl 1 rfl ?_
    refine z_aload_n E dX6_wallsFor_35 rfl 3 rfl ?_
    refine z_iload_n E dX6_wallsFor_36 rfl 4 rfl ?_
    have hmR2 : mR (m2 1) k (upd R 4 (nI j)) p0 := by rw [zScr_w (show zScr (mset mem 1 (14 * k + 4) (nI j)) m2 by rw [hm2]; exact hz _)]; exact mR_fld (by omega) hR
    refine z_callVi E hZ (k_mstands l D am cI cR cS cL dg m2 hk hmR2 (rQ_of (rPp_fld (by omega) hpp)) (((rFd_in hfd).2.2.2.1 (zin_lit (a := 0) (b := 3) (by decide) (by decide) (by omega) (by omega) (by omega))).2)) gX6_wallsFor_X6_stands (n := 1) rfl rfl rfl (by decide +kernel) rfl ⟨(Nat.le_of_ble_eq_true rfl), (Nat.le_of_ble_eq_true rfl)⟩ (C := RX6) rfl 0 mw_obj (As := [.int (nI k)]) (rest := [.int mask]) rfl (Nat.le_of_ble_eq_true rfl) ⟨(Nat.le_of_ble_eq_true rfl), (Nat.le_of_ble_eq_true rfl)⟩ dX6_wallsFor_37 (fun r m3 hp => ?_)
    rw [hp.1]
    have sm3 := ((show zScr (mset mem 1 (14 * k + 4) (nI j)) m2 by rw [hm2]; exact hz _)).trans hp.2.1
    refine z_if_eq (tgt := 50) E dX6_wallsFor_40 (by decide) (fun c40 => ?_) (fun c40 => ?_)
    · skip
      refine z_iconst (v := 0) E dX6_wallsFor_50 (by decide) ?_
      refine z_ior E dX6_wallsFor_51 ?_
      refine z_istore_n (lv' := [(3, .int (mask ||| 0)), (4, .int (nI j)), (2, .int (R 4)), (0, .ref (am 0)), (1, .int (nI k))]) E dX6_wallsFor_52 rfl (by decide) rfl ?_
      refine z_iinc (v := nI j + 1) (lv' := [(4, .int (nI j + 1)), (3, .int (mask ||| 0)), (2, .int (R 4)), (0, .ref (am 0)), (1, .int (nI k))]) E dX6_wallsFor_53 (q := 1) rfl rfl (by decide) rfl ?_
      refine z_goto (tgt := 16) E dX6_wallsFor_56 (by decide) ?_
      refine z_eq (ws' := mw am cI dg m3) (lv' := [(4, .int (nI (j + 1))), (3, .int mask), (2, .int (R 4)), (0, .ref (am 0)), (1, .int (nI k))]) (st' := []) rfl (by rw [← nI_1 j, Int32.or_zero]) rfl ?_
      exact ih n (m3, j + 1, mask) (by omega) ⟨by show j + 1 + n = 4; omega, Or.inr ⟨nI j, sm3⟩, hgo.trans ((fWLGo_s _ _ _ _).trans (if_pos c40))⟩
    · skip
      refine z_iconst (v := 1) E dX6_wallsFor_43 (by decide) ?_
      refine z_iload E dX6_wallsFor_44 0 rfl ?_
      refine z_ishl E dX6_wallsFor_46 ?_
      refine z_goto (tgt := 51) E dX6_wallsFor_47 (by decide) ?_
      refine z_ior E dX6_wallsFor_51 ?_
      refine z_istore_n (lv' := [(3, .int (mask ||| (1 <<< ((nI j) &&& 31)))), (4, .int (nI j)), (2, .int (R 4)), (0, .ref (am 0)), (1, .int (nI k))]) E dX6_wallsFor_52 rfl (by decide) rfl ?_
      refine z_iinc (v := nI j + 1) (lv' := [(4, .int (nI j + 1)), (3, .int (mask ||| (1 <<< ((nI j) &&& 31)))), (2, .int (R 4)), (0, .ref (am 0)), (1, .int (nI k))]) E dX6_wallsFor_53 (q := 1) rfl rfl (by decide) rfl ?_
      refine z_goto (tgt := 16) E dX6_wallsFor_56 (by decide) ?_
      refine z_eq (ws' := mw am cI dg m3) (lv' := [(4, .int (nI (j + 1))), (3, .int (mask ||| (1 <<< (nI j &&& 31)))), (2, .int (R 4)), (0, .ref (am 0)), (1, .int (nI k))]) (st' := []) rfl (by rw [← nI_1 j]) rfl ?_
      exact ih n (m3, j + 1, mask ||| (1 <<< (nI j &&& 31))) (by omega) ⟨by show j + 1 + n = 4; omega, Or.inr ⟨nI j, sm3⟩, hgo.trans ((fWLGo_s _ _ _ _).trans (if_neg c40))⟩
set_option maxHeartbeats 1000000 in
set_option maxRecDepth 100000 in
theorem k_mbaseFor (l : Launch) (D : va_G) (am : Nat → Nat) (cI cR cS cL : ClassId) (dg : Int64) (mem : zM) {k : Nat} (hk : k < 4) {R : Nat → Int32} {p0 : Nat} (hR : mR (mem 1) k R p0) (hpp : rPp R p0) (hfd : rFd R) : zMi l yX6_baseFor wsX6_baseFor ({ frames := 3, cells := 0, slots := 0, locals := 76 }) D (cK cI cR cS cL) [.ref (am 0), .int (nI k)] (mw am cI dg mem) (fun r u => r = fBB R ∧ zScr mem u) (mw am cI dg) 0 0 := by
  refine zMiM.of (cc := cX6_baseFor) (maxL := 7) (ret := (some .int)) (by decide +kernel) rfl (lv0 := [(0, .ref (am 0)), (1, .int (nI k))]) (Nat.le_of_ble_eq_true rfl) rfl ?_
  intro p e s m args below meth c E hZ hr hlocks hnm
  obtain ⟨q0, q1, q2, q3, q4, q5, q6, q7, qp⟩ := id hR
  refine z_aload_n E dX6_baseFor_0 rfl 0 rfl ?_
  refine z_get E 0 mw_obj (C := RX6) (T := TX6) (N := 16) rfl (fun _ h => List.mem_cons_of_mem _ (List.mem_append_right _ h)) 1 (by decide) (List.mem_of_getElem? (i := 1) (by decide +kernel)) rfl (v := .ref (am 1)) rfl dX6_baseFor_1 ?_
  refine z_iload_n E dX6_baseFor_4 rfl 1 rfl ?_
  refine z_iconst (v := 0) E dX6_baseFor_5 (by decide) ?_
  refine z_callSi E hZ (k_of l D am cI cR cS cL dg mem (nI k) 0) gX6_baseFor_X6_of (n := 2) rfl rfl rfl (by decide +kernel) rfl ⟨Nat.le_of_ble_eq_true rfl, Nat.le_of_ble_eq_true rfl⟩ (As := [.int (nI k), .int 0]) (rest := [.ref (am 1)]) rfl (Nat.le_of_ble_eq_true rfl) ⟨Nat.le_of_ble_eq_true rfl, Nat.le_of_ble_eq_true rfl⟩ dX6_baseFor_6 (fun r u hp => ?_)
  rw [hp.1, hp.2]
  rw [zof k (y := 0) (w := 0) rfl]
  refine z_iald E 1 0 mw_s rfl (vp_in_nI (by omega) (by decide)) (v := R 0) ((congrArg (mem 1) (nI_clamp (by omega))).trans q0) dX6_baseFor_9 ?_
  refine z_istore_n (lv' := [(2, .int (R 0)), (0, .ref (am 0)), (1, .int (nI k))]) E dX6_baseFor_10 rfl (by decide) rfl ?_
  refine z_iconst (v := -1) E dX6_baseFor_11 (by decide) ?_
  refine z_istore_n (lv' := [(3, .int (-1)), (2, .int (R 0)), (0, .ref (am 0)), (1, .int (nI k))]) E dX6_baseFor_12 rfl (by decide) rfl ?_
  refine z_iconst (v := 0) E dX6_baseFor_13 (by decide) ?_
  refine z_istore (lv' := [(4, .int 0), (3, .int (-1)), (2, .int (R 0)), (0, .ref (am 0)), (1, .int (nI k))]) E dX6_baseFor_14 (by decide) rfl ?_
  refine z_bipush (v := 10) E dX6_baseFor_16 (by decide) ?_
  refine z_istore (lv' := [(5, .int 10), (4, .int 0), (3, .int (-1)), (2, .int (R 0)), (0, .ref (am 0)), (1, .int (nI k))]) E dX6_baseFor_18 (by decide) rfl ?_
  refine z_loop (σ := zM × Nat × Int32 × Int32) (fun n y => y.2.1 + n = 19 ∧ (zScr mem y.1 ∨ ∃ v, zScr (mset mem 1 (14 * k + 0) v) y.1) ∧ fBB R = fBBGo R n y.2.1 y.2.2.1 y.2.2.2) (fun y => mw am cI dg y.1) (fun y => [(5, .int (nI (10 + 5 * y.2.1))), (4, .int y.2.2.2), (3, .int y.2.2.1), (2, .int (R 0)), (0, .ref (am 0)), (1, .int (nI k))]) 20 0 0 ?_ 19 (mem, 0, -1, 0) ⟨rfl, Or.inl (zScr.refl _), rfl⟩ rfl rfl rfl rfl rfl
  rintro n ⟨m, j, best, most⟩ ⟨hin, hz0, hgo⟩ ih
  dsimp only at hin hz0 hgo ⊢
  have hz : ∀ v, zScr (mset mem 1 (14 * k + 0) v) (mset m 1 (14 * k + 0) v) := fun v => by rcases hz0 with h | ⟨v0, h⟩; exact h.set (by decide) _ _; exact zScr_over h
  have hb : zScr mem (mset m 1 (14 * k + 0) (R 0)) := by have := hz (R 0); rw [mset_same q0] at this; exact this
  refine z_iload E dX6_baseFor_20 0 rfl ?_
  refine z_bipush (v := 100) E dX6_baseFor_22 (by decide) ?_
  refine z_icmp_gt (tgt := 82) E dX6_baseFor_24 (by decide) (fun c24 => ?_) (fun c24 => ?_)
  · skip
    refine z_aload_n E dX6_baseFor_82 rfl 4 rfl ?_
    refine z_get E 0 mw_obj (C := RX6) (T := TX6) (N := 16) rfl (fun _ h => List.mem_cons_of_mem _ (List.mem_append_right _ h)) 1 (by decide) (List.mem_of_getElem? (i := 1) (by decide +kernel)) rfl (v := .ref (am 1)) rfl dX6_baseFor_83 ?_
    refine z_iload_n E dX6_baseFor_86 rfl 5 rfl ?_
    refine z_iconst (v := 0) E dX6_baseFor_87 (by decide) ?_
    refine z_callSi E hZ (k_of l D am cI cR cS cL dg m (nI k) 0) gX6_baseFor_X6_of (n := 2) rfl rfl rfl (by decide +kernel) rfl ⟨Nat.le_of_ble_eq_true rfl, Nat.le_of_ble_eq_true rfl⟩ (As := [.int (nI k), .int 0]) (rest := [.ref (am 1)]) rfl (Nat.le_of_ble_eq_true rfl) ⟨Nat.le_of_ble_eq_true rfl, Nat.le_of_ble_eq_true rfl⟩ dX6_baseFor_88 (fun r u hp => ?_)
    rw [hp.1, hp.2]
    rw [zof k (y := 0) (w := 0) rfl]
    refine z_iload_n E dX6_baseFor_91 rfl 3 rfl ?_
    refine z_iast E 1 0 mw_s rfl (vp_in_nI (by omega) (by decide)) (ws' := mw am cI dg (mset m 1 (14 * k + 0) (R 0))) (by rw [nI_clamp (by omega)]; exact (ms_s (14 * k + 0) (R 0))) dX6_baseFor_92 ?_
    refine z_gm2 (fun m1 hm1 => ?_)
    refine z_iload_n E dX6_baseFor_93 rfl 2 rfl ?_
    exact z_iretM E hr hlocks (m1) rfl ⟨(hgo.trans (by rw [show n = 0 by have := (nI_ltI (a := 100) (b := 10 + 5 * j) (by omega) (by omega)).mp c24; omega]; rfl)).symm, by rw [hm1]; exact hb⟩ (Nat.le_of_ble_eq_true rfl) (Nat.le_of_ble_eq_true rfl) dX6_baseFor_94
  · skip
    obtain ⟨n, rfl⟩ : ∃ n1, n = n1 + 1 := ⟨n - 1, by have := znlt (a := 100) (b := 10 + 5 * j) (by omega) (by omega) c24; omega⟩
    refine z_aload_n E dX6_baseFor_27 rfl 4 rfl ?_
    refine z_get E 0 mw_obj (C := RX6) (T := TX6) (N := 16) rfl (fun _ h => List.mem_cons_of_mem _ (List.mem_append_right _ h)) 1 (by decide) (List.mem_of_getElem? (i := 1) (by decide +kernel)) rfl (v := .ref (am 1)) rfl dX6_baseFor_28 ?_
    refine z_iload_n E dX6_baseFor_31 rfl 5 rfl ?_
    refine z_iconst (v := 0) E dX6_baseFor_32 (by decide) ?_
    refine z_callSi E hZ (k_of l D am cI cR cS cL dg m (nI k) 0) gX6_baseFor_X6_of (n := 2) rfl rfl rfl (by decide +kernel) rfl ⟨Nat.le_of_ble_eq_true rfl, Nat.le_of_ble_eq_true rfl⟩ (As := [.int (nI k), .int 0]) (rest := [.ref (am 1)]) rfl (Nat.le_of_ble_eq_true rfl) ⟨Nat.le_of_ble_eq_true rfl, Nat.le_of_ble_eq_true rfl⟩ dX6_baseFor_33 (fun r u hp => ?_)
    rw [hp.1, hp.2]
    rw [zof k (y := 0) (w := 0) rfl]
    refine z_iload E dX6_baseFor_36 0 rfl ?_
    refine z_iast E 1 0 mw_s rfl (vp_in_nI (by omega) (by decide)) (ws' := mw am cI dg (mset m 1 (14 * k + 0) (nI (10 + 5 * j)))) (by rw [nI_clamp (by omega)]; exact (ms_s (14 * k + 0) (nI (10 + 5 * j)))) dX6_baseFor_38 ?_
    refine z_gm2 (fun m2 hm2 => ?_)
    refine z_aload_n E dX6_baseFor_39 rfl 4 rfl ?_
    refine z_iload_n E dX6_baseFor_40 rfl 5 rfl ?_
    have hmR2 : mR (m2 1) k (upd R 0 (nI (10 + 5 * j))) p0 := by rw [zScr_w (show zScr (mset mem 1 (14 * k + 0) (nI (10 + 5 * j))) m2 by rw [hm2]; exact hz _)]; exact mR_fld (by omega) hR
    refine z_callVi E hZ (k_mforces l D am cI cR cS cL dg m2 hk hmR2 (rQ_of (rPp_fld (by omega) hpp)) ((rFd_in hfd).1 (zin_lit (a := 10) (b := 100) (by decide) (by decide) (by omega) (by omega) (by omega)))) gX6_baseFor_X6_forces (n := 1) rfl rfl rfl (by decide +kernel) rfl ⟨(Nat.le_of_ble_eq_true rfl), (Nat.le_of_ble_eq_true rfl)⟩ (C := RX6) rfl 0 mw_obj (As := [.int (nI k)]) (rest := []) rfl (Nat.le_of_ble_eq_true rfl) ⟨(Nat.le_of_ble_eq_true rfl), (Nat.le_of_ble_eq_true rfl)⟩ dX6_baseFor_41 (fun r m3 hp => ?_)
    rw [hp.1]
    have sm3 := ((show zScr (mset mem 1 (14 * k + 0) (nI (10 + 5 * j))) m2 by rw [hm2]; exact hz _)).trans hp.2.1
    generalize hfo : fForces (upd R 0 (nI (10 + 5 * j))) = fo
    refine z_istore (lv' := [(6, .int fo), (5, .int (nI (10 + 5 * j))), (4, .int most), (3, .int best), (2, .int (R 0)), (0, .ref (am 0)), (1, .int (nI k))]) E dX6_baseFor_44 (by decide) rfl ?_
    refine z_iload E dX6_baseFor_46 0 rfl ?_
    refine z_iload E dX6_baseFor_48 2 rfl ?_
    refine z_icmp_le (tgt := 58) E dX6_baseFor_50 (by decide) (fun c50 => ?_) (fun c50 => ?_)
    · skip
      refine z_iload_n E dX6_baseFor_58 rfl 3 rfl ?_
      refine z_istore_n (lv' := [(3, .int best), (6, .int fo), (5, .int (nI (10 + 5 * j))), (4, .int most), (2, .int (R 0)), (0, .ref (am 0)), (1, .int (nI k))]) E dX6_baseFor_59 rfl (by decide) rfl ?_
      refine z_iload E dX6_baseFor_60 1 rfl ?_
      refine z_iload E dX6_baseFor_62 3 rfl ?_
      refine z_icmp_le_t (tgt := 72) E dX6_baseFor_64 (by decide) c50 ?_
      refine z_iload E dX6_baseFor_72 3 rfl ?_
      refine z_istore (lv' := [(4, .int most), (3, .int best), (6, .int fo), (5, .int (nI (10 + 5 * j))), (2, .int (R 0)), (0, .ref (am 0)), (1, .int (nI k))]) E dX6_baseFor_74 (by decide) rfl ?_
      refine z_iinc (v := nI (10 + 5 * j) + 5) (lv' := [(5, .int (nI (10 + 5 * j) + 5)), (4, .int most), (3, .int best), (6, .int fo), (2, .int (R 0)), (0, .ref (am 0)), (1, .int (nI k))]) E dX6_baseFor_76 (q := 3) rfl rfl (by decide) rfl ?_
      refine z_goto (tgt := 20) E dX6_baseFor_79 (by decide) ?_
      refine z_lv [0, 1, 2, 4, 5, 6] (lv' := [(5, .int (nI (10 + 5 * j) + 5)), (4, .int most), (3, .int best), (2, .int (R 0)), (0, .ref (am 0)), (1, .int (nI k))]) rfl ?_
      refine z_eq (ws' := mw am cI dg m3) (lv' := [(5, .int (nI (10 + 5 * (j + 1)))), (4, .int most), (3, .int best), (2, .int (R 0)), (0, .ref (am 0)), (1, .int (nI k))]) (st' := []) rfl (by rw [show 10 + 5 * (j + 1) = 10 + 5 * j + 5 by omega, ← nI_add5 (10 + 5 * j)]) rfl ?_
      exact ih n (m3, j + 1, best, most) (by omega) ⟨by show j + 1 + n = 19; omega, Or.inr ⟨nI (10 + 5 * j), sm3⟩, hgo.trans ((fBBGo_s _ _ _ _ _).trans (by rw [hfo]; exact if_pos c50))⟩
    · skip
      refine z_iload E dX6_baseFor_53 1 rfl ?_
      refine z_goto (tgt := 59) E dX6_baseFor_55 (by decide) ?_
      refine z_istore_n (lv' := [(3, .int (nI (10 + 5 * j))), (6, .int fo), (5, .int (nI (10 + 5 * j))), (4, .int most), (2, .int (R 0)), (0, .ref (am 0)), (1, .int (nI k))]) E dX6_baseFor_59 rfl (by decide) rfl ?_
      refine z_iload E dX6_baseFor_60 1 rfl ?_
      refine z_iload E dX6_baseFor_62 3 rfl ?_
      refine z_icmp_le_f (tgt := 72) E dX6_baseFor_64 (by decide) c50 ?_
      refine z_iload E dX6_baseFor_67 1 rfl ?_
      refine z_goto (tgt := 74) E dX6_baseFor_69 (by decide) ?_
      refine z_istore (lv' := [(4, .int fo), (3, .int (nI (10 + 5 * j))), (6, .int fo), (5, .int (nI (10 + 5 * j))), (2, .int (R 0)), (0, .ref (am 0)), (1, .int (nI k))]) E dX6_baseFor_74 (by decide) rfl ?_
      refine z_iinc (v := nI (10 + 5 * j) + 5) (lv' := [(5, .int (nI (10 + 5 * j) + 5)), (4, .int fo), (3, .int (nI (10 + 5 * j))), (6, .int fo), (2, .int (R 0)), (0, .ref (am 0)), (1, .int (nI k))]) E dX6_baseFor_76 (q := 3) rfl rfl (by decide) rfl ?_
      refine z_goto (tgt := 20) E dX6_baseFor_79 (by decide) ?_
      refine z_lv [0, 1, 2, 4, 5, 6] (lv' := [(5, .int (nI (10 + 5 * j) + 5)), (4, .int fo), (3, .int (nI (10 + 5 * j))), (2, .int (R 0)), (0, .ref (am 0)), (1, .int (nI k))]) rfl ?_
      refine z_eq (ws' := mw am cI dg m3) (lv' := [(5, .int (nI (10 + 5 * (j + 1)))), (4, .int fo), (3, .int (nI (10 + 5 * j))), (2, .int (R 0)), (0, .ref (am 0)), (1, .int (nI k))]) (st' := []) rfl (by rw [show 10 + 5 * (j + 1) = 10 + 5 * j + 5 by omega, ← nI_add5 (10 + 5 * j)]) rfl ?_
      exact ih n (m3, j + 1, nI (10 + 5 * j), fo) (by omega) ⟨by show j + 1 + n = 19; omega, Or.inr ⟨nI (10 + 5 * j), sm3⟩, hgo.trans ((fBBGo_s _ _ _ _ _).trans (by rw [hfo]; exact if_neg c50))⟩
