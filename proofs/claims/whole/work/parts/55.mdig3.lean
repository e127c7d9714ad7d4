/-! the reference: the digest -/
set_option maxHeartbeats 1000000 in
set_option maxRecDepth 100000 in
theorem k_mdigest (l : Launch) (D : va_G) (am : Nat → Nat) (cI cR cS cL : ClassId) (dg : Int64) (mem : zM) {cm : zM} (hok : zOK cm) (hS : zS cm (mem 1)) {pq : Nat → Nat} (hpq : ∀ i, i < 4 → rPp (rv cm i) (pq i)) (hZ0 : mem 0 3 = cm 101 2) {L : Nat} (hbf : zBf cm mem L) (hnn : ¬ fPeople cm 0 + cm 87 1 = 0 → vf_n64 (FP.ddiv (FP.i2d (fPeople cm 0)) (FP.i2d (fPeople cm 0 + cm 87 1)))) (hsh : zShare (fSafe cm)) : zMl l yX6_digest wsX6_digest ({ frames := 7, cells := 0, slots := 0, locals := 163 }) D (cK cI cR cS cL) [.ref (am 0)] (mw am cI dg mem) (fun r (u : Int64 × zM) => ∃ bits, zBitsR (fSafe cm) bits ∧ r = zMx 3617 (zDig cm pq bits L) ∧ zScr (mset mem 0 0 0) u.2) (fun (u : Int64 × zM) => mw am cI u.1 u.2) 0 0 := by
  refine zMlM.of (cc := cX6_digest) (maxL := 2) (ret := (some .long)) (by decide +kernel) rfl (lv0 := [(0, .ref (am 0))]) (Nat.le_of_ble_eq_true rfl) rfl ?_
  intro p e s m args below meth c E hZ hr hlocks hnm
  refine z_aload_n E dX6_digest_0 rfl 0 rfl ?_
  refine z_iconst (v := 0) E dX6_digest_1 (by decide) ?_
  refine z_put E 0 mw_obj (C := RX6) (T := TX6) (N := 16) rfl (fun _ h => List.mem_cons_of_mem _ (List.mem_append_right _ h)) tyX6 tyX6_ok nmX6 0 (by decide) (List.mem_of_getElem? (i := 1) (by decide +kernel)) rfl rfl rfl rfl (Nat.le_of_ble_eq_true rfl) (ws' := mw am cI dg (mset mem 0 0 0)) (ms_obj 0 (by decide) (by decide) rfl) dX6_digest_2 ?_
  refine z_gm2 (fun m1 hm1 => ?_)
  refine z_aload_n E dX6_digest_5 rfl 0 rfl ?_
  refine z_ldc2 (v := 3617) E dX6_digest_6 (List.mem_of_getElem? (i := 2) (by decide +kernel)) ?_
  refine z_put E 0 mw_obj (C := RX6) (T := TX6) (N := 16) rfl (fun _ h => List.mem_cons_of_mem _ (List.mem_append_right _ h)) tyX6 tyX6_ok nmX6 15 (by decide) (List.mem_of_getElem? (i := 3) (by decide +kernel)) rfl rfl rfl rfl (Nat.le_of_ble_eq_true rfl) (ws' := mw am cI 3617 m1) (ms_dg rfl) dX6_digest_9 ?_
  have hS1 : zS cm (m1 1) := by rw [hm1, mset_ne _ _ _ (by decide)]; exact hS
  have hZ3 : m1 0 3 = cm 101 2 := by rw [hm1, mset_ne2 _ _ (by decide)]; exact hZ0
  have hL5 : m1 0 5 = nI L := by rw [hm1, mset_ne2 _ _ (by decide)]; exact hbf.2.2.1
  have hm0 : mR (m1 1) 0 (rv cm 0) (pq 0) := by obtain ⟨p1, hp1, hm⟩ := hS1.1 0 (by omega); rw [rPp_unique (hpq 0 (by omega)) hp1]; exact hm
  have hp0 := hpq 0 (by omega)
  refine z_iconst (v := 0) E dX6_digest_12 (by decide) ?_
  refine z_istore_n (lv' := [(1, .int 0), (0, .ref (am 0))]) E dX6_digest_13 rfl (by decide) rfl ?_
  refine z_iload_n E dX6_digest_14 rfl 0 rfl ?_
  refine z_bipush (v := 6) E dX6_digest_15 (by decide) ?_
  refine z_icmp_ge_f (tgt := 36) E dX6_digest_17 (by decide) (by decide) ?_
  refine z_aload_n E dX6_digest_20 rfl 1 rfl ?_
  refine z_aload_n E dX6_digest_21 rfl 1 rfl ?_
  refine z_iload_n E dX6_digest_22 rfl 0 rfl ?_
  refine z_callVi E hZ (k_mcnt0 l D am cI cR cS cL 3617 m1 hok (by rw [(zScr.refl m1).s]; exact hS1) (Z := cm 101 2) (by rw [(zScr.refl m1).2 3 (by omega)]; exact hZ3)) gX6_digest_X6_counted (n := 1) rfl rfl rfl (by decide +kernel) rfl ⟨(Nat.le_of_ble_eq_true rfl), (Nat.le_of_ble_eq_true rfl)⟩ (C := RX6) rfl 0 mw_obj (As := [.int (0)]) (rest := [.ref (am 0)]) rfl (Nat.le_of_ble_eq_true rfl) ⟨(Nat.le_of_ble_eq_true rfl), (Nat.le_of_ble_eq_true rfl)⟩ dX6_digest_23 (fun r m2 hp => ?_)
  rw [hp.1]
  have sm2 : zScr m1 m2 := (zScr.refl m1).trans hp.2
  refine z_i2l (v := (fStanding cm 0).toInt64) E dX6_digest_26 rfl ?_
  refine z_callVv E hZ (k_digestOne l D am cI cR cS cL 3617 m2 ((fStanding cm 0).toInt64)) gX6_digest_X6_digestOne (n := 1) rfl rfl rfl (by decide +kernel) rfl ⟨(Nat.le_of_ble_eq_true rfl), (Nat.le_of_ble_eq_true rfl)⟩ (C := RX6) rfl 0 mw_obj (As := [.long ((fStanding cm 0).toInt64)]) (rest := []) rfl (Nat.le_of_ble_eq_true rfl) ⟨(Nat.le_of_ble_eq_true rfl), (Nat.le_of_ble_eq_true rfl)⟩ dX6_digest_27 (fun u hp => ?_)
  rw [hp]
  obtain ⟨g3, hg3⟩ : ∃ x, x = 31 * 3617 + ((fStanding cm 0).toInt64) := ⟨_, rfl⟩
  refine z_eq (ws' := mw am cI g3 m2) (lv' := [(1, .int 0), (0, .ref (am 0))]) (st' := []) (by rw [hg3]) rfl rfl ?_
  refine z_gm2 (fun m4 hm4 => ?_)
  have sm4 : zScr m1 m4 := by rw [hm4]; exact sm2
  refine z_iinc (v := 1) (lv' := [(1, .int 1), (0, .ref (am 0))]) E dX6_digest_30 (q := 0) rfl (by decide) (by decide) rfl ?_
  refine z_goto (tgt := 14) E dX6_digest_33 (by decide) ?_
  refine z_iload_n E dX6_digest_14 rfl 0 rfl ?_
  refine z_bipush (v := 6) E dX6_digest_15 (by decide) ?_
  refine z_icmp_ge_f (tgt := 36) E dX6_digest_17 (by decide) (by decide) ?_
  refine z_aload_n E dX6_digest_20 rfl 1 rfl ?_
  refine z_aload_n E dX6_digest_21 rfl 1 rfl ?_
  refine z_iload_n E dX6_digest_22 rfl 0 rfl ?_
  refine z_callVi E hZ (k_mcnt1 l D am cI cR cS cL g3 m4 hok (by rw [sm4.s]; exact hS1) (Z := cm 101 2) (by rw [sm4.2 3 (by omega)]; exact hZ3)) gX6_digest_X6_counted (n := 1) rfl rfl rfl (by decide +kernel) rfl ⟨(Nat.le_of_ble_eq_true rfl), (Nat.le_of_ble_eq_true rfl)⟩ (C := RX6) rfl 0 mw_obj (As := [.int (1)]) (rest := [.ref (am 0)]) rfl (Nat.le_of_ble_eq_true rfl) ⟨(Nat.le_of_ble_eq_true rfl), (Nat.le_of_ble_eq_true rfl)⟩ dX6_digest_23 (fun r m5 hp => ?_)
  rw [hp.1]
  have sm5 : zScr m1 m5 := sm4.trans hp.2
  refine z_i2l (v := (fPeople cm 0).toInt64) E dX6_digest_26 rfl ?_
  refine z_callVv E hZ (k_digestOne l D am cI cR cS cL g3 m5 ((fPeople cm 0).toInt64)) gX6_digest_X6_digestOne (n := 1) rfl rfl rfl (by decide +kernel) rfl ⟨(Nat.le_of_ble_eq_true rfl), (Nat.le_of_ble_eq_true rfl)⟩ (C := RX6) rfl 0 mw_obj (As := [.long ((fPeople cm 0).toInt64)]) (rest := []) rfl (Nat.le_of_ble_eq_true rfl) ⟨(Nat.le_of_ble_eq_true rfl), (Nat.le_of_ble_eq_true rfl)⟩ dX6_digest_27 (fun u hp => ?_)
  rw [hp]
  obtain ⟨g6, hg6⟩ : ∃ x, x = 31 * g3 + ((fPeople cm 0).toInt64) := ⟨_, rfl⟩
  refine z_eq (ws' := mw am cI g6 m5) (lv' := [(1, .int 1), (0, .ref (am 0))]) (st' := []) (by rw [hg6]) rfl rfl ?_
  refine z_gm2 (fun m7 hm7 => ?_)
  have sm7 : zScr m1 m7 := by rw [hm7]; exact sm5
  refine z_iinc (v := 2) (lv' := [(1, .int 2), (0, .ref (am 0))]) E dX6_digest_30 (q := 0) rfl (by decide) (by decide) rfl ?_
  refine z_goto (tgt := 14) E dX6_digest_33 (by decide) ?_
  refine z_iload_n E dX6_digest_14 rfl 0 rfl ?_
  refine z_bipush (v := 6) E dX6_digest_15 (by decide) ?_
  refine z_icmp_ge_f (tgt := 36) E dX6_digest_17 (by decide) (by decide) ?_
  refine z_aload_n E dX6_digest_20 rfl 1 rfl ?_
  refine z_aload_n E dX6_digest_21 rfl 1 rfl ?_
  refine z_iload_n E dX6_digest_22 rfl 0 rfl ?_
  refine z_callVi E hZ (k_mcnt2 l D am cI cR cS cL g6 m7 hok (by rw [sm7.s]; exact hS1) (Z := cm 101 2) (by rw [sm7.2 3 (by omega)]; exact hZ3)) gX6_digest_X6_counted (n := 1) rfl rfl rfl (by decide +kernel) rfl ⟨(Nat.le_of_ble_eq_true rfl), (Nat.le_of_ble_eq_true rfl)⟩ (C := RX6) rfl 0 mw_obj (As := [.int (2)]) (rest := [.ref (am 0)]) rfl (Nat.le_of_ble_eq_true rfl) ⟨(Nat.le_of_ble_eq_true rfl), (Nat.le_of_ble_eq_true rfl)⟩ dX6_digest_23 (fun r m8 hp => ?_)
  rw [hp.1]
  have sm8 : zScr m1 m8 := sm7.trans hp.2
  refine z_i2l (v := (fFalls cm 0).toInt64) E dX6_digest_26 rfl ?_
  refine z_callVv E hZ (k_digestOne l D am cI cR cS cL g6 m8 ((fFalls cm 0).toInt64)) gX6_digest_X6_digestOne (n := 1) rfl rfl rfl (by decide +kernel) rfl ⟨(Nat.le_of_ble_eq_true rfl), (Nat.le_of_ble_eq_true rfl)⟩ (C := RX6) rfl 0 mw_obj (As := [.long ((fFalls cm 0).toInt64)]) (rest := []) rfl (Nat.le_of_ble_eq_true rfl) ⟨(Nat.le_of_ble_eq_true rfl), (Nat.le_of_ble_eq_true rfl)⟩ dX6_digest_27 (fun u hp => ?_)
  rw [hp]
  obtain ⟨g9, hg9⟩ : ∃ x, x = 31 * g6 + ((fFalls cm 0).toInt64) := ⟨_, rfl⟩
  refine z_eq (ws' := mw am cI g9 m8) (lv' := [(1, .int 2), (0, .ref (am 0))]) (st' := []) (by rw [hg9]) rfl rfl ?_
  refine z_gm2 (fun m10 hm10 => ?_)
  have sm10 : zScr m1 m10 := by rw [hm10]; exact sm8
  refine z_iinc (v := 3) (lv' := [(1, .int 3), (0, .ref (am 0))]) E dX6_digest_30 (q := 0) rfl (by decide) (by decide) rfl ?_
  refine z_goto (tgt := 14) E dX6_digest_33 (by decide) ?_
  refine z_iload_n E dX6_digest_14 rfl 0 rfl ?_
  refine z_bipush (v := 6) E dX6_digest_15 (by decide) ?_
  refine z_icmp_ge_f (tgt := 36) E dX6_digest_17 (by decide) (by decide) ?_
  refine z_aload_n E dX6_digest_20 rfl 1 rfl ?_
  refine z_aload_n E dX6_digest_21 rfl 1 rfl ?_
  refine z_iload_n E dX6_digest_22 rfl 0 rfl ?_
  refine z_callVi E hZ (k_mcnt3 l D am cI cR cS cL g9 m10 hok (by rw [sm10.s]; exact hS1) (Z := cm 101 2) (by rw [sm10.2 3 (by omega)]; exact hZ3)) gX6_digest_X6_counted (n := 1) rfl rfl rfl (by decide +kernel) rfl ⟨(Nat.le_of_ble_eq_true rfl), (Nat.le_of_ble_eq_true rfl)⟩ (C := RX6) rfl 0 mw_obj (As := [.int (3)]) (rest := [.ref (am 0)]) rfl (Nat.le_of_ble_eq_true rfl) ⟨(Nat.le_of_ble_eq_true rfl), (Nat.le_of_ble_eq_true rfl)⟩ dX6_digest_23 (fun r m11 hp => ?_)
  rw [hp.1]
  have sm11 : zScr m1 m11 := sm10.trans hp.2
  refine z_i2l (v := (cm 87 1).toInt64) E dX6_digest_26 rfl ?_
  refine z_callVv E hZ (k_digestOne l D am cI cR cS cL g9 m11 ((cm 87 1).toInt64)) gX6_digest_X6_digestOne (n := 1) rfl rfl rfl (by decide +kernel) rfl ⟨(Nat.le_of_ble_eq_true rfl), (Nat.le_of_ble_eq_true rfl)⟩ (C := RX6) rfl 0 mw_obj (As := [.long ((cm 87 1).toInt64)]) (rest := []) rfl (Nat.le_of_ble_eq_true rfl) ⟨(Nat.le_of_ble_eq_true rfl), (Nat.le_of_ble_eq_true rfl)⟩ dX6_digest_27 (fun u hp => ?_)
  rw [hp]
  obtain ⟨g12, hg12⟩ : ∃ x, x = 31 * g9 + ((cm 87 1).toInt64) := ⟨_, rfl⟩
  refine z_eq (ws' := mw am cI g12 m11) (lv' := [(1, .int 3), (0, .ref (am 0))]) (st' := []) (by rw [hg12]) rfl rfl ?_
  refine z_gm2 (fun m13 hm13 => ?_)
  have sm13 : zScr m1 m13 := by rw [hm13]; exact sm11
  refine z_iinc (v := 4) (lv' := [(1, .int 4), (0, .ref (am 0))]) E dX6_digest_30 (q := 0) rfl (by decide) (by decide) rfl ?_
  refine z_goto (tgt := 14) E dX6_digest_33 (by decide) ?_
  refine z_iload_n E dX6_digest_14 rfl 0 rfl ?_
  refine z_bipush (v := 6) E dX6_digest_15 (by decide) ?_
  refine z_icmp_ge_f (tgt := 36) E dX6_digest_17 (by decide) (by decide) ?_
  refine z_aload_n E dX6_digest_20 rfl 1 rfl ?_
  refine z_aload_n E dX6_digest_21 rfl 1 rfl ?_
  refine z_iload_n E dX6_digest_22 rfl 0 rfl ?_
  refine z_callVi E hZ (k_mcnt4 l D am cI cR cS cL g12 m13 hok (by rw [sm13.s]; exact hS1) (Z := cm 101 2) (by rw [sm13.2 3 (by omega)]; exact hZ3)) gX6_digest_X6_counted (n := 1) rfl rfl rfl (by decide +kernel) rfl ⟨(Nat.le_of_ble_eq_true rfl), (Nat.le_of_ble_eq_true rfl)⟩ (C := RX6) rfl 0 mw_obj (As := [.int (4)]) (rest := [.ref (am 0)]) rfl (Nat.le_of_ble_eq_true rfl) ⟨(Nat.le_of_ble_eq_true rfl), (Nat.le_of_ble_eq_true rfl)⟩ dX6_digest_23 (fun r m14 hp => ?_)
  rw [hp.1]
  have sm14 : zScr m1 m14 := sm13.trans hp.2
  refine z_i2l (v := (cm 87 2).toInt64) E dX6_digest_26 rfl ?_
  refine z_callVv E hZ (k_digestOne l D am cI cR cS cL g12 m14 ((cm 87 2).toInt64)) gX6_digest_X6_digestOne (n := 1) rfl rfl rfl (by decide +kernel) rfl ⟨(Nat.le_of_ble_eq_true rfl), (Nat.le_of_ble_eq_true rfl)⟩ (C := RX6) rfl 0 mw_obj (As := [.long ((cm 87 2).toInt64)]) (rest := []) rfl (Nat.le_of_ble_eq_true rfl) ⟨(Nat.le_of_ble_eq_true rfl), (Nat.le_of_ble_eq_true rfl)⟩ dX6_digest_27 (fun u hp => ?_)
  rw [hp]
  obtain ⟨g15, hg15⟩ : ∃ x, x = 31 * g12 + ((cm 87 2).toInt64) := ⟨_, rfl⟩
  refine z_eq (ws' := mw am cI g15 m14) (lv' := [(1, .int 4), (0, .ref (am 0))]) (st' := []) (by rw [hg15]) rfl rfl ?_
  refine z_gm2 (fun m16 hm16 => ?_)
  have sm16 : zScr m1 m16 := by rw [hm16]; exact sm14
  refine z_iinc (v := 5) (lv' := [(1, .int 5), (0, .ref (am 0))]) E dX6_digest_30 (q := 0) rfl (by decide) (by decide) rfl ?_
  refine z_goto (tgt := 14) E dX6_digest_33 (by decide) ?_
  refine z_iload_n E dX6_digest_14 rfl 0 rfl ?_
  refine z_bipush (v := 6) E dX6_digest_15 (by decide) ?_
  refine z_icmp_ge_f (tgt := 36) E dX6_digest_17 (by decide) (by decide) ?_
  refine z_aload_n E dX6_digest_20 rfl 1 rfl ?_
  refine z_aload_n E dX6_digest_21 rfl 1 rfl ?_
  refine z_iload_n E dX6_digest_22 rfl 0 rfl ?_
  refine z_callVi E hZ (k_mcnt5 l D am cI cR cS cL g15 m16 hok (by rw [sm16.s]; exact hS1) (Z := cm 101 2) (by rw [sm16.2 3 (by omega)]; exact hZ3)) gX6_digest_X6_counted (n := 1) rfl rfl rfl (by decide +kernel) rfl ⟨(Nat.le_of_ble_eq_true rfl), (Nat.le_of_ble_eq_true rfl)⟩ (C := RX6) rfl 0 mw_obj (As := [.int (5)]) (rest := [.ref (am 0)]) rfl (Nat.le_of_ble_eq_true rfl) ⟨(Nat.le_of_ble_eq_true rfl), (Nat.le_of_ble_eq_true rfl)⟩ dX6_digest_23 (fun r m17 hp => ?_)
  rw [hp.1]
  have sm17 : zScr m1 m17 := sm16.trans hp.2
  refine z_i2l (v := (cm 101 2).toInt64) E dX6_digest_26 rfl ?_
  refine z_callVv E hZ (k_digestOne l D am cI cR cS cL g15 m17 ((cm 101 2).toInt64)) gX6_digest_X6_digestOne (n := 1) rfl rfl rfl (by decide +kernel) rfl ⟨(Nat.le_of_ble_eq_true rfl), (Nat.le_of_ble_eq_true rfl)⟩ (C := RX6) rfl 0 mw_obj (As := [.long ((cm 101 2).toInt64)]) (rest := []) rfl (Nat.le_of_ble_eq_true rfl) ⟨(Nat.le_of_ble_eq_true rfl), (Nat.le_of_ble_eq_true rfl)⟩ dX6_digest_27 (fun u hp => ?_)
  rw [hp]
  obtain ⟨g18, hg18⟩ : ∃ x, x = 31 * g15 + ((cm 101 2).toInt64) := ⟨_, rfl⟩
  refine z_eq (ws' := mw am cI g18 m17) (lv' := [(1, .int 5), (0, .ref (am 0))]) (st' := []) (by rw [hg18]) rfl rfl ?_
  refine z_gm2 (fun m19 hm19 => ?_)
  have sm19 : zScr m1 m19 := by rw [hm19]; exact sm17
  refine z_iinc (v := 6) (lv' := [(1, .int 6), (0, .ref (am 0))]) E dX6_digest_30 (q := 0) rfl (by decide) (by decide) rfl ?_
  refine z_goto (tgt := 14) E dX6_digest_33 (by decide) ?_
  refine z_iload_n E dX6_digest_14 rfl 0 rfl ?_
  refine z_bipush (v := 6) E dX6_digest_15 (by decide) ?_
  refine z_icmp_ge_t (tgt := 36) E dX6_digest_17 (by decide) (by decide) ?_
  have e1 : g18 = zMx 3617 ([(fStanding cm 0).toInt64, (fPeople cm 0).toInt64, (fFalls cm 0).toInt64, (cm 87 1).toInt64, (cm 87 2).toInt64, (cm 101 2).toInt64]) := by rw [hg18, hg15, hg12, hg9, hg6, hg3]; rfl
  refine z_iconst (v := 0) E dX6_digest_36 (by decide) ?_
  refine z_istore_n (lv' := [(1, .int 0), (0, .ref (am 0))]) E dX6_digest_37 rfl (by decide) rfl ?_
  refine z_iload_n E dX6_digest_38 rfl 0 rfl ?_
  refine z_iconst (v := 4) E dX6_digest_39 (by decide) ?_
  refine z_icmp_ge_f (tgt := 54) E dX6_digest_40 (by decide) (by decide) ?_
  refine z_aload_n E dX6_digest_43 rfl 1 rfl ?_
  refine z_iload_n E dX6_digest_44 rfl 0 rfl ?_
  refine z_callVv E hZ (k_mdigLadder l D am cI cR cS cL g18 m19 hok (by rw [sm19.s]; exact hS1) (k := 0) (by omega) (hpq 0 (by omega))) gX6_digest_X6_digestLadder (n := 1) rfl rfl rfl (by decide +kernel) rfl ⟨(Nat.le_of_ble_eq_true rfl), (Nat.le_of_ble_eq_true rfl)⟩ (C := RX6) rfl 0 mw_obj (As := [.int (nI 0)]) (rest := []) rfl (Nat.le_of_ble_eq_true rfl) ⟨(Nat.le_of_ble_eq_true rfl), (Nat.le_of_ble_eq_true rfl)⟩ dX6_digest_45 (fun u hp => ?_)
  obtain ⟨g20, m21⟩ := u
  have hg20 : g20 = zMx g18 (zLad (rv cm 0) (pq 0)) := hp.1
  have sm21 : zScr m1 m21 := sm19.trans hp.2
  refine z_eq (ws' := mw am cI g20 m21) (lv' := [(1, .int 0), (0, .ref (am 0))]) (st' := []) rfl rfl rfl ?_
  refine z_iinc (v := 1) (lv' := [(1, .int 1), (0, .ref (am 0))]) E dX6_digest_48 (q := 0) rfl (by decide) (by decide) rfl ?_
  refine z_goto (tgt := 38) E dX6_digest_51 (by decide) ?_
  refine z_iload_n E dX6_digest_38 rfl 0 rfl ?_
  refine z_iconst (v := 4) E dX6_digest_39 (by decide) ?_
  refine z_icmp_ge_f (tgt := 54) E dX6_digest_40 (by decide) (by decide) ?_
  refine z_aload_n E dX6_digest_43 rfl 1 rfl ?_
  refine z_iload_n E dX6_digest_44 rfl 0 rfl ?_
  refine z_callVv E hZ (k_mdigLadder l D am cI cR cS cL g20 m21 hok (by rw [sm21.s]; exact hS1) (k := 1) (by omega) (hpq 1 (by omega))) gX6_digest_X6_digestLadder (n := 1) rfl rfl rfl (by decide +kernel) rfl ⟨(Nat.le_of_ble_eq_true rfl), (Nat.le_of_ble_eq_true rfl)⟩ (C := RX6) rfl 0 mw_obj (As := [.int (nI 1)]) (rest := []) rfl (Nat.le_of_ble_eq_true rfl) ⟨(Nat.le_of_ble_eq_true rfl), (Nat.le_of_ble_eq_true rfl)⟩ dX6_digest_45 (fun u hp => ?_)
  obtain ⟨g22, m23⟩ := u
  have hg22 : g22 = zMx g20 (zLad (rv cm 1) (pq 1)) := hp.1
  have sm23 : zScr m1 m23 := sm21.trans hp.2
  refine z_eq (ws' := mw am cI g22 m23) (lv' := [(1, .int 1), (0, .ref (am 0))]) (st' := []) rfl rfl rfl ?_
  refine z_iinc (v := 2) (lv' := [(1, .int 2), (0, .ref (am 0))]) E dX6_digest_48 (q := 0) rfl (by decide) (by decide) rfl ?_
  refine z_goto (tgt := 38) E dX6_digest_51 (by decide) ?_
  refine z_iload_n E dX6_digest_38 rfl 0 rfl ?_
  refine z_iconst (v := 4) E dX6_digest_39 (by decide) ?_
  refine z_icmp_ge_f (tgt := 54) E dX6_digest_40 (by decide) (by decide) ?_
  refine z_aload_n E dX6_digest_43 rfl 1 rfl ?_
  refine z_iload_n E dX6_digest_44 rfl 0 rfl ?_
  refine z_callVv E hZ (k_mdigLadder l D am cI cR cS cL g22 m23 hok (by rw [sm23.s]; exact hS1) (k := 2) (by omega) (hpq 2 (by omega))) gX6_digest_X6_digestLadder (n := 1) rfl rfl rfl (by decide +kernel) rfl ⟨(Nat.le_of_ble_eq_true rfl), (Nat.le_of_ble_eq_true rfl)⟩ (C := RX6) rfl 0 mw_obj (As := [.int (nI 2)]) (rest := []) rfl (Nat.le_of_ble_eq_true rfl) ⟨(Nat.le_of_ble_eq_true rfl), (Nat.le_of_ble_eq_true rfl)⟩ dX6_digest_45 (fun u hp => ?_)
  obtain ⟨g24, m25⟩ := u
  have hg24 : g24 = zMx g22 (zLad (rv cm 2) (pq 2)) := hp.1
  have sm25 : zScr m1 m25 := sm23.trans hp.2
  refine z_eq (ws' := mw am cI g24 m25) (lv' := [(1, .int 2), (0, .ref (am 0))]) (st' := []) rfl rfl rfl ?_
  refine z_iinc (v := 3) (lv' := [(1, .int 3), (0, .ref (am 0))]) E dX6_digest_48 (q := 0) rfl (by decide) (by decide) rfl ?_
  refine z_goto (tgt := 38) E dX6_digest_51 (by decide) ?_
  refine z_iload_n E dX6_digest_38 rfl 0 rfl ?_
  refine z_iconst (v := 4) E dX6_digest_39 (by decide) ?_
  refine z_icmp_ge_f (tgt := 54) E dX6_digest_40 (by decide) (by decide) ?_
  refine z_aload_n E dX6_digest_43 rfl 1 rfl ?_
  refine z_iload_n E dX6_digest_44 rfl 0 rfl ?_
  refine z_callVv E hZ (k_mdigLadder l D am cI cR cS cL g24 m25 hok (by rw [sm25.s]; exact hS1) (k := 3) (by omega) (hpq 3 (by omega))) gX6_digest_X6_digestLadder (n := 1) rfl rfl rfl (by decide +kernel) rfl ⟨(Nat.le_of_ble_eq_true rfl), (Nat.le_of_ble_eq_true rfl)⟩ (C := RX6) rfl 0 mw_obj (As := [.int (nI 3)]) (rest := []) rfl (Nat.le_of_ble_eq_true rfl) ⟨(Nat.le_of_ble_eq_true rfl), (Nat.le_of_ble_eq_true rfl)⟩ dX6_digest_45 (fun u hp => ?_)
  obtain ⟨g26, m27⟩ := u
  have hg26 : g26 = zMx g24 (zLad (rv cm 3) (pq 3)) := hp.1
  have sm27 : zScr m1 m27 := sm25.trans hp.2
  refine z_eq (ws' := mw am cI g26 m27) (lv' := [(1, .int 3), (0, .ref (am 0))]) (st' := []) rfl rfl rfl ?_
  refine z_iinc (v := 4) (lv' := [(1, .int 4), (0, .ref (am 0))]) E dX6_digest_48 (q := 0) rfl (by decide) (by decide) rfl ?_
  refine z_goto (tgt := 38) E dX6_digest_51 (by decide) ?_
  refine z_iload_n E dX6_digest_38 rfl 0 rfl ?_
  refine z_iconst (v := 4) E dX6_digest_39 (by decide) ?_
  refine z_icmp_ge_t (tgt := 54) E dX6_digest_40 (by decide) (by decide) ?_
  refine z_aload_n E dX6_digest_54 rfl 1 rfl ?_
  refine z_aload_n E dX6_digest_55 rfl 1 rfl ?_
  refine z_iconst (v := 0) E dX6_digest_56 (by decide) ?_
  refine z_bipush (v := -10) E dX6_digest_57 (by decide) ?_
  refine z_callVi E hZ (k_mlacking l D am cI cR cS cL g26 m27 (k := 0) (by omega) (by rw [sm27.s]; exact hm0) hp0 (hok 0 (by omega)).1 (-10)) gX6_digest_X6_lacking (n := 2) rfl rfl rfl (by decide +kernel) rfl ⟨(Nat.le_of_ble_eq_true rfl), (Nat.le_of_ble_eq_true rfl)⟩ (C := RX6) rfl 0 mw_obj (As := [.int (nI 0), .int (-10)]) (rest := [.ref (am 0)]) rfl (Nat.le_of_ble_eq_true rfl) ⟨(Nat.le_of_ble_eq_true rfl), (Nat.le_of_ble_eq_true rfl)⟩ dX6_digest_59 (fun r u hp => ?_)
  rw [hp.1, hp.2]
  refine z_i2l (v := (fWGW (rv cm 0) (-10)).toInt64) E dX6_digest_62 rfl ?_
  refine z_callVv E hZ (k_digestOne l D am cI cR cS cL g26 m27 ((fWGW (rv cm 0) (-10)).toInt64)) gX6_digest_X6_digestOne (n := 1) rfl rfl rfl (by decide +kernel) rfl ⟨(Nat.le_of_ble_eq_true rfl), (Nat.le_of_ble_eq_true rfl)⟩ (C := RX6) rfl 0 mw_obj (As := [.long ((fWGW (rv cm 0) (-10)).toInt64)]) (rest := []) rfl (Nat.le_of_ble_eq_true rfl) ⟨(Nat.le_of_ble_eq_true rfl), (Nat.le_of_ble_eq_true rfl)⟩ dX6_digest_63 (fun u hp => ?_)
  rw [hp]
  obtain ⟨g28, hg28⟩ : ∃ x, x = 31 * g26 + ((fWGW (rv cm 0) (-10)).toInt64) := ⟨_, rfl⟩
  refine z_eq (ws' := mw am cI g28 m27) (lv' := [(1, .int 4), (0, .ref (am 0))]) (st' := []) (by rw [hg28]) rfl rfl ?_
  refine z_gm2 (fun m29 hm29 => ?_)
  have sm29 : zScr m1 m29 := by rw [hm29]; exact sm27
  refine z_aload_n E dX6_digest_66 rfl 1 rfl ?_
  refine z_aload_n E dX6_digest_67 rfl 1 rfl ?_
  refine z_iconst (v := 0) E dX6_digest_68 (by decide) ?_
  refine z_iconst (v := 0) E dX6_digest_69 (by decide) ?_
  refine z_callVi E hZ (k_mlacking l D am cI cR cS cL g28 m29 (k := 0) (by omega) (by rw [sm29.s]; exact hm0) hp0 (hok 0 (by omega)).1 (0)) gX6_digest_X6_lacking (n := 2) rfl rfl rfl (by decide +kernel) rfl ⟨(Nat.le_of_ble_eq_true rfl), (Nat.le_of_ble_eq_true rfl)⟩ (C := RX6) rfl 0 mw_obj (As := [.int (nI 0), .int (0)]) (rest := [.ref (am 0)]) rfl (Nat.le_of_ble_eq_true rfl) ⟨(Nat.le_of_ble_eq_true rfl), (Nat.le_of_ble_eq_true rfl)⟩ dX6_digest_70 (fun r u hp => ?_)
  rw [hp.1, hp.2]
  refine z_i2l (v := (fWGW (rv cm 0) 0).toInt64) E dX6_digest_73 rfl ?_
  refine z_callVv E hZ (k_digestOne l D am cI cR cS cL g28 m29 ((fWGW (rv cm 0) 0).toInt64)) gX6_digest_X6_digestOne (n := 1) rfl rfl rfl (by decide +kernel) rfl ⟨(Nat.le_of_ble_eq_true rfl), (Nat.le_of_ble_eq_true rfl)⟩ (C := RX6) rfl 0 mw_obj (As := [.long ((fWGW (rv cm 0) 0).toInt64)]) (rest := []) rfl (Nat.le_of_ble_eq_true rfl) ⟨(Nat.le_of_ble_eq_true rfl), (Nat.le_of_ble_eq_true rfl)⟩ dX6_digest_74 (fun u hp => ?_)
  rw [hp]
  obtain ⟨g30, hg30⟩ : ∃ x, x = 31 * g28 + ((fWGW (rv cm 0) 0).toInt64) := ⟨_, rfl⟩
  refine z_eq (ws' := mw am cI g30 m29) (lv' := [(1, .int 4), (0, .ref (am 0))]) (st' := []) (by rw [hg30]) rfl rfl ?_
  refine z_gm2 (fun m31 hm31 => ?_)
  have sm31 : zScr m1 m31 := by rw [hm31]; exact sm29
  refine z_aload_n E dX6_digest_77 rfl 1 rfl ?_
  refine z_aload_n E dX6_digest_78 rfl 1 rfl ?_
  refine z_iconst (v := 0) E dX6_digest_79 (by decide) ?_
  refine z_bipush (v := 10) E dX6_digest_80 (by decide) ?_
  refine z_callVi E hZ (k_mlacking l D am cI cR cS cL g30 m31 (k := 0) (by omega) (by rw [sm31.s]; exact hm0) hp0 (hok 0 (by omega)).1 (10)) gX6_digest_X6_lacking (n := 2) rfl rfl rfl (by decide +kernel) rfl ⟨(Nat.le_of_ble_eq_true rfl), (Nat.le_of_ble_eq_true rfl)⟩ (C := RX6) rfl 0 mw_obj (As := [.int (nI 0), .int (10)]) (rest := [.ref (am 0)]) rfl (Nat.le_of_ble_eq_true rfl) ⟨(Nat.le_of_ble_eq_true rfl), (Nat.le_of_ble_eq_true rfl)⟩ dX6_digest_82 (fun r u hp => ?_)
  rw [hp.1, hp.2]
  refine z_i2l (v := (fWGW (rv cm 0) 10).toInt64) E dX6_digest_85 rfl ?_
  refine z_callVv E hZ (k_digestOne l D am cI cR cS cL g30 m31 ((fWGW (rv cm 0) 10).toInt64)) gX6_digest_X6_digestOne (n := 1) rfl rfl rfl (by decide +kernel) rfl ⟨(Nat.le_of_ble_eq_true rfl), (Nat.le_of_ble_eq_true rfl)⟩ (C := RX6) rfl 0 mw_obj (As := [.long ((fWGW (rv cm 0) 10).toInt64)]) (rest := []) rfl (Nat.le_of_ble_eq_true rfl) ⟨(Nat.le_of_ble_eq_true rfl), (Nat.le_of_ble_eq_true rfl)⟩ dX6_digest_86 (fun u hp => ?_)
  rw [hp]
  obtain ⟨g32, hg32⟩ : ∃ x, x = 31 * g30 + ((fWGW (rv cm 0) 10).toInt64) := ⟨_, rfl⟩
  refine z_eq (ws' := mw am cI g32 m31) (lv' := [(1, .int 4), (0, .ref (am 0))]) (st' := []) (by rw [hg32]) rfl rfl ?_
  refine z_gm2 (fun m33 hm33 => ?_)
  have sm33 : zScr m1 m33 := by rw [hm33]; exact sm31
  have e6 : g32 = zMx g26 (zHel (rv cm 0)) := by rw [hg32, hg30, hg28]; rfl
  refine z_aload_n E dX6_digest_89 rfl 1 rfl ?_
  refine z_aload_n E dX6_digest_90 rfl 1 rfl ?_
  refine z_callVd E hZ (k_mshare l D am cI cR cS cL g32 m33 hok (by rw [sm33.s]; exact hS1) hnn) gX6_digest_X6_share (n := 0) rfl rfl rfl (by decide +kernel) rfl ⟨(Nat.le_of_ble_eq_true rfl), (Nat.le_of_ble_eq_true rfl)⟩ (C := RX6) rfl 0 mw_obj (As := []) (rest := [.ref (am 0)]) rfl (Nat.le_of_ble_eq_true rfl) ⟨(Nat.le_of_ble_eq_true rfl), (Nat.le_of_ble_eq_true rfl)⟩ dX6_digest_91 (fun r m34 hp => ?_)
  rw [hp.1]
  have sm34 : zScr m1 m34 := sm33.trans hp.2
  refine z_callSl E hZ (k_mbits l D am cI cR cS cL g32 m34 hsh) gX6_digest_X6_bitsOf (n := 1) rfl rfl rfl (by decide +kernel) rfl ⟨(Nat.le_of_ble_eq_true rfl), (Nat.le_of_ble_eq_true rfl)⟩ (As := [.double (fSafe cm)]) (rest := [.ref (am 0)]) rfl (Nat.le_of_ble_eq_true rfl) ⟨(Nat.le_of_ble_eq_true rfl), (Nat.le_of_ble_eq_true rfl)⟩ dX6_digest_94 (fun bits u hbits => ?_)
  rw [hbits.2]
  refine z_callVv E hZ (k_digestOne l D am cI cR cS cL g32 m34 bits) gX6_digest_X6_digestOne (n := 1) rfl rfl rfl (by decide +kernel) rfl ⟨(Nat.le_of_ble_eq_true rfl), (Nat.le_of_ble_eq_true rfl)⟩ (C := RX6) rfl 0 mw_obj (As := [.long bits]) (rest := []) rfl (Nat.le_of_ble_eq_true rfl) ⟨(Nat.le_of_ble_eq_true rfl), (Nat.le_of_ble_eq_true rfl)⟩ dX6_digest_97 (fun u hp => ?_)
  rw [hp]
  obtain ⟨g35, hg35⟩ : ∃ x, x = 31 * g32 + bits := ⟨_, rfl⟩
  refine z_eq (ws' := mw am cI g35 m34) (lv' := [(1, .int 4), (0, .ref (am 0))]) (st' := []) (by rw [hg35]) rfl rfl ?_
  refine z_gm2 (fun m36 hm36 => ?_)
  have sm36 : zScr m1 m36 := by rw [hm36]; exact sm34
  refine z_aload_n E dX6_digest_100 rfl 1 rfl ?_
  refine z_aload_n E dX6_digest_101 rfl 1 rfl ?_
  have hl102 : m36 0 5 = nI L := by rw [sm36.2 5 (by omega)]; exact hL5
  refine z_get E 0 mw_obj (C := RX6) (T := TX6) (N := 16) rfl (fun _ h => List.mem_cons_of_mem _ (List.mem_append_right _ h)) 5 (by decide) (List.mem_of_getElem? (i := 4) (by decide +kernel)) rfl (v := .int (nI L)) (congrArg (fun z : Int32 => some (Value.int z)) hl102) dX6_digest_102 ?_
  refine z_i2l (v := (nI L).toInt64) E dX6_digest_105 rfl ?_
  refine z_callVv E hZ (k_digestOne l D am cI cR cS cL g35 m36 ((nI L).toInt64)) gX6_digest_X6_digestOne (n := 1) rfl rfl rfl (by decide +kernel) rfl ⟨(Nat.le_of_ble_eq_true rfl), (Nat.le_of_ble_eq_true rfl)⟩ (C := RX6) rfl 0 mw_obj (As := [.long ((nI L).toInt64)]) (rest := []) rfl (Nat.le_of_ble_eq_true rfl) ⟨(Nat.le_of_ble_eq_true rfl), (Nat.le_of_ble_eq_true rfl)⟩ dX6_digest_106 (fun u hp => ?_)
  rw [hp]
  obtain ⟨g37, hg37⟩ : ∃ x, x = 31 * g35 + ((nI L).toInt64) := ⟨_, rfl⟩
  refine z_eq (ws' := mw am cI g37 m36) (lv' := [(1, .int 4), (0, .ref (am 0))]) (st' := []) (by rw [hg37]) rfl rfl ?_
  refine z_gm2 (fun m38 hm38 => ?_)
  have sm38 : zScr m1 m38 := by rw [hm38]; exact sm36
  refine z_iconst (v := 0) E dX6_digest_109 (by decide) ?_
  refine z_istore_n (lv' := [(1, .int 0), (0, .ref (am 0))]) E dX6_digest_110 rfl (by decide) rfl ?_
  have e7 : g37 = zMx g32 [bits, (nI L).toInt64] := by rw [hg37, hg35]; rfl
  refine z_loop (σ := zM × Int64 × Nat) (fun n y => y.2.2 + n = L ∧ zScr m1 y.1 ∧ y.2.1 = zMx g37 (zCodes (cm 104) y.2.2)) (fun y => mw am cI y.2.1 y.1) (fun y => [(1, .int (nI y.2.2)), (0, .ref (am 0))]) 111 0 0 ?_ L (m38, g37, 0) ⟨Nat.zero_add _, sm38, rfl⟩ rfl rfl rfl rfl rfl
  rintro n ⟨m, hh0, t⟩ ⟨htn, hsc, hh⟩ ih
  dsimp only at htn hsc hh ⊢
  have hlm : m 0 5 = nI L := by rw [hsc.2 5 (by omega)]; exact hL5
  refine z_iload_n E dX6_digest_111 rfl 0 rfl ?_
  refine z_aload_n E dX6_digest_112 rfl 1 rfl ?_
  refine z_get E 0 mw_obj (C := RX6) (T := TX6) (N := 16) rfl (fun _ h => List.mem_cons_of_mem _ (List.mem_append_right _ h)) 5 (by decide) (List.mem_of_getElem? (i := 4) (by decide +kernel)) rfl (v := .int (nI L)) (congrArg (fun z : Int32 => some (Value.int z)) hlm) dX6_digest_113 ?_
  refine z_icmp_ge (tgt := 136) E dX6_digest_116 (by decide) (fun c116 => ?_) (fun c116 => ?_)
  · skip
    have htL : t = L := by have := hbf.1; have := (nI_leI (a := L) (b := t) (by omega) (by omega)).mp c116; omega
    refine z_aload_n E dX6_digest_136 rfl 1 rfl ?_
    refine z_get E 0 mw_obj (C := RX6) (T := TX6) (N := 16) rfl (fun _ h => List.mem_cons_of_mem _ (List.mem_append_right _ h)) 15 (by decide) (List.mem_of_getElem? (i := 3) (by decide +kernel)) rfl (v := .long hh0) rfl dX6_digest_137 ?_
    exact z_lretM E hr hlocks ((hh0, m)) rfl ⟨bits, hbits.1, by unfold zDig; rw [zMx_app, show zCnt cm = [(fStanding cm 0).toInt64, (fPeople cm 0).toInt64, (fFalls cm 0).toInt64, (cm 87 1).toInt64, (cm 87 2).toInt64, (cm 101 2).toInt64] from rfl, ← e1, zMx_app, ← hg20, zMx_app, ← hg22, zMx_app, ← hg24, zMx_app, ← hg26, zMx_app, ← e6, zMx_app, ← e7]; rw [hh, htL], by rw [← hm1]; exact hsc⟩ (Nat.le_of_ble_eq_true rfl) (Nat.le_of_ble_eq_true rfl) dX6_digest_140
  · skip
    have hL60 := hbf.1
    obtain ⟨n, rfl⟩ : ∃ n1, n = n1 + 1 := ⟨n - 1, by have := zklt (k := t) (L := L) (by omega) (by omega) c116; omega⟩
    have ht : t < L := by omega
    have hct : m 3 t = cm 104 t := by rw [hsc.1 3 (by decide), hm1, mset_ne _ _ _ (by decide)]; exact (hbf.2.2.2 t ht).1
    refine z_aload_n E dX6_digest_119 rfl 1 rfl ?_
    refine z_aload_n E dX6_digest_120 rfl 1 rfl ?_
    refine z_get E 0 mw_obj (C := RX6) (T := TX6) (N := 16) rfl (fun _ h => List.mem_cons_of_mem _ (List.mem_append_right _ h)) 4 (by decide) (List.mem_of_getElem? (i := 5) (by decide +kernel)) rfl (v := .ref (am 3)) rfl dX6_digest_121 ?_
    refine z_iload_n E dX6_digest_124 rfl 0 rfl ?_
    refine z_iald E 3 0 mw_text rfl (vp_in_nI (by omega) (by decide)) (v := cm 104 t) ((congrArg (m 3) (nI_clamp (by omega))).trans hct) dX6_digest_125 ?_
    refine z_i2l (v := (cm 104 t).toInt64) E dX6_digest_126 rfl ?_
    refine z_callVv E hZ (k_digestOne l D am cI cR cS cL hh0 m ((cm 104 t).toInt64)) gX6_digest_X6_digestOne (n := 1) rfl rfl rfl (by decide +kernel) rfl ⟨(Nat.le_of_ble_eq_true rfl), (Nat.le_of_ble_eq_true rfl)⟩ (C := RX6) rfl 0 mw_obj (As := [.long ((cm 104 t).toInt64)]) (rest := []) rfl (Nat.le_of_ble_eq_true rfl) ⟨(Nat.le_of_ble_eq_true rfl), (Nat.le_of_ble_eq_true rfl)⟩ dX6_digest_127 (fun u hp => ?_)
    rw [hp]
    obtain ⟨g39, hg39⟩ : ∃ x, x = 31 * hh0 + ((cm 104 t).toInt64) := ⟨_, rfl⟩
    refine z_eq (ws' := mw am cI g39 m) (lv' := [(1, .int (nI t)), (0, .ref (am 0))]) (st' := []) (by rw [hg39]) rfl rfl ?_
    refine z_gm2 (fun m40 hm40 => ?_)
    have sm40 : zScr m1 m40 := by rw [hm40]; exact hsc
    refine z_iinc (v := nI t + 1) (lv' := [(1, .int (nI t + 1)), (0, .ref (am 0))]) E dX6_digest_130 (q := 0) rfl rfl (by decide) rfl ?_
    refine z_goto (tgt := 111) E dX6_digest_133 (by decide) ?_
    refine z_eq (ws' := mw am cI g39 m40) (lv' := [(1, .int (nI (t + 1))), (0, .ref (am 0))]) (st' := []) rfl (by rw [← nI_1 t]) rfl ?_
    exact ih n (m40, g39, t + 1) (by omega) ⟨by show t + 1 + n = L; omega, sm40, by show g39 = zMx g37 (zCodes (cm 104) (t + 1)); rw [zCodes_s, zMx_app, ← hh, hg39]; rfl⟩
