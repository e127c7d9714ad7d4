/-! the reference: firstError, play -/
/-- the class's reader, its cursor, the trial rig don't matter -/
theorem zR_cl {B : Nat} {c c' mm : zM} {q z L : Nat} (h : zR B c mm q z L) (hc : ∀ i, i ≠ 103 → i ≠ 105 → c' i = c i) (h1 : c' 103 1 = c 103 1) : zR B c' mm q z L := by
  obtain ⟨a1, ⟨b1, b2, b3, b4, b5, b6⟩, d1, d2, d3, d4⟩ := h
  have key : ∀ t s, t < 7 → zSite B c t s → zSite B c' t s := fun t s ht7 hs => zSite_congr (Nat.le_refl B) (fun k hk => rv_eq (hc _ (by omega) (by omega)) (hc _ (by omega) (by omega)) (hc _ (by omega) (by omega))) (fun _ _ => rfl) (by rw [hc _ (by omega) (by omega)]) (by rw [hc _ (by omega) (by omega)]) hs
  exact ⟨key 0 _ (by omega) a1, ⟨b1, b2, by rw [hc _ (by omega) (by omega)]; exact b3, by rw [hc _ (by omega) (by omega)]; exact b4, b5, fun i hi => key _ _ (zSl_lt q z i) (b6 i hi)⟩, d1, by rw [h1]; exact d2, d3, fun i hi => by rw [hc 104 (by omega) (by omega)]; exact d4 i hi⟩
theorem zR_ff {B : Nat} {c mm : zM} {q z L k : Nat} (h : zR B c mm q z L) : zR B (sFF c L k) mm q z L := zR_cl h (fun i _ h5 => sFF_ne h5) (by rw [sFF_ne (by decide)])
theorem zR_cd {B : Nat} {c mm : zM} {q z L : Nat} (h : zR B c mm q z L) : zCd (c 104) L := fun i hi => by
  obtain ⟨n, h1, h2, h3⟩ := (h.2.2.2.2.2 i hi).2
  exact ⟨n, h1, h2, h3⟩
theorem zR_rd {B : Nat} {c mm u : zM} {q z L : Nat} (h : zR B c mm q z L) (hz : zRd mm u) : zR B c u q z L := zR_fld h (hz.1 1 (by decide)) (hz.1 2 (by decide)) (hz.1 3 (by decide)) (hz.2 3 (by omega)) (hz.2 5 (by omega))
theorem zR_done {B F1 : Nat} {c1 cP mm u : zM} {q z L : Nat} (h : zR B c1 mm q z L) (hS : zS cP (u 1)) (hok : zOK cP) (keep : ∀ i, 12 ≤ i → i ≠ 87 → i ≠ 103 → i ≠ 105 → cP i = c1 i) (hF : F1 ≤ B + 180) (eF : cP 87 1 = nI F1) (h2 : u 2 = mm 2) (h3 : u 3 = mm 3) (h03 : u 0 3 = mm 0 3) (h05 : u 0 5 = 0) : zR (B + 180) (mset cP 103 1 0) u q z 0 := by
  obtain ⟨a1, ⟨b1, b2, b3, b4, b5, b6⟩, d1, d2, d3, d4⟩ := h
  have k2 : ∀ i, i ≠ 103 → mset cP 103 1 0 i = cP i := fun i hi => mset_ne _ _ _ hi
  have kp : ∀ i, 12 ≤ i → i ≠ 87 → i ≠ 103 → i ≠ 105 → mset cP 103 1 0 i = c1 i := fun i x1 x2 x3 x4 => (k2 i x3).trans (keep i x1 x2 x3 x4)
  have hS' : zS (mset cP 103 1 0) (u 1) := by
    refine ⟨fun k hk => ?_, by rw [k2 87 (by decide)]; exact hS.2.1, by rw [k2 87 (by decide)]; exact hS.2.2⟩
    rw [rv_eq (k2 _ (by omega)) (k2 _ (by omega)) (k2 _ (by omega))]
    exact hS.1 k hk
  refine ⟨zSite_of (zOK_eq hok (fun i hi => k2 i (by omega))) hS' (by rw [k2 87 (by decide)]; exact eF) hF, ⟨b1, b2, by rw [kp _ (by omega) (by omega) (by omega) (by omega)]; exact b3, by rw [kp _ (by omega) (by omega) (by omega) (by omega)]; exact b4, by rw [h03]; exact b5, fun i hi => ?_⟩, by omega, by rw [mset_at]; rfl, by rw [h05]; rfl, fun i hi => absurd hi (Nat.not_lt_zero i)⟩
  have l6 : zSl q z i < 6 := Nat.mod_lt _ (by omega)
  exact zSite_congr (by omega) (fun k hk => rv_eq (kp _ (by omega) (by omega) (by omega) (by omega)) (kp _ (by omega) (by omega) (by omega) (by omega)) (kp _ (by omega) (by omega) (by omega) (by omega))) (fun j _ => by rw [h2]) (by rw [kp _ (by omega) (by omega) (by omega) (by omega)]) (by rw [kp _ (by omega) (by omega) (by omega) (by omega)]) (b6 i hi)
set_option maxHeartbeats 1000000 in
set_option maxRecDepth 100000 in
theorem k_mfirstError (l : Launch) (D : va_G) (am : Nat → Nat) (cI cR cS cL : ClassId) (dg : Int64) (mem : zM) {B : Nat} {cm : zM} {q z L : Nat} (hR : zR B cm mem q z L) : zMi l yX6_firstError wsX6_firstError ({ frames := 8, cells := 0, slots := 0, locals := 191 }) D (cK cI cR cS cL) [.ref (am 0)] (mw am cI dg mem) (fun r u => ∃ k, r = nI k ∧ pFF cm L k ∧ zR B (sFF cm L k) u q z L) (mw am cI dg) 0 0 := by
  refine zMiM.of (cc := cX6_firstError) (maxL := 2) (ret := (some .int)) (by decide +kernel) rfl (lv0 := [(0, .ref (am 0))]) (Nat.le_of_ble_eq_true rfl) rfl ?_
  intro p e s m args below meth c E hZ hr hlocks hnm
  refine z_aload_n E dX6_firstError_0 rfl 0 rfl ?_
  refine z_iconst (v := 0) E dX6_firstError_1 (by decide) ?_
  refine z_put E 0 mw_obj (C := RX6) (T := TX6) (N := 16) rfl (fun _ h => List.mem_cons_of_mem _ (List.mem_append_right _ h)) tyX6 tyX6_ok nmX6 0 (by decide) (List.mem_of_getElem? (i := 1) (by decide +kernel)) rfl rfl rfl rfl (Nat.le_of_ble_eq_true rfl) (ws' := mw am cI dg (mset mem 0 0 0)) (ms_obj 0 (by decide) (by decide) rfl) dX6_firstError_2 ?_
  refine z_gm2 (fun m1 hm1 => ?_)
  refine z_aload_n E dX6_firstError_5 rfl 0 rfl ?_
  refine z_iconst (v := 0) E dX6_firstError_6 (by decide) ?_
  have hL := hR.2.2.1
  have hcd := zR_cd hR
  have hRm : zR B cm m1 q z L := zR_fld hR (by rw [hm1, mset_ne _ _ _ (by decide)]) (by rw [hm1, mset_ne _ _ _ (by decide)]) (by rw [hm1, mset_ne _ _ _ (by decide)]) (by rw [hm1, mset_ne2 _ _ (by decide)]) (by rw [hm1, mset_ne2 _ _ (by decide)])
  refine z_callVi E hZ (k_thruF l D am cI cR cS cL dg m1 (L := L) hL hRm.2.2.2.2.1 (cs := cm 104) hcd (fun i hi => (hRm.2.2.2.2.2 i hi).1)) gX6_firstError_X6_goesThrough (n := 1) rfl rfl rfl (by decide +kernel) rfl ⟨(Nat.le_of_ble_eq_true rfl), (Nat.le_of_ble_eq_true rfl)⟩ (C := RX6) rfl 0 mw_obj (As := [.int 0]) (rest := []) rfl (Nat.le_of_ble_eq_true rfl) ⟨(Nat.le_of_ble_eq_true rfl), (Nat.le_of_ble_eq_true rfl)⟩ dX6_firstError_7 (fun r m2 hp => ?_)
  obtain ⟨zr, hth⟩ := hp
  generalize hrr : r = rv0
  have hRu : zR B cm m2 q z L := zR_rd hRm zr
  rcases hth with ⟨i11, k, i10, hno⟩ | ⟨i11, hyes⟩
  · skip
    refine z_istore_n (lv' := [(1, .int rv0), (0, .ref (am 0))]) E dX6_firstError_10 rfl (by decide) rfl ?_
    refine z_aload_n E dX6_firstError_11 rfl 1 rfl ?_
    refine z_get E 0 mw_obj (C := RX6) (T := TX6) (N := 16) rfl (fun _ h => List.mem_cons_of_mem _ (List.mem_append_right _ h)) 11 (by decide) (List.mem_of_getElem? (i := 2) (by decide +kernel)) rfl (v := .int 1) (congrArg (fun z : Int32 => some (Value.int z)) i11) dX6_firstError_12 ?_
    refine z_if_eq_f (tgt := 25) E dX6_firstError_15 (by decide) (by decide) ?_
    refine z_aload_n E dX6_firstError_18 rfl 1 rfl ?_
    refine z_get E 0 mw_obj (C := RX6) (T := TX6) (N := 16) rfl (fun _ h => List.mem_cons_of_mem _ (List.mem_append_right _ h)) 10 (by decide) (List.mem_of_getElem? (i := 3) (by decide +kernel)) rfl (v := .int (nI k)) (congrArg (fun z : Int32 => some (Value.int z)) i10) dX6_firstError_19 ?_
    refine z_goto (tgt := 29) E dX6_firstError_22 (by decide) ?_
    exact z_iretM E hr hlocks (m2) rfl ⟨k, rfl, zNo_ff hno, zR_ff hRu⟩ (Nat.le_of_ble_eq_true rfl) (Nat.le_of_ble_eq_true rfl) dX6_firstError_29
  · skip
    refine z_istore_n (lv' := [(1, .int rv0), (0, .ref (am 0))]) E dX6_firstError_10 rfl (by decide) rfl ?_
    refine z_aload_n E dX6_firstError_11 rfl 1 rfl ?_
    refine z_get E 0 mw_obj (C := RX6) (T := TX6) (N := 16) rfl (fun _ h => List.mem_cons_of_mem _ (List.mem_append_right _ h)) 11 (by decide) (List.mem_of_getElem? (i := 2) (by decide +kernel)) rfl (v := .int 0) (congrArg (fun z : Int32 => some (Value.int z)) i11) dX6_firstError_12 ?_
    refine z_if_eq_t (tgt := 25) E dX6_firstError_15 (by decide) (by decide) ?_
    refine z_aload_n E dX6_firstError_25 rfl 1 rfl ?_
    refine z_get E 0 mw_obj (C := RX6) (T := TX6) (N := 16) rfl (fun _ h => List.mem_cons_of_mem _ (List.mem_append_right _ h)) 5 (by decide) (List.mem_of_getElem? (i := 4) (by decide +kernel)) rfl (v := .int (nI L)) (congrArg (fun z : Int32 => some (Value.int z)) hRu.2.2.2.2.1) dX6_firstError_26 ?_
    exact z_iretM E hr hlocks (m2) rfl ⟨L, rfl, (zYes_wh hyes).1, zR_ff hRu⟩ (Nat.le_of_ble_eq_true rfl) (Nat.le_of_ble_eq_true rfl) dX6_firstError_29
theorem sSave_104 {c : zM} {q z : Nat} (hq : q < 6) : sSave c q z 104 = c 104 := by
  unfold sSave
  rw [mset_ne _ _ _ (by decide), mset_ne _ _ _ (by decide), sSiteCopy_ne (by omega) (by omega)]
set_option maxHeartbeats 1000000 in
set_option maxRecDepth 100000 in
theorem k_mplay (l : Launch) (D : va_G) (am : Nat → Nat) (cI cR cS cL : ClassId) (dg : Int64) (mem : zM) {B : Nat} {cm : zM} {q z L : Nat} (hR : zR B cm mem q z L) : zMi l yX6_play wsX6_play ({ frames := 8, cells := 0, slots := 0, locals := 191 }) D (cK cI cR cS cL) [.ref (am 0)] (mw am cI dg mem) (fun r u => (¬ zWh cm L ∧ u 0 0 = 1 ∧ ∀ k2, zR B (sFF cm L k2) u q z L) ∨ (zWh cm L ∧ u 0 0 = 0 ∧ r = nI (zPlay L 60 0 (mset (sSave (sFF cm L L) q z) 103 2 0)).1 ∧ ∃ q' z', zR (B + 180) (mset (zPlay L 60 0 (mset (sSave (sFF cm L L) q z) 103 2 0)).2 103 1 0) u q' z' 0)) (mw am cI dg) 0 0 := by
  refine zMiM.of (cc := cX6_play) (maxL := 2) (ret := (some .int)) (by decide +kernel) rfl (lv0 := [(0, .ref (am 0))]) (Nat.le_of_ble_eq_true rfl) rfl ?_
  intro p e s m args below meth c E hZ hr hlocks hnm
  refine z_aload_n E dX6_play_0 rfl 0 rfl ?_
  refine z_iconst (v := 0) E dX6_play_1 (by decide) ?_
  have hL := hR.2.2.1
  have hcd := zR_cd hR
  refine z_callVi E hZ (k_thruF l D am cI cR cS cL dg mem (L := L) hL hR.2.2.2.2.1 (cs := cm 104) hcd (fun i hi => (hR.2.2.2.2.2 i hi).1)) gX6_play_X6_goesThrough (n := 1) rfl rfl rfl (by decide +kernel) rfl ⟨(Nat.le_of_ble_eq_true rfl), (Nat.le_of_ble_eq_true rfl)⟩ (C := RX6) rfl 0 mw_obj (As := [.int 0]) (rest := []) rfl (Nat.le_of_ble_eq_true rfl) ⟨(Nat.le_of_ble_eq_true rfl), (Nat.le_of_ble_eq_true rfl)⟩ dX6_play_2 (fun r m1 hp => ?_)
  obtain ⟨zr, hth⟩ := hp
  generalize hrr : r = rv0
  have hRu : zR B cm m1 q z L := zR_rd hR zr
  rcases hth with ⟨i11, k, i10, hno⟩ | ⟨i11, hyes⟩
  · skip
    refine z_istore_n (lv' := [(1, .int rv0), (0, .ref (am 0))]) E dX6_play_5 rfl (by decide) rfl ?_
    refine z_aload_n E dX6_play_6 rfl 1 rfl ?_
    refine z_aload_n E dX6_play_7 rfl 1 rfl ?_
    refine z_get E 0 mw_obj (C := RX6) (T := TX6) (N := 16) rfl (fun _ h => List.mem_cons_of_mem _ (List.mem_append_right _ h)) 11 (by decide) (List.mem_of_getElem? (i := 1) (by decide +kernel)) rfl (v := .int 1) (congrArg (fun z : Int32 => some (Value.int z)) i11) dX6_play_8 ?_
    refine z_if_eq_f (tgt := 18) E dX6_play_11 (by decide) (by decide) ?_
    refine z_iconst (v := 1) E dX6_play_14 (by decide) ?_
    refine z_goto (tgt := 19) E dX6_play_15 (by decide) ?_
    refine z_callVi E hZ (k_holds l D am cI cR cS cL dg m1 1) gX6_play_X6_holds (n := 1) rfl rfl rfl (by decide +kernel) rfl ⟨(Nat.le_of_ble_eq_true rfl), (Nat.le_of_ble_eq_true rfl)⟩ (C := RX6) rfl 0 mw_obj (As := [.int 1]) (rest := []) rfl (Nat.le_of_ble_eq_true rfl) ⟨(Nat.le_of_ble_eq_true rfl), (Nat.le_of_ble_eq_true rfl)⟩ dX6_play_19 (fun r m2 hp => ?_)
    have hm2 := hp.2
    rw [hp.1, show (if (1 : Int32) = 0 then (1 : Int32) else 0) = 0 by decide]
    have hRh : zR B cm m2 q z L := zR_fld hRu (by rw [hm2, mset_ne _ _ _ (by decide)]) (by rw [hm2, mset_ne _ _ _ (by decide)]) (by rw [hm2, mset_ne _ _ _ (by decide)]) (by rw [hm2, mset_ne2 _ _ (by decide)]) (by rw [hm2, mset_ne2 _ _ (by decide)])
    have hR0 : zR B (sFF cm L L) m2 q z L := zR_ff hRh
    have hth : m2 0 0 = 1 := by rw [hm2, mset_at]
    refine z_if_ne_f (tgt := 27) E dX6_play_22 (by decide) (by decide) ?_
    refine z_iconst (v := 0) E dX6_play_25 (by decide) ?_
    exact z_iretM E hr hlocks (m2) rfl (Or.inl ⟨zNo_wh hno, hth, fun k2 => zR_ff hRh⟩) (Nat.le_of_ble_eq_true rfl) (Nat.le_of_ble_eq_true rfl) dX6_play_26
  · skip
    refine z_istore_n (lv' := [(1, .int rv0), (0, .ref (am 0))]) E dX6_play_5 rfl (by decide) rfl ?_
    refine z_aload_n E dX6_play_6 rfl 1 rfl ?_
    refine z_aload_n E dX6_play_7 rfl 1 rfl ?_
    refine z_get E 0 mw_obj (C := RX6) (T := TX6) (N := 16) rfl (fun _ h => List.mem_cons_of_mem _ (List.mem_append_right _ h)) 11 (by decide) (List.mem_of_getElem? (i := 1) (by decide +kernel)) rfl (v := .int 0) (congrArg (fun z : Int32 => some (Value.int z)) i11) dX6_play_8 ?_
    refine z_if_eq_t (tgt := 18) E dX6_play_11 (by decide) (by decide) ?_
    refine z_iconst (v := 0) E dX6_play_18 (by decide) ?_
    refine z_callVi E hZ (k_holds l D am cI cR cS cL dg m1 0) gX6_play_X6_holds (n := 1) rfl rfl rfl (by decide +kernel) rfl ⟨(Nat.le_of_ble_eq_true rfl), (Nat.le_of_ble_eq_true rfl)⟩ (C := RX6) rfl 0 mw_obj (As := [.int 0]) (rest := []) rfl (Nat.le_of_ble_eq_true rfl) ⟨(Nat.le_of_ble_eq_true rfl), (Nat.le_of_ble_eq_true rfl)⟩ dX6_play_19 (fun r m3 hp => ?_)
    have hm3 := hp.2
    rw [hp.1, show (if (0 : Int32) = 0 then (1 : Int32) else 0) = 1 by decide]
    have hRh : zR B cm m3 q z L := zR_fld hRu (by rw [hm3, mset_ne _ _ _ (by decide)]) (by rw [hm3, mset_ne _ _ _ (by decide)]) (by rw [hm3, mset_ne _ _ _ (by decide)]) (by rw [hm3, mset_ne2 _ _ (by decide)]) (by rw [hm3, mset_ne2 _ _ (by decide)])
    have hR0 : zR B (sFF cm L L) m3 q z L := zR_ff hRh
    have hth : m3 0 0 = 0 := by rw [hm3, mset_at]
    refine z_if_ne_t (tgt := 27) E dX6_play_22 (by decide) (by decide) ?_
    refine z_aload_n E dX6_play_27 rfl 1 rfl ?_
    refine z_callVv E hZ (k_msave l D am cI cR cS cL dg m3 hR0.2.1.2.1 hR0.2.1.2.2.2.2.1) gX6_play_X6_save (n := 0) rfl rfl rfl (by decide +kernel) rfl ⟨(Nat.le_of_ble_eq_true rfl), (Nat.le_of_ble_eq_true rfl)⟩ (C := RX6) rfl 0 mw_obj (As := []) (rest := []) rfl (Nat.le_of_ble_eq_true rfl) ⟨(Nat.le_of_ble_eq_true rfl), (Nat.le_of_ble_eq_true rfl)⟩ dX6_play_28 (fun m4 hp => ?_)
    have hR1 := zR_save hR0 hp.1 hp.2.2.2 hp.2.1 hp.2.2.1
    have th1 : m4 0 0 = 0 := by rw [hp.2.2.1, pk_un (by decide)]; exact hth
    obtain ⟨hok1, hS1⟩ := zSite_0 hR1.1
    refine z_aload_n E dX6_play_31 rfl 1 rfl ?_
    refine z_iconst (v := 1) E dX6_play_32 (by decide) ?_
    obtain ⟨c1, hc1⟩ : ∃ c1, c1 = mset (sSave (sFF cm L L) q z) 103 2 0 := ⟨_, rfl⟩
    have hR2 := zR_cl (c' := c1) hR1 (fun i h3 _ => by rw [hc1]; exact mset_ne _ _ _ h3) (by rw [hc1, mset_ne2 _ _ (by decide)])
    obtain ⟨hok2, hS2⟩ := zSite_0 hR2.1
    obtain ⟨F0, hF0, eF0⟩ := hR2.1.2.1
    have e104 : c1 104 = cm 104 := by rw [hc1, mset_ne _ _ _ (by decide), sSave_104 hR.2.1.1, sFF_ne (by decide)]
    refine z_callVi E hZ (k_thruT l D am cI cR cS cL dg m4 (L := L) hL hR2.2.2.2.2.1 (c0 := c1) (F0 := F0) (by rw [e104]; exact hcd) (fun i hi => (hR2.2.2.2.2.2 i hi).1) (by rw [e104]; exact hyes) hok2 hS2 eF0) gX6_play_X6_goesThrough (n := 1) rfl rfl rfl (by decide +kernel) rfl ⟨(Nat.le_of_ble_eq_true rfl), (Nat.le_of_ble_eq_true rfl)⟩ (C := RX6) rfl 0 mw_obj (As := [.int 1]) (rest := []) rfl (Nat.le_of_ble_eq_true rfl) ⟨(Nat.le_of_ble_eq_true rfl), (Nat.le_of_ble_eq_true rfl)⟩ dX6_play_33 (fun r m5 hp => ?_)
    obtain ⟨hr1, zf, hSP, hokP, keepP, k103, F1, hF1, eF1⟩ := hp
    rw [hr1]
    refine z_istore_n (lv' := [(1, .int (nI (zPlay L 60 0 c1).1)), (0, .ref (am 0))]) E dX6_play_36 rfl (by decide) rfl ?_
    refine z_aload_n E dX6_play_37 rfl 1 rfl ?_
    refine z_iconst (v := 0) E dX6_play_38 (by decide) ?_
    refine z_put E 0 mw_obj (C := RX6) (T := TX6) (N := 16) rfl (fun _ h => List.mem_cons_of_mem _ (List.mem_append_right _ h)) tyX6 tyX6_ok nmX6 5 (by decide) (List.mem_of_getElem? (i := 2) (by decide +kernel)) rfl rfl rfl rfl (Nat.le_of_ble_eq_true rfl) (ws' := mw am cI dg (mset m5 0 5 0)) (ms_obj 5 (by decide) (by decide) rfl) dX6_play_39 ?_
    refine z_gm2 (fun m6 hm6 => ?_)
    refine z_iload_n E dX6_play_42 rfl 0 rfl ?_
    exact z_iretM E hr hlocks (m6) rfl (by have hw := zYes_wh hyes; subst hc1; exact Or.inr ⟨hw, by rw [hm6, mset_ne2 _ _ (by decide), zf.2.2 0 (by omega)]; exact th1, rfl, _, _, zR_done hR2 (by rw [hm6, mset_ne _ _ _ (by decide)]; exact hSP) hokP keepP (by omega) eF1 (by rw [hm6, mset_ne _ _ _ (by decide)]; exact zf.1) (by rw [hm6, mset_ne _ _ _ (by decide)]; exact zf.2.1) (by rw [hm6, mset_ne2 _ _ (by decide)]; exact zf.2.2 3 (by omega)) (by rw [hm6, mset_at])⟩) (Nat.le_of_ble_eq_true rfl) (Nat.le_of_ble_eq_true rfl) dX6_play_43
