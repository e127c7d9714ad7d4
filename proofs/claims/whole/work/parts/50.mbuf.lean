/-! the reference: the buffer, undo -/
def cdA (E : String) : Int32 := if E = "java/lang/IllegalArgumentException" then 1 else 2
theorem zR_cells {B : Nat} {c c' mm u : zM} {q z L : Nat} (h : zR B c mm q z L) (hc : ∀ i, i < 103 → c' i = c i) (h1 : u 1 = mm 1) (h2 : u 2 = mm 2) (h4 : u 0 3 = mm 0 3) : zSite B c' 0 (u 1) ∧ zH B c' u q z := by
  obtain ⟨a1, ⟨b1, b2, b3, b4, b5, b6⟩, -⟩ := h
  have key : ∀ t s, t < 7 → zSite B c t s → zSite B c' t s := fun t s ht7 hs => zSite_congr (Nat.le_refl B) (fun k hk => rv_eq (hc _ (by omega)) (hc _ (by omega)) (hc _ (by omega))) (fun _ _ => rfl) (by rw [hc _ (by omega)]) (by rw [hc _ (by omega)]) hs
  exact ⟨by rw [h1]; exact key 0 _ (by omega) a1, b1, b2, by rw [hc _ (by omega)]; exact b3, by rw [hc _ (by omega)]; exact b4, by rw [h4]; exact b5, fun i hi => by rw [h2]; exact key _ _ (zSl_lt q z i) (b6 i hi)⟩
theorem zR_append {B n : Nat} {c mm u : zM} {q z L : Nat} (h : zR B c mm q z L) (hL : L < 60) (n1 : 33 ≤ n) (n2 : n ≤ 126) (h1 : u 1 = mm 1) (h2 : u 2 = mm 2) (h4 : u 0 3 = mm 0 3) (h5 : u 0 5 = nI L + 1) (h3 : u 3 = upd (mm 3) L (nI n)) : zR B (mset (mset c 104 L (nI n)) 103 1 (nI L + 1)) u q z (L + 1) := by
  obtain ⟨r1, r2⟩ := zR_cells (c' := mset (mset c 104 L (nI n)) 103 1 (nI L + 1)) h (fun i hi => by rw [mset_ne _ _ _ (by omega), mset_ne _ _ _ (by omega)]) h1 h2 h4
  obtain ⟨-, -, d1, d2, d3, d4⟩ := h
  refine ⟨r1, r2, by omega, by rw [mset_at, nI_1], by rw [h5, nI_1], fun i hi => ?_⟩
  rw [h3, mset_ne _ _ _ (show 104 ≠ 103 by decide), mset_self]
  by_cases e : i = L
  · subst e; rw [pk_us, pk_us]; exact ⟨rfl, n, n1, n2, rfl⟩
  · rw [pk_un e, pk_un e]; exact d4 i (by omega)
theorem zR_clear {B : Nat} {c mm u : zM} {q z L : Nat} (h : zR B c mm q z L) (h1 : u 1 = mm 1) (h2 : u 2 = mm 2) (h4 : u 0 3 = mm 0 3) (h5 : u 0 5 = 0) : zR B (mset c 103 1 0) u q z 0 := by
  obtain ⟨r1, r2⟩ := zR_cells (c' := mset c 103 1 0) h (fun i hi => by rw [mset_ne _ _ _ (by omega)]) h1 h2 h4
  exact ⟨r1, r2, by omega, mset_at _ _ _ _, h5, fun i hi => absurd hi (Nat.not_lt_zero i)⟩
theorem fWFull_60 {c : zM} {L : Nat} (hL : L ≤ 60) (h : c 103 1 = nI L) : nI L = 60 ↔ ¬ fWFull c = 0 := by
  unfold fWFull
  rw [h]
  by_cases q : L < 60
  · rw [if_pos (show nI L < 60 from (nI_ltI (a := L) (b := 60) (by omega) (by omega)).mpr q)]
    exact ⟨fun e => by have := (nI_eq (a := L) (b := 60) (by omega) (by omega)).mp e; omega, fun e => absurd rfl e⟩
  · rw [if_neg (show ¬ nI L < 60 from fun z => q ((nI_ltI (a := L) (b := 60) (by omega) (by omega)).mp z))]
    have : L = 60 := by omega
    subst this
    exact ⟨fun _ => by decide, fun _ => rfl⟩
theorem sWAdd_of {c : zM} {L : Nat} {v : Int32} (hL : L < 60) (h : c 103 1 = nI L) : sWAdd c v = mset (mset c 104 L v) 103 1 (nI L + 1) := by
  unfold sWAdd
  rw [h, if_neg (nI_pos (by omega)), if_neg (show ¬ (60 : Int32) ≤ nI L from fun z => by have := (nI_leI (a := 60) (b := L) (by omega) (by omega)).mp z; omega), nI_clamp (by omega)]
set_option maxHeartbeats 1000000 in
set_option maxRecDepth 100000 in
theorem k_mappend (l : Launch) (D : va_G) (am : Nat → Nat) (cI cR cS cL : ClassId) (dg : Int64) (mem : zM) {B : Nat} {cm : zM} {q z L : Nat} (hR : zR B cm mem q z L) (x : Int32) : zMi l yX6_append wsX6_append ({ frames := 1, cells := 0, slots := 0, locals := 22 }) D (cK cI cR cS cL) [.ref (am 0), .int x] (mw am cI dg mem) (fun r u => mAns cdA (fun c' => ∃ q' z' L', zR (B + 180) c' u q' z' L') (sAppend cm x) r (u 0 0)) (mw am cI dg) 0 0 := by
  refine zMiM.of (cc := cX6_append) (maxL := 2) (ret := (some .int)) (by decide +kernel) rfl (lv0 := [(0, .ref (am 0)), (1, .int x)]) (Nat.le_of_ble_eq_true rfl) rfl ?_
  intro p e s m args below meth c E hZ hr hlocks hnm
  have hlen : mem 0 5 = nI L := hR.2.2.2.2.1
  refine z_aload_n E dX6_append_0 rfl 0 rfl ?_
  refine z_iload_n E dX6_append_1 rfl 1 rfl ?_
  refine z_bipush (v := 33) E dX6_append_2 (by decide) ?_
  refine z_bipush (v := 126) E dX6_append_4 (by decide) ?_
  refine z_callSi E hZ (k_in l D am cI cR cS cL dg mem x 33 126) gX6_append_X6_in (n := 3) rfl rfl rfl (by decide +kernel) rfl ⟨Nat.le_of_ble_eq_true rfl, Nat.le_of_ble_eq_true rfl⟩ (As := [.int x, .int 33, .int 126]) (rest := [.ref (am 0)]) rfl (Nat.le_of_ble_eq_true rfl) ⟨Nat.le_of_ble_eq_true rfl, Nat.le_of_ble_eq_true rfl⟩ dX6_append_6 (fun r u hp => ?_)
  rw [hp.1, hp.2]
  by_cases hg : x < 33 ∨ 126 < x
  · skip
    rw [fIn_0 hg]
    refine z_if_ne_f (tgt := 16) E dX6_append_9 (by decide) (by decide) ?_
    refine z_iconst (v := 1) E dX6_append_12 (by decide) ?_
    refine z_goto (tgt := 30) E dX6_append_13 (by decide) ?_
    refine z_callVi E hZ (k_holds l D am cI cR cS cL dg mem 1) gX6_append_X6_holds (n := 1) rfl rfl rfl (by decide +kernel) rfl ⟨(Nat.le_of_ble_eq_true rfl), (Nat.le_of_ble_eq_true rfl)⟩ (C := RX6) rfl 0 mw_obj (As := [.int 1]) (rest := []) rfl (Nat.le_of_ble_eq_true rfl) ⟨(Nat.le_of_ble_eq_true rfl), (Nat.le_of_ble_eq_true rfl)⟩ dX6_append_30 (fun r m1 hp => ?_)
    have hm1 := hp.2
    rw [hp.1, show (if (1 : Int32) = 0 then (1 : Int32) else 0) = 0 by decide]
    have hR0 : zR B cm m1 q z L := zR_fld hR (by rw [hm1, mset_ne _ _ _ (by decide)]) (by rw [hm1, mset_ne _ _ _ (by decide)]) (by rw [hm1, mset_ne _ _ _ (by decide)]) (by rw [hm1, mset_ne2 _ _ (by decide)]) (by rw [hm1, mset_ne2 _ _ (by decide)])
    have hth : m1 0 0 = 1 := by rw [hm1, mset_at]
    refine z_if_ne_f (tgt := 38) E dX6_append_33 (by decide) (by decide) ?_
    refine z_iconst (v := 0) E dX6_append_36 (by decide) ?_
    exact z_iretM E hr hlocks (m1) rfl (Or.inl ⟨"java/lang/IllegalArgumentException", cm, if_pos hg, hth, q, z, L, zR_mono (by omega) hR0⟩) (Nat.le_of_ble_eq_true rfl) (Nat.le_of_ble_eq_true rfl) dX6_append_37
  · skip
    rw [fIn_1 hg]
    refine z_if_ne_t (tgt := 16) E dX6_append_9 (by decide) (by decide) ?_
    refine z_aload_n E dX6_append_16 rfl 0 rfl ?_
    refine z_get E 0 mw_obj (C := RX6) (T := TX6) (N := 16) rfl (fun _ h => List.mem_cons_of_mem _ (List.mem_append_right _ h)) 5 (by decide) (List.mem_of_getElem? (i := 1) (by decide +kernel)) rfl (v := .int (nI L)) (congrArg (fun z : Int32 => some (Value.int z)) hlen) dX6_append_17 ?_
    refine z_bipush (v := 60) E dX6_append_20 (by decide) ?_
    refine z_icmp_ne (tgt := 29) E dX6_append_22 (by decide) (fun c22 => ?_) (fun c22 => ?_)
    · skip
      refine z_iconst (v := 0) E dX6_append_29 (by decide) ?_
      refine z_callVi E hZ (k_holds l D am cI cR cS cL dg mem 0) gX6_append_X6_holds (n := 1) rfl rfl rfl (by decide +kernel) rfl ⟨(Nat.le_of_ble_eq_true rfl), (Nat.le_of_ble_eq_true rfl)⟩ (C := RX6) rfl 0 mw_obj (As := [.int 0]) (rest := []) rfl (Nat.le_of_ble_eq_true rfl) ⟨(Nat.le_of_ble_eq_true rfl), (Nat.le_of_ble_eq_true rfl)⟩ dX6_append_30 (fun r m2 hp => ?_)
      have hm2 := hp.2
      rw [hp.1, show (if (0 : Int32) = 0 then (1 : Int32) else 0) = 1 by decide]
      have hR0 : zR B cm m2 q z L := zR_fld hR (by rw [hm2, mset_ne _ _ _ (by decide)]) (by rw [hm2, mset_ne _ _ _ (by decide)]) (by rw [hm2, mset_ne _ _ _ (by decide)]) (by rw [hm2, mset_ne2 _ _ (by decide)]) (by rw [hm2, mset_ne2 _ _ (by decide)])
      have hth : m2 0 0 = 0 := by rw [hm2, mset_at]
      refine z_if_ne_t (tgt := 38) E dX6_append_33 (by decide) (by decide) ?_
      have hlen2 : m2 0 5 = nI L := hR0.2.2.2.2.1
      have hF : fWFull cm = 0 := Decidable.not_not.mp (fun q => c22 ((fWFull_60 hR.2.2.1 hR.2.2.2.1).mpr q))
      have hL60 : L < 60 := Nat.lt_of_le_of_ne hR.2.2.1 (fun q => c22 (by rw [q]; rfl))
      obtain ⟨n, hn126, rfl⟩ : ∃ n, n ≤ 126 ∧ x = nI n := nI_of2 (by decide) (fun a => hg (Or.inl (Int32.lt_of_lt_of_le a (by decide)))) (Int32.not_lt.mp (fun a => hg (Or.inr a)))
      have hn33 : 33 ≤ n := Nat.le_of_not_lt (fun a => hg (Or.inl ((nI_ltI (a := n) (b := 33) (by omega) (by omega)).mpr a)))
      refine z_aload_n E dX6_append_38 rfl 0 rfl ?_
      refine z_get E 0 mw_obj (C := RX6) (T := TX6) (N := 16) rfl (fun _ h => List.mem_cons_of_mem _ (List.mem_append_right _ h)) 4 (by decide) (List.mem_of_getElem? (i := 2) (by decide +kernel)) rfl (v := .ref (am 3)) rfl dX6_append_39 ?_
      refine z_aload_n E dX6_append_42 rfl 0 rfl ?_
      refine z_get E 0 mw_obj (C := RX6) (T := TX6) (N := 16) rfl (fun _ h => List.mem_cons_of_mem _ (List.mem_append_right _ h)) 5 (by decide) (List.mem_of_getElem? (i := 1) (by decide +kernel)) rfl (v := .int (nI L)) (congrArg (fun z : Int32 => some (Value.int z)) hlen2) dX6_append_43 ?_
      refine z_iload_n E dX6_append_46 rfl 1 rfl ?_
      refine z_iast E 3 0 mw_text rfl (vp_in_nI (by omega) (by decide)) (ws' := mw am cI dg (mset m2 3 L (nI n))) (by rw [nI_clamp (by omega)]; exact (ms_text L (nI n))) dX6_append_47 ?_
      refine z_gm2 (fun m3 hm3 => ?_)
      have xm3_0 : m3 0 5 = nI L := by rw [hm3, mset_ne _ _ _ (by omega)]; exact hlen2
      refine z_aload_n E dX6_append_48 rfl 0 rfl ?_
      refine z_dup E dX6_append_49 rfl ?_
      refine z_get E 0 mw_obj (C := RX6) (T := TX6) (N := 16) rfl (fun _ h => List.mem_cons_of_mem _ (List.mem_append_right _ h)) 5 (by decide) (List.mem_of_getElem? (i := 1) (by decide +kernel)) rfl (v := .int (nI L)) (congrArg (fun z : Int32 => some (Value.int z)) xm3_0) dX6_append_50 ?_
      refine z_iconst (v := 1) E dX6_append_53 (by decide) ?_
      refine z_iadd E dX6_append_54 ?_
      refine z_put E 0 mw_obj (C := RX6) (T := TX6) (N := 16) rfl (fun _ h => List.mem_cons_of_mem _ (List.mem_append_right _ h)) tyX6 tyX6_ok nmX6 5 (by decide) (List.mem_of_getElem? (i := 1) (by decide +kernel)) rfl rfl rfl rfl (Nat.le_of_ble_eq_true rfl) (ws' := mw am cI dg (mset m3 0 5 ((nI L) + 1))) (ms_obj 5 (by decide) (by decide) rfl) dX6_append_55 ?_
      refine z_gm2 (fun m4 hm4 => ?_)
      have xm4_0 : m4 0 5 = (nI L) + 1 := by rw [hm4, mset_at]
      refine z_aload_n E dX6_append_58 rfl 0 rfl ?_
      refine z_get E 0 mw_obj (C := RX6) (T := TX6) (N := 16) rfl (fun _ h => List.mem_cons_of_mem _ (List.mem_append_right _ h)) 5 (by decide) (List.mem_of_getElem? (i := 1) (by decide +kernel)) rfl (v := .int ((nI L) + 1)) (congrArg (fun z : Int32 => some (Value.int z)) xm4_0) dX6_append_59 ?_
      exact z_iretM E hr hlocks (m4) rfl (Or.inr ⟨_, _, (if_neg hg).trans (if_pos hF), by rw [hm4, mset_ne2 _ _ (by decide), hm3, mset_ne _ _ _ (by decide)]; exact hth, by rw [sWAdd_of hL60 hR.2.2.2.1, mset_at], q, z, L + 1, by rw [sWAdd_of hL60 hR.2.2.2.1]; exact zR_mono (by omega) (zR_append hR0 hL60 hn33 hn126 (by rw [hm4, mset_ne _ _ _ (by decide), hm3, mset_ne _ _ _ (by decide)]) (by rw [hm4, mset_ne _ _ _ (by decide), hm3, mset_ne _ _ _ (by decide)]) (by rw [hm4, mset_ne2 _ _ (by decide), hm3, mset_ne _ _ _ (by decide)]) (by rw [hm4, mset_at]) (by rw [hm4, mset_ne _ _ _ (by decide), hm3, mset_self]))⟩) (Nat.le_of_ble_eq_true rfl) (Nat.le_of_ble_eq_true rfl) dX6_append_62
    · skip
      refine z_iconst (v := 2) E dX6_append_25 (by decide) ?_
      refine z_goto (tgt := 30) E dX6_append_26 (by decide) ?_
      refine z_callVi E hZ (k_holds l D am cI cR cS cL dg mem 2) gX6_append_X6_holds (n := 1) rfl rfl rfl (by decide +kernel) rfl ⟨(Nat.le_of_ble_eq_true rfl), (Nat.le_of_ble_eq_true rfl)⟩ (C := RX6) rfl 0 mw_obj (As := [.int 2]) (rest := []) rfl (Nat.le_of_ble_eq_true rfl) ⟨(Nat.le_of_ble_eq_true rfl), (Nat.le_of_ble_eq_true rfl)⟩ dX6_append_30 (fun r m5 hp => ?_)
      have hm5 := hp.2
      rw [hp.1, show (if (2 : Int32) = 0 then (1 : Int32) else 0) = 0 by decide]
      have hR0 : zR B cm m5 q z L := zR_fld hR (by rw [hm5, mset_ne _ _ _ (by decide)]) (by rw [hm5, mset_ne _ _ _ (by decide)]) (by rw [hm5, mset_ne _ _ _ (by decide)]) (by rw [hm5, mset_ne2 _ _ (by decide)]) (by rw [hm5, mset_ne2 _ _ (by decide)])
      have hth : m5 0 0 = 2 := by rw [hm5, mset_at]
      refine z_if_ne_f (tgt := 38) E dX6_append_33 (by decide) (by decide) ?_
      refine z_iconst (v := 0) E dX6_append_36 (by decide) ?_
      exact z_iretM E hr hlocks (m5) rfl (Or.inl ⟨"java/lang/IllegalStateException", cm, (if_neg hg).trans (if_neg ((fWFull_60 hR.2.2.1 hR.2.2.2.1).mp c22)), hth, q, z, L, zR_mono (by omega) hR0⟩) (Nat.le_of_ble_eq_true rfl) (Nat.le_of_ble_eq_true rfl) dX6_append_37
set_option maxHeartbeats 1000000 in
set_option maxRecDepth 100000 in
theorem k_mclear (l : Launch) (D : va_G) (am : Nat → Nat) (cI cR cS cL : ClassId) (dg : Int64) (mem : zM) {B : Nat} {cm : zM} {q z L : Nat} (hR : zR B cm mem q z L) : zMi l yX6_clearBuffer wsX6_clearBuffer ({ frames := 0, cells := 0, slots := 0, locals := 0 }) D (cK cI cR cS cL) [.ref (am 0)] (mw am cI dg mem) (fun r u => r = cm 103 1 ∧ zR B (mset cm 103 1 0) u q z 0) (mw am cI dg) 0 0 := by
  refine zMiM.of (cc := cX6_clearBuffer) (maxL := 2) (ret := (some .int)) (by decide +kernel) rfl (lv0 := [(0, .ref (am 0))]) (Nat.le_of_ble_eq_true rfl) rfl ?_
  intro p e s m args below meth c E hZ hr hlocks hnm
  have hlen : mem 0 5 = nI L := hR.2.2.2.2.1
  refine z_aload_n E dX6_clearBuffer_0 rfl 0 rfl ?_
  refine z_iconst (v := 0) E dX6_clearBuffer_1 (by decide) ?_
  refine z_put E 0 mw_obj (C := RX6) (T := TX6) (N := 16) rfl (fun _ h => List.mem_cons_of_mem _ (List.mem_append_right _ h)) tyX6 tyX6_ok nmX6 0 (by decide) (List.mem_of_getElem? (i := 1) (by decide +kernel)) rfl rfl rfl rfl (Nat.le_of_ble_eq_true rfl) (ws' := mw am cI dg (mset mem 0 0 0)) (ms_obj 0 (by decide) (by decide) rfl) dX6_clearBuffer_2 ?_
  refine z_gm2 (fun m1 hm1 => ?_)
  have xm1_0 : m1 0 5 = nI L := by rw [hm1, mset_ne2 _ _ (by decide)]; exact hlen
  refine z_aload_n E dX6_clearBuffer_5 rfl 0 rfl ?_
  refine z_get E 0 mw_obj (C := RX6) (T := TX6) (N := 16) rfl (fun _ h => List.mem_cons_of_mem _ (List.mem_append_right _ h)) 5 (by decide) (List.mem_of_getElem? (i := 2) (by decide +kernel)) rfl (v := .int (nI L)) (congrArg (fun z : Int32 => some (Value.int z)) xm1_0) dX6_clearBuffer_6 ?_
  refine z_istore_n (lv' := [(1, .int (nI L)), (0, .ref (am 0))]) E dX6_clearBuffer_9 rfl (by decide) rfl ?_
  refine z_aload_n E dX6_clearBuffer_10 rfl 1 rfl ?_
  refine z_iconst (v := 0) E dX6_clearBuffer_11 (by decide) ?_
  refine z_put E 0 mw_obj (C := RX6) (T := TX6) (N := 16) rfl (fun _ h => List.mem_cons_of_mem _ (List.mem_append_right _ h)) tyX6 tyX6_ok nmX6 5 (by decide) (List.mem_of_getElem? (i := 2) (by decide +kernel)) rfl rfl rfl rfl (Nat.le_of_ble_eq_true rfl) (ws' := mw am cI dg (mset m1 0 5 0)) (ms_obj 5 (by decide) (by decide) rfl) dX6_clearBuffer_12 ?_
  refine z_gm2 (fun m2 hm2 => ?_)
  have xm2_0 : m2 0 5 = 0 := by rw [hm2, mset_at]
  refine z_iload_n E dX6_clearBuffer_15 rfl 0 rfl ?_
  exact z_iretM E hr hlocks (m2) rfl ⟨hR.2.2.2.1.symm, zR_clear hR (by rw [hm2, mset_ne _ _ _ (by decide), hm1, mset_ne _ _ _ (by decide)]) (by rw [hm2, mset_ne _ _ _ (by decide), hm1, mset_ne _ _ _ (by decide)]) (by rw [hm2, mset_ne2 _ _ (by decide), hm1, mset_ne2 _ _ (by decide)]) (by rw [hm2, mset_at])⟩ (Nat.le_of_ble_eq_true rfl) (Nat.le_of_ble_eq_true rfl) dX6_clearBuffer_16
