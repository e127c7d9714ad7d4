/-! the reference: the share, its bits -/
set_option maxHeartbeats 1000000 in
set_option maxRecDepth 100000 in
theorem k_mbits0 (l : Launch) (D : va_G) (am : Nat → Nat) (cI cR cS cL : ClassId) (dg : Int64) (mem : zM)  : zMl l yX6_bitsOf wsX6_bitsOf ({ frames := 0, cells := 0, slots := 0, locals := 0 }) D (cK cI cR cS cL) [.double 0] (mw am cI dg mem) (fun r u => r = 0 ∧ u = mem) (mw am cI dg) 0 0 := by
  refine zMlM.of (cc := cX6_bitsOf) (maxL := 6) (ret := (some .long)) (by decide +kernel) rfl (lv0 := [(0, .double 0)]) (Nat.le_of_ble_eq_true rfl) rfl ?_
  intro p e s m args below meth c E hZ hr hlocks hnm
  refine z_dload_n E dX6_bitsOf_0 rfl 0 rfl ?_
  refine z_dconst0 E dX6_bitsOf_1 ?_
  refine z_dcmp E dX6_bitsOf_2 ?_
  refine z_eq (ws' := mw am cI dg mem) (lv' := [(0, .double 0)]) (st' := [.int 0]) rfl rfl (by rw [zq_cmp00]; rfl) ?_
  refine z_if_ne_f (tgt := 8) E dX6_bitsOf_3 (by decide) (by decide) ?_
  refine z_lconst (v := 0) E dX6_bitsOf_6 (by decide) ?_
  exact z_lretM E hr hlocks (mem) rfl ⟨rfl, rfl⟩ (Nat.le_of_ble_eq_true rfl) (Nat.le_of_ble_eq_true rfl) dX6_bitsOf_7
set_option maxHeartbeats 1000000 in
set_option maxRecDepth 100000 in
theorem k_mbitsN (l : Launch) (D : va_G) (am : Nat → Nat) (cI cR cS cL : ClassId) (dg : Int64) (mem : zM) {v : UInt64} {n c : Nat} (hn : n ≤ 108) (hv : zN v c (-52 - (n : Int))) : zMl l yX6_bitsOf wsX6_bitsOf ({ frames := 0, cells := 0, slots := 0, locals := 0 }) D (cK cI cR cS cL) [.double v] (mw am cI dg mem) (fun r u => r = zBits n v ∧ u = mem) (mw am cI dg) 0 0 := by
  refine zMlM.of (cc := cX6_bitsOf) (maxL := 6) (ret := (some .long)) (by decide +kernel) rfl (lv0 := [(0, .double v)]) (Nat.le_of_ble_eq_true rfl) rfl ?_
  intro p e s m args below meth c E hZ hr hlocks hnm
  refine z_dload_n E dX6_bitsOf_0 rfl 0 rfl ?_
  refine z_dconst0 E dX6_bitsOf_1 ?_
  refine z_dcmp E dX6_bitsOf_2 ?_
  refine z_eq (ws' := mw am cI dg mem) (lv' := [(0, .double v)]) (st' := [.int 1]) rfl rfl (by rw [zq_cmp0 hv]; rfl) ?_
  refine z_if_ne_t (tgt := 8) E dX6_bitsOf_3 (by decide) (by decide) ?_
  refine z_ldc2 (v := 1023) E dX6_bitsOf_8 (List.mem_of_getElem? (i := 1) (by decide +kernel)) ?_
  refine z_lstore_n (lv' := [(2, .long 1023), (0, .double v)]) E dX6_bitsOf_11 rfl (by decide) rfl ?_
  refine z_dload_n E dX6_bitsOf_12 rfl 1 rfl ?_
  refine z_dstore (lv' := [(4, .double v), (2, .long 1023), (0, .double v)]) E dX6_bitsOf_13 (by decide) rfl ?_
  refine z_loop (σ := UInt64 × Nat) (fun n1 y => y.2 + n1 = n ∧ (∃ c, zN y.1 c (-52 - (n1 : Int))) ∧ zDbl n1 y.1 = zDbl n v) (fun _ => mw am cI dg mem) (fun y => [(4, .double y.1), (2, .long (Int64.ofNat (1023 - y.2))), (0, .double v)]) 15 0 0 ?_ n (v, 0) ⟨Nat.zero_add _, ⟨_, hv⟩, rfl⟩ rfl rfl rfl rfl rfl
  rintro n1 ⟨x, i⟩ ⟨hin, ⟨c0, hx⟩, hd⟩ ih
  dsimp only at hin hx hd ⊢
  rcases n1 with _ | n1
  · skip
    refine z_dload E dX6_bitsOf_15 0 rfl ?_
    refine z_dconst1 E dX6_bitsOf_17 ?_
    refine z_dcmp E dX6_bitsOf_18 ?_
    refine z_if_ge_t (tgt := 37) E dX6_bitsOf_19 (by decide) (show 0 ≤ Op.cmpValue (FP.dcmp x 4607182418800017408) .g by rcases zq_cmp1' (c := c0) (by simpa using hx) with q | q <;> rw [q] <;> decide) ?_
    refine z_lload_n E dX6_bitsOf_37 rfl 1 rfl ?_
    refine z_ldc2 (v := 4503599627370496) E dX6_bitsOf_38 (List.mem_of_getElem? (i := 3) (by decide +kernel)) ?_
    refine z_lmul E dX6_bitsOf_41 ?_
    refine z_dload E dX6_bitsOf_42 0 rfl ?_
    refine z_dconst1 E dX6_bitsOf_44 ?_
    refine z_dsub E dX6_bitsOf_45 (zN.n64' (zq_tail (c := c0) (by simpa using hx)).1) ?_
    refine z_ldc2d (v := 4841369599423283200) E dX6_bitsOf_46 (List.mem_of_getElem? (i := 4) (by decide +kernel)) ?_
    refine z_dmul E dX6_bitsOf_49 (zN.n64' (zq_tail (c := c0) (by simpa using hx)).2) ?_
    refine z_d2l E dX6_bitsOf_50 ?_
    refine z_ladd E dX6_bitsOf_51 ?_
    exact z_lretM E hr hlocks (mem) rfl ⟨by unfold zBits; rw [← hd, show i = n by omega]; rfl, rfl⟩ (Nat.le_of_ble_eq_true rfl) (Nat.le_of_ble_eq_true rfl) dX6_bitsOf_52
  · skip
    refine z_dload E dX6_bitsOf_15 0 rfl ?_
    refine z_dconst1 E dX6_bitsOf_17 ?_
    refine z_dcmp E dX6_bitsOf_18 ?_
    refine z_if_ge_f (tgt := 37) E dX6_bitsOf_19 (by decide) (show ¬ 0 ≤ Op.cmpValue (FP.dcmp x 4607182418800017408) .g by rw [zq_cmp1 hx (by omega) (by omega)]; decide) ?_
    refine z_dload E dX6_bitsOf_22 0 rfl ?_
    refine z_ldc2d (v := 4611686018427387904) E dX6_bitsOf_24 (List.mem_of_getElem? (i := 2) (by decide +kernel)) ?_
    refine z_dmul E dX6_bitsOf_27 (zq_two hx (by omega)).n64 ?_
    refine z_dstore (lv' := [(4, .double (FP.dmul x 4611686018427387904)), (2, .long (Int64.ofNat (1023 - i))), (0, .double v)]) E dX6_bitsOf_28 (by decide) rfl ?_
    refine z_lload_n E dX6_bitsOf_30 rfl 1 rfl ?_
    refine z_lconst (v := 1) E dX6_bitsOf_31 (by decide) ?_
    refine z_lsub E dX6_bitsOf_32 ?_
    refine z_lstore_n (lv' := [(2, .long ((Int64.ofNat (1023 - i)) - 1)), (4, .double (FP.dmul x 4611686018427387904)), (0, .double v)]) E dX6_bitsOf_33 rfl (by decide) rfl ?_
    refine z_goto (tgt := 15) E dX6_bitsOf_34 (by decide) ?_
    refine z_lv [1, 0, 2] (lv' := [(4, .double (FP.dmul x 4611686018427387904)), (2, .long ((Int64.ofNat (1023 - i)) - 1)), (0, .double v)]) rfl ?_
    refine z_eq (ws' := mw am cI dg mem) (lv' := [(4, .double (FP.dmul x 4611686018427387904)), (2, .long (Int64.ofNat (1023 - (i + 1)))), (0, .double v)]) (st' := []) rfl (by rw [zExp i (by omega)]) rfl ?_
    exact ih n1 (FP.dmul x 4611686018427387904, i + 1) (by omega) ⟨by show i + 1 + n1 = n; omega, ⟨c0, by show zN (FP.dmul x 4611686018427387904) c0 (-52 - (n1 : Int)); have := zq_two hx (by omega); rw [show -52 - ((n1 + 1 : Nat) : Int) + 1 = -52 - (n1 : Int) by omega] at this; exact this⟩, hd⟩
theorem k_mbits (l : Launch) (D : va_G) (am : Nat → Nat) (cI cR cS cL : ClassId) (dg : Int64) (mem : zM) {v : UInt64} (hv : zShare v) : zMl l yX6_bitsOf wsX6_bitsOf ({ frames := 0, cells := 0, slots := 0, locals := 0 }) D (cK cI cR cS cL) [.double v] (mw am cI dg mem) (fun r u => zBitsR v r ∧ u = mem) (mw am cI dg) 0 0 := by
  rcases hv with h | ⟨c, q, h, h1, h2⟩
  · subst h
    exact zMl_mono (k_mbits0 l D am cI cR cS cL dg mem) (fun r u hp => ⟨Or.inl ⟨rfl, hp.1⟩, hp.2⟩)
  · obtain ⟨n, hn⟩ : ∃ n : Nat, q = -52 - (n : Int) := ⟨(-52 - q).toNat, by omega⟩
    subst hn
    exact zMl_mono (k_mbitsN l D am cI cR cS cL dg mem (n := n) (by omega) h) (fun r u hp => ⟨Or.inr ⟨c, n, h, by omega, hp.1⟩, hp.2⟩)
set_option maxHeartbeats 1000000 in
set_option maxRecDepth 100000 in
theorem k_mshare (l : Launch) (D : va_G) (am : Nat → Nat) (cI cR cS cL : ClassId) (dg : Int64) (mem : zM) {cm : zM} (hok : zOK cm) (hS : zS cm (mem 1)) (hnn : ¬ fPeople cm 0 + cm 87 1 = 0 → vf_n64 (FP.ddiv (FP.i2d (fPeople cm 0)) (FP.i2d (fPeople cm 0 + cm 87 1)))) : zMd l yX6_share wsX6_share ({ frames := 6, cells := 0, slots := 0, locals := 142 }) D (cK cI cR cS cL) [.ref (am 0)] (mw am cI dg mem) (fun r u => r = fSafe cm ∧ zScr mem u) (mw am cI dg) 0 0 := by
  refine zMdM.of (cc := cX6_share) (maxL := 2) (ret := (some .double)) (by decide +kernel) rfl (lv0 := [(0, .ref (am 0))]) (Nat.le_of_ble_eq_true rfl) rfl ?_
  intro p e s m args below meth c E hZ hr hlocks hnm
  refine z_aload_n E dX6_share_0 rfl 0 rfl ?_
  refine z_bipush (v := 6) E dX6_share_1 (by decide) ?_
  refine z_callVi E hZ (k_msum6 l D am cI cR cS cL dg mem hok hS) gX6_share_X6_sumOf (n := 1) rfl rfl rfl (by decide +kernel) rfl ⟨(Nat.le_of_ble_eq_true rfl), (Nat.le_of_ble_eq_true rfl)⟩ (C := RX6) rfl 0 mw_obj (As := [.int 6]) (rest := []) rfl (Nat.le_of_ble_eq_true rfl) ⟨(Nat.le_of_ble_eq_true rfl), (Nat.le_of_ble_eq_true rfl)⟩ dX6_share_3 (fun r m1 hp => ?_)
  rw [hp.1]
  have sm1 : zScr mem m1 := hp.2
  have h56 : m1 1 56 = cm 87 1 := by rw [sm1.s]; exact hS.2.1
  refine z_istore_n (lv' := [(1, .int (fPeople cm 0)), (0, .ref (am 0))]) E dX6_share_6 rfl (by decide) rfl ?_
  refine z_iload_n E dX6_share_7 rfl 0 rfl ?_
  refine z_aload_n E dX6_share_8 rfl 1 rfl ?_
  refine z_get E 0 mw_obj (C := RX6) (T := TX6) (N := 16) rfl (fun _ h => List.mem_cons_of_mem _ (List.mem_append_right _ h)) 1 (by decide) (List.mem_of_getElem? (i := 1) (by decide +kernel)) rfl (v := .ref (am 1)) rfl dX6_share_9 ?_
  refine z_bipush (v := 56) E dX6_share_12 (by decide) ?_
  refine z_iald E 1 0 mw_s rfl (zvin rfl) (v := cm 87 1) h56 dX6_share_14 ?_
  refine z_iadd E dX6_share_15 ?_
  refine z_if_ne (tgt := 23) E dX6_share_16 (by decide) (fun c16 => ?_) (fun c16 => ?_)
  · skip
    refine z_iload_n E dX6_share_23 rfl 0 rfl ?_
    refine z_i2d E dX6_share_24 ?_
    refine z_iload_n E dX6_share_25 rfl 0 rfl ?_
    refine z_aload_n E dX6_share_26 rfl 1 rfl ?_
    refine z_get E 0 mw_obj (C := RX6) (T := TX6) (N := 16) rfl (fun _ h => List.mem_cons_of_mem _ (List.mem_append_right _ h)) 1 (by decide) (List.mem_of_getElem? (i := 1) (by decide +kernel)) rfl (v := .ref (am 1)) rfl dX6_share_27 ?_
    refine z_bipush (v := 56) E dX6_share_30 (by decide) ?_
    refine z_iald E 1 0 mw_s rfl (zvin rfl) (v := cm 87 1) h56 dX6_share_32 ?_
    refine z_iadd E dX6_share_33 ?_
    refine z_i2d E dX6_share_34 ?_
    refine z_ddiv E dX6_share_35 (hnn c16) ?_
    exact z_dretM E hr hlocks (m1) rfl ⟨(if_neg c16).symm, sm1⟩ (Nat.le_of_ble_eq_true rfl) (Nat.le_of_ble_eq_true rfl) dX6_share_36
  · skip
    refine z_dconst1 E dX6_share_19 ?_
    refine z_goto (tgt := 36) E dX6_share_20 (by decide) ?_
    exact z_dretM E hr hlocks (m1) rfl ⟨(if_pos c16).symm, sm1⟩ (Nat.le_of_ble_eq_true rfl) (Nat.le_of_ble_eq_true rfl) dX6_share_36
set_option maxHeartbeats 1000000 in
set_option maxRecDepth 100000 in
theorem k_msafety (l : Launch) (D : va_G) (am : Nat → Nat) (cI cR cS cL : ClassId) (dg : Int64) (mem : zM) {cm : zM} (hok : zOK cm) (hS : zS cm (mem 1)) (hnn : ¬ fPeople cm 0 + cm 87 1 = 0 → vf_n64 (FP.ddiv (FP.i2d (fPeople cm 0)) (FP.i2d (fPeople cm 0 + cm 87 1)))) : zMd l yX6_safety wsX6_safety ({ frames := 7, cells := 0, slots := 0, locals := 163 }) D (cK cI cR cS cL) [.ref (am 0)] (mw am cI dg mem) (fun r u => r = fSafe cm ∧ zScr (mset mem 0 0 0) u) (mw am cI dg) 0 0 := by
  refine zMdM.of (cc := cX6_safety) (maxL := 1) (ret := (some .double)) (by decide +kernel) rfl (lv0 := [(0, .ref (am 0))]) (Nat.le_of_ble_eq_true rfl) rfl ?_
  intro p e s m args below meth c E hZ hr hlocks hnm
  refine z_aload_n E dX6_safety_0 rfl 0 rfl ?_
  refine z_iconst (v := 0) E dX6_safety_1 (by decide) ?_
  refine z_put E 0 mw_obj (C := RX6) (T := TX6) (N := 16) rfl (fun _ h => List.mem_cons_of_mem _ (List.mem_append_right _ h)) tyX6 tyX6_ok nmX6 0 (by decide) (List.mem_of_getElem? (i := 1) (by decide +kernel)) rfl rfl rfl rfl (Nat.le_of_ble_eq_true rfl) (ws' := mw am cI dg (mset mem 0 0 0)) (ms_obj 0 (by decide) (by decide) rfl) dX6_safety_2 ?_
  refine z_gm2 (fun m1 hm1 => ?_)
  refine z_aload_n E dX6_safety_5 rfl 0 rfl ?_
  have hSm : zS cm (m1 1) := by rw [hm1, mset_ne _ _ _ (by decide)]; exact hS
  refine z_callVd E hZ (k_mshare l D am cI cR cS cL dg m1 hok hSm hnn) gX6_safety_X6_share (n := 0) rfl rfl rfl (by decide +kernel) rfl ⟨(Nat.le_of_ble_eq_true rfl), (Nat.le_of_ble_eq_true rfl)⟩ (C := RX6) rfl 0 mw_obj (As := []) (rest := []) rfl (Nat.le_of_ble_eq_true rfl) ⟨(Nat.le_of_ble_eq_true rfl), (Nat.le_of_ble_eq_true rfl)⟩ dX6_safety_6 (fun r m2 hp => ?_)
  rw [hp.1]
  have sm2 : zScr (mset mem 0 0 0) m2 := by rw [← hm1]; exact hp.2
  exact z_dretM E hr hlocks (m2) rfl ⟨rfl, sm2⟩ (Nat.le_of_ble_eq_true rfl) (Nat.le_of_ble_eq_true rfl) dX6_safety_9
