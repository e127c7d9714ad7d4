/-! the reference: a part is done -/
theorem nI_sub1 {n : Nat} (h : 0 < n) : nI n - 1 = nI (n - 1) := by
  obtain ⟨k, rfl⟩ : ∃ k, n = k + 1 := ⟨n - 1, by omega⟩
  exact nI_pred k
theorem fFull_0 {R : Nat → Int32} {p : Nat} (hp : rPp R p) (h : p < 3) : fFull R = 0 := by
  unfold fFull
  rw [hp.2.1]
  exact if_pos ((nI_ltI (a := p) (b := 3) (by omega) (by omega)).mpr h)
theorem fFull_1 {R : Nat → Int32} {p : Nat} (hp : rPp R p) (h : ¬ p < 3) : ¬ fFull R = 0 := by
  have := hp.1
  unfold fFull
  rw [hp.2.1, if_neg (show ¬ nI p < 3 from fun q => h ((nI_ltI (a := p) (b := 3) (by omega) (by omega)).mp q))]
  decide
set_option maxHeartbeats 1000000 in
set_option maxRecDepth 100000 in
theorem k_doesPart (l : Launch) (D : va_G) (am : Nat → Nat) (cI cR cS cL : ClassId) (dg : Int64) (mem : zM) {cm : zM} (hok : zOK cm) (hS : zS cm (mem 1)) {k : Nat} (hrow : zRowJ (cm 105) k) (h12 : mem 0 12 = nI k) (h13 : mem 0 13 = cm 105 4) (h14 : ¬ cm 105 4 = 120 → mem 0 14 = cm 105 5) : zMi l yX6_doesPart wsX6_doesPart ({ frames := 6, cells := 0, slots := 0, locals := 144 }) D (cK cI cR cS cL) [.ref (am 0)] (mw am cI dg mem) (fun r u => r = (fPPj cm k).1 ∧ zFr mem u ∧ zS (fPPj cm k).2 (u 1)) (mw am cI dg) 0 0 := by
  refine zMiM.of (cc := cX6_doesPart) (maxL := 4) (ret := (some .boolean)) (by decide +kernel) rfl (lv0 := [(0, .ref (am 0))]) (Nat.le_of_ble_eq_true rfl) rfl ?_
  intro p e s m args below meth c E hZ hr hlocks hnm
  obtain ⟨hk, hr3, v, hr5, hkd⟩ := hrow
  obtain ⟨p0, hpp, hm⟩ := hS.1 k hk
  have hp3 := hpp.1
  have q6 : mem 1 (14 * k + 6) = nI p0 := hm.2.2.2.2.2.2.1
  have e7 : cm (3 * k) 7 = nI p0 := hpp.2.1
  rcases hkd with ⟨hw, v1, v2⟩ | ⟨hw, v1⟩ | ⟨hw, v1⟩ | hw
  · skip
    have i13 : mem 0 13 = 111 := h13.trans hw
    have i14 : mem 0 14 = nI v := (h14 (by rw [hw]; decide)).trans hr5
    refine z_aload_n E dX6_doesPart_0 rfl 0 rfl ?_
    refine z_get E 0 mw_obj (C := RX6) (T := TX6) (N := 16) rfl (fun _ h => List.mem_cons_of_mem _ (List.mem_append_right _ h)) 1 (by decide) (List.mem_of_getElem? (i := 1) (by decide +kernel)) rfl (v := .ref (am 1)) rfl dX6_doesPart_1 ?_
    refine z_aload_n E dX6_doesPart_4 rfl 0 rfl ?_
    refine z_get E 0 mw_obj (C := RX6) (T := TX6) (N := 16) rfl (fun _ h => List.mem_cons_of_mem _ (List.mem_append_right _ h)) 12 (by decide) (List.mem_of_getElem? (i := 2) (by decide +kernel)) rfl (v := .int (nI k)) (congrArg (fun z : Int32 => some (Value.int z)) h12) dX6_doesPart_5 ?_
    refine z_bipush (v := 6) E dX6_doesPart_8 (by decide) ?_
    refine z_callSi E hZ (k_of l D am cI cR cS cL dg mem (nI k) 6) gX6_doesPart_X6_of (n := 2) rfl rfl rfl (by decide +kernel) rfl ⟨Nat.le_of_ble_eq_true rfl, Nat.le_of_ble_eq_true rfl⟩ (As := [.int (nI k), .int 6]) (rest := [.ref (am 1)]) rfl (Nat.le_of_ble_eq_true rfl) ⟨Nat.le_of_ble_eq_true rfl, Nat.le_of_ble_eq_true rfl⟩ dX6_doesPart_10 (fun r u hp => ?_)
    rw [hp.1, hp.2]
    rw [zof k (y := 6) (w := 6) rfl]
    refine z_iald E 1 0 mw_s rfl (vp_in_nI (by omega) (by decide)) (v := nI p0) ((congrArg (mem 1) (nI_clamp (by omega))).trans q6) dX6_doesPart_13 ?_
    refine z_istore_n (lv' := [(1, .int (nI p0)), (0, .ref (am 0))]) E dX6_doesPart_14 rfl (by decide) rfl ?_
    refine z_aload_n E dX6_doesPart_15 rfl 1 rfl ?_
    refine z_get E 0 mw_obj (C := RX6) (T := TX6) (N := 16) rfl (fun _ h => List.mem_cons_of_mem _ (List.mem_append_right _ h)) 13 (by decide) (List.mem_of_getElem? (i := 3) (by decide +kernel)) rfl (v := .int 111) (congrArg (fun z : Int32 => some (Value.int z)) i13) dX6_doesPart_16 ?_
    refine z_bipush (v := 114) E dX6_doesPart_19 (by decide) ?_
    refine z_icmp_eq_f (tgt := 45) E dX6_doesPart_21 (by decide) (by decide) ?_
    refine z_aload_n E dX6_doesPart_24 rfl 1 rfl ?_
    refine z_get E 0 mw_obj (C := RX6) (T := TX6) (N := 16) rfl (fun _ h => List.mem_cons_of_mem _ (List.mem_append_right _ h)) 13 (by decide) (List.mem_of_getElem? (i := 3) (by decide +kernel)) rfl (v := .int 111) (congrArg (fun z : Int32 => some (Value.int z)) i13) dX6_doesPart_25 ?_
    refine z_bipush (v := 111) E dX6_doesPart_28 (by decide) ?_
    refine z_icmp_ne_f (tgt := 41) E dX6_doesPart_30 (by decide) (by decide) ?_
    refine z_iload_n E dX6_doesPart_33 rfl 0 rfl ?_
    refine z_iconst (v := 3) E dX6_doesPart_34 (by decide) ?_
    refine z_icmp_ge (tgt := 49) E dX6_doesPart_35 (by decide) (fun c35 => ?_) (fun c35 => ?_)
    · skip
      refine z_iconst (v := 0) E dX6_doesPart_49 (by decide) ?_
      refine z_istore_n (lv' := [(2, .int 0), (1, .int (nI p0)), (0, .ref (am 0))]) E dX6_doesPart_50 rfl (by decide) rfl ?_
      refine z_iconst (v := 0) E dX6_doesPart_51 (by decide) ?_
      refine z_istore_n (lv' := [(3, .int 0), (2, .int 0), (1, .int (nI p0)), (0, .ref (am 0))]) E dX6_doesPart_52 rfl (by decide) rfl ?_
      refine z_iload_n E dX6_doesPart_53 rfl 1 rfl ?_
      refine z_if_eq_t (tgt := 83) E dX6_doesPart_54 (by decide) (by decide) ?_
      refine z_iload_n E dX6_doesPart_83 rfl 1 rfl ?_
      refine z_if_eq_t (tgt := 112) E dX6_doesPart_84 (by decide) (by decide) ?_
      refine z_iload_n E dX6_doesPart_112 rfl 1 rfl ?_
      refine z_if_eq_t (tgt := 140) E dX6_doesPart_113 (by decide) (by decide) ?_
      refine z_iload_n E dX6_doesPart_140 rfl 1 rfl ?_
      refine z_if_eq_t (tgt := 178) E dX6_doesPart_141 (by decide) (by decide) ?_
      refine z_iload_n E dX6_doesPart_178 rfl 1 rfl ?_
      exact z_izretM E hr hlocks (mem) rfl rfl (by have hq : fPPj cm k = (0, cm) := (if_pos hw).trans (if_neg (fFull_1 hpp (fun q => by have := (nI_leI (a := 3) (b := p0) (by omega) (by omega)).mp c35; omega))); rw [hq]; exact ⟨rfl, zFr.refl mem, hS⟩) (Nat.le_of_ble_eq_true rfl) (Nat.le_of_ble_eq_true rfl) dX6_doesPart_179
    · skip
      refine z_goto (tgt := 45) E dX6_doesPart_38 (by decide) ?_
      refine z_iconst (v := 1) E dX6_doesPart_45 (by decide) ?_
      refine z_goto (tgt := 50) E dX6_doesPart_46 (by decide) ?_
      refine z_istore_n (lv' := [(2, .int 1), (1, .int (nI p0)), (0, .ref (am 0))]) E dX6_doesPart_50 rfl (by decide) rfl ?_
      refine z_iconst (v := 0) E dX6_doesPart_51 (by decide) ?_
      refine z_istore_n (lv' := [(3, .int 0), (2, .int 1), (1, .int (nI p0)), (0, .ref (am 0))]) E dX6_doesPart_52 rfl (by decide) rfl ?_
      refine z_iload_n E dX6_doesPart_53 rfl 1 rfl ?_
      refine z_if_eq_f (tgt := 83) E dX6_doesPart_54 (by decide) (by decide) ?_
      have hlt : p0 < 3 := Nat.lt_of_not_le (fun q => c35 ((nI_leI (a := 3) (b := p0) (by omega) (by omega)).mpr q))
      refine z_aload_n E dX6_doesPart_57 rfl 3 rfl ?_
      refine z_get E 0 mw_obj (C := RX6) (T := TX6) (N := 16) rfl (fun _ h => List.mem_cons_of_mem _ (List.mem_append_right _ h)) 13 (by decide) (List.mem_of_getElem? (i := 3) (by decide +kernel)) rfl (v := .int 111) (congrArg (fun z : Int32 => some (Value.int z)) i13) dX6_doesPart_58 ?_
      refine z_bipush (v := 117) E dX6_doesPart_61 (by decide) ?_
      refine z_icmp_ne_t (tgt := 83) E dX6_doesPart_63 (by decide) (by decide) ?_
      refine z_iload_n E dX6_doesPart_83 rfl 1 rfl ?_
      refine z_if_eq_f (tgt := 112) E dX6_doesPart_84 (by decide) (by decide) ?_
      refine z_aload_n E dX6_doesPart_87 rfl 3 rfl ?_
      refine z_get E 0 mw_obj (C := RX6) (T := TX6) (N := 16) rfl (fun _ h => List.mem_cons_of_mem _ (List.mem_append_right _ h)) 13 (by decide) (List.mem_of_getElem? (i := 3) (by decide +kernel)) rfl (v := .int 111) (congrArg (fun z : Int32 => some (Value.int z)) i13) dX6_doesPart_88 ?_
      refine z_bipush (v := 111) E dX6_doesPart_91 (by decide) ?_
      refine z_icmp_ne_f (tgt := 112) E dX6_doesPart_93 (by decide) (by decide) ?_
      refine z_aload_n E dX6_doesPart_96 rfl 3 rfl ?_
      refine z_aload_n E dX6_doesPart_97 rfl 3 rfl ?_
      refine z_get E 0 mw_obj (C := RX6) (T := TX6) (N := 16) rfl (fun _ h => List.mem_cons_of_mem _ (List.mem_append_right _ h)) 12 (by decide) (List.mem_of_getElem? (i := 2) (by decide +kernel)) rfl (v := .int (nI k)) (congrArg (fun z : Int32 => some (Value.int z)) h12) dX6_doesPart_98 ?_
      refine z_aload_n E dX6_doesPart_101 rfl 3 rfl ?_
      refine z_get E 0 mw_obj (C := RX6) (T := TX6) (N := 16) rfl (fun _ h => List.mem_cons_of_mem _ (List.mem_append_right _ h)) 14 (by decide) (List.mem_of_getElem? (i := 4) (by decide +kernel)) rfl (v := .int (nI v)) (congrArg (fun z : Int32 => some (Value.int z)) i14) dX6_doesPart_102 ?_
      refine z_callVi E hZ (k_comes l D am cI cR cS cL dg mem hok hS hk hpp hlt v1 v2) gX6_doesPart_X6_comes (n := 2) rfl rfl rfl (by decide +kernel) rfl ⟨(Nat.le_of_ble_eq_true rfl), (Nat.le_of_ble_eq_true rfl)⟩ (C := RX6) rfl 0 mw_obj (As := [.int (nI k), .int (nI v)]) (rest := []) rfl (Nat.le_of_ble_eq_true rfl) ⟨(Nat.le_of_ble_eq_true rfl), (Nat.le_of_ble_eq_true rfl)⟩ dX6_doesPart_105 (fun r m1 hp => ?_)
      have frm1 := hp.2.1
      have hSm1 := hp.2.2
      generalize hrr : r = rv0
      refine z_istore_n (lv' := [(3, .int rv0), (2, .int 1), (1, .int (nI p0)), (0, .ref (am 0))]) E dX6_doesPart_108 rfl (by decide) rfl ?_
      refine z_goto (tgt := 178) E dX6_doesPart_109 (by decide) ?_
      refine z_iload_n E dX6_doesPart_178 rfl 1 rfl ?_
      exact z_izretM E hr hlocks (m1) rfl rfl (by have hq : fPPj cm k = (1, sFN (sAdd cm k (nI v)) 0 k) := (if_pos hw).trans ((if_pos (fFull_0 hpp hlt)).trans (by rw [hr5])); rw [hq]; exact ⟨rfl, frm1, hSm1⟩) (Nat.le_of_ble_eq_true rfl) (Nat.le_of_ble_eq_true rfl) dX6_doesPart_179
  · skip
    have i13 : mem 0 13 = 114 := h13.trans hw
    have i14 : mem 0 14 = nI v := (h14 (by rw [hw]; decide)).trans hr5
    refine z_aload_n E dX6_doesPart_0 rfl 0 rfl ?_
    refine z_get E 0 mw_obj (C := RX6) (T := TX6) (N := 16) rfl (fun _ h => List.mem_cons_of_mem _ (List.mem_append_right _ h)) 1 (by decide) (List.mem_of_getElem? (i := 1) (by decide +kernel)) rfl (v := .ref (am 1)) rfl dX6_doesPart_1 ?_
    refine z_aload_n E dX6_doesPart_4 rfl 0 rfl ?_
    refine z_get E 0 mw_obj (C := RX6) (T := TX6) (N := 16) rfl (fun _ h => List.mem_cons_of_mem _ (List.mem_append_right _ h)) 12 (by decide) (List.mem_of_getElem? (i := 2) (by decide +kernel)) rfl (v := .int (nI k)) (congrArg (fun z : Int32 => some (Value.int z)) h12) dX6_doesPart_5 ?_
    refine z_bipush (v := 6) E dX6_doesPart_8 (by decide) ?_
    refine z_callSi E hZ (k_of l D am cI cR cS cL dg mem (nI k) 6) gX6_doesPart_X6_of (n := 2) rfl rfl rfl (by decide +kernel) rfl ⟨Nat.le_of_ble_eq_true rfl, Nat.le_of_ble_eq_true rfl⟩ (As := [.int (nI k), .int 6]) (rest := [.ref (am 1)]) rfl (Nat.le_of_ble_eq_true rfl) ⟨Nat.le_of_ble_eq_true rfl, Nat.le_of_ble_eq_true rfl⟩ dX6_doesPart_10 (fun r u hp => ?_)
    rw [hp.1, hp.2]
    rw [zof k (y := 6) (w := 6) rfl]
    refine z_iald E 1 0 mw_s rfl (vp_in_nI (by omega) (by decide)) (v := nI p0) ((congrArg (mem 1) (nI_clamp (by omega))).trans q6) dX6_doesPart_13 ?_
    refine z_istore_n (lv' := [(1, .int (nI p0)), (0, .ref (am 0))]) E dX6_doesPart_14 rfl (by decide) rfl ?_
    refine z_aload_n E dX6_doesPart_15 rfl 1 rfl ?_
    refine z_get E 0 mw_obj (C := RX6) (T := TX6) (N := 16) rfl (fun _ h => List.mem_cons_of_mem _ (List.mem_append_right _ h)) 13 (by decide) (List.mem_of_getElem? (i := 3) (by decide +kernel)) rfl (v := .int 114) (congrArg (fun z : Int32 => some (Value.int z)) i13) dX6_doesPart_16 ?_
    refine z_bipush (v := 114) E dX6_doesPart_19 (by decide) ?_
    refine z_icmp_eq_t (tgt := 45) E dX6_doesPart_21 (by decide) (by decide) ?_
    refine z_iconst (v := 1) E dX6_doesPart_45 (by decide) ?_
    refine z_goto (tgt := 50) E dX6_doesPart_46 (by decide) ?_
    refine z_istore_n (lv' := [(2, .int 1), (1, .int (nI p0)), (0, .ref (am 0))]) E dX6_doesPart_50 rfl (by decide) rfl ?_
    refine z_iconst (v := 0) E dX6_doesPart_51 (by decide) ?_
    refine z_istore_n (lv' := [(3, .int 0), (2, .int 1), (1, .int (nI p0)), (0, .ref (am 0))]) E dX6_doesPart_52 rfl (by decide) rfl ?_
    refine z_iload_n E dX6_doesPart_53 rfl 1 rfl ?_
    refine z_if_eq_f (tgt := 83) E dX6_doesPart_54 (by decide) (by decide) ?_
    refine z_aload_n E dX6_doesPart_57 rfl 3 rfl ?_
    refine z_get E 0 mw_obj (C := RX6) (T := TX6) (N := 16) rfl (fun _ h => List.mem_cons_of_mem _ (List.mem_append_right _ h)) 13 (by decide) (List.mem_of_getElem? (i := 3) (by decide +kernel)) rfl (v := .int 114) (congrArg (fun z : Int32 => some (Value.int z)) i13) dX6_doesPart_58 ?_
    refine z_bipush (v := 117) E dX6_doesPart_61 (by decide) ?_
    refine z_icmp_ne_t (tgt := 83) E dX6_doesPart_63 (by decide) (by decide) ?_
    refine z_iload_n E dX6_doesPart_83 rfl 1 rfl ?_
    refine z_if_eq_f (tgt := 112) E dX6_doesPart_84 (by decide) (by decide) ?_
    refine z_aload_n E dX6_doesPart_87 rfl 3 rfl ?_
    refine z_get E 0 mw_obj (C := RX6) (T := TX6) (N := 16) rfl (fun _ h => List.mem_cons_of_mem _ (List.mem_append_right _ h)) 13 (by decide) (List.mem_of_getElem? (i := 3) (by decide +kernel)) rfl (v := .int 114) (congrArg (fun z : Int32 => some (Value.int z)) i13) dX6_doesPart_88 ?_
    refine z_bipush (v := 111) E dX6_doesPart_91 (by decide) ?_
    refine z_icmp_ne_t (tgt := 112) E dX6_doesPart_93 (by decide) (by decide) ?_
    refine z_iload_n E dX6_doesPart_112 rfl 1 rfl ?_
    refine z_if_eq_f (tgt := 140) E dX6_doesPart_113 (by decide) (by decide) ?_
    refine z_aload_n E dX6_doesPart_116 rfl 3 rfl ?_
    refine z_get E 0 mw_obj (C := RX6) (T := TX6) (N := 16) rfl (fun _ h => List.mem_cons_of_mem _ (List.mem_append_right _ h)) 13 (by decide) (List.mem_of_getElem? (i := 3) (by decide +kernel)) rfl (v := .int 114) (congrArg (fun z : Int32 => some (Value.int z)) i13) dX6_doesPart_117 ?_
    refine z_bipush (v := 120) E dX6_doesPart_120 (by decide) ?_
    refine z_icmp_ne_t (tgt := 140) E dX6_doesPart_122 (by decide) (by decide) ?_
    refine z_iload_n E dX6_doesPart_140 rfl 1 rfl ?_
    refine z_if_eq_f (tgt := 178) E dX6_doesPart_141 (by decide) (by decide) ?_
    refine z_aload_n E dX6_doesPart_144 rfl 3 rfl ?_
    refine z_get E 0 mw_obj (C := RX6) (T := TX6) (N := 16) rfl (fun _ h => List.mem_cons_of_mem _ (List.mem_append_right _ h)) 1 (by decide) (List.mem_of_getElem? (i := 1) (by decide +kernel)) rfl (v := .ref (am 1)) rfl dX6_doesPart_145 ?_
    refine z_aload_n E dX6_doesPart_148 rfl 3 rfl ?_
    refine z_get E 0 mw_obj (C := RX6) (T := TX6) (N := 16) rfl (fun _ h => List.mem_cons_of_mem _ (List.mem_append_right _ h)) 12 (by decide) (List.mem_of_getElem? (i := 2) (by decide +kernel)) rfl (v := .int (nI k)) (congrArg (fun z : Int32 => some (Value.int z)) h12) dX6_doesPart_149 ?_
    refine z_iconst (v := 5) E dX6_doesPart_152 (by decide) ?_
    refine z_callSi E hZ (k_of l D am cI cR cS cL dg mem (nI k) 5) gX6_doesPart_X6_of (n := 2) rfl rfl rfl (by decide +kernel) rfl ⟨Nat.le_of_ble_eq_true rfl, Nat.le_of_ble_eq_true rfl⟩ (As := [.int (nI k), .int 5]) (rest := [.ref (am 1)]) rfl (Nat.le_of_ble_eq_true rfl) ⟨Nat.le_of_ble_eq_true rfl, Nat.le_of_ble_eq_true rfl⟩ dX6_doesPart_153 (fun r u hp => ?_)
    rw [hp.1, hp.2]
    rw [zof k (y := 5) (w := 5) rfl]
    refine z_aload_n E dX6_doesPart_156 rfl 3 rfl ?_
    refine z_get E 0 mw_obj (C := RX6) (T := TX6) (N := 16) rfl (fun _ h => List.mem_cons_of_mem _ (List.mem_append_right _ h)) 14 (by decide) (List.mem_of_getElem? (i := 4) (by decide +kernel)) rfl (v := .int (nI v)) (congrArg (fun z : Int32 => some (Value.int z)) i14) dX6_doesPart_157 ?_
    refine z_iast E 1 0 mw_s rfl (vp_in_nI (by omega) (by decide)) (ws' := mw am cI dg (mset mem 1 (14 * k + 5) (nI v))) (by rw [nI_clamp (by omega)]; exact (ms_s (14 * k + 5) (nI v))) dX6_doesPart_160 ?_
    refine z_gm2 (fun m2 hm2 => ?_)
    have xm2_0 : m2 0 12 = nI k := by rw [hm2, mset_ne _ _ _ (by omega)]; exact h12
    have xm2_1 : m2 0 13 = 114 := by rw [hm2, mset_ne _ _ _ (by omega)]; exact i13
    have xm2_2 : m2 1 (14 * k + 6) = nI p0 := by rw [hm2, mset_ne2 _ _ (by omega)]; exact q6
    have xm2_3 : m2 0 14 = nI v := by rw [hm2, mset_ne _ _ _ (by omega)]; exact i14
    refine z_aload_n E dX6_doesPart_161 rfl 3 rfl ?_
    refine z_aload_n E dX6_doesPart_162 rfl 3 rfl ?_
    refine z_get E 0 mw_obj (C := RX6) (T := TX6) (N := 16) rfl (fun _ h => List.mem_cons_of_mem _ (List.mem_append_right _ h)) 12 (by decide) (List.mem_of_getElem? (i := 2) (by decide +kernel)) rfl (v := .int (nI k)) (congrArg (fun z : Int32 => some (Value.int z)) xm2_0) dX6_doesPart_163 ?_
    have hS2 : zS (mset cm (3 * k) 5 (nI v)) (m2 1) := zS_fld hk (by omega) hS (by rw [hm2, mset_self])
    have hok2 : zOK (mset cm (3 * k) 5 (nI v)) := zOK_fld hok hk (by omega) (rFd_rope (hok k hk).1 v1)
    have fr0 : zFr mem m2 := by rw [hm2]; exact zFr_s _ _ _
    refine z_callVi E hZ (k_mfalls l D am cI cR cS cL dg m2 hok2 hS2 hk) gX6_doesPart_X6_falls (n := 1) rfl rfl rfl (by decide +kernel) rfl ⟨(Nat.le_of_ble_eq_true rfl), (Nat.le_of_ble_eq_true rfl)⟩ (C := RX6) rfl 0 mw_obj (As := [.int (nI k)]) (rest := []) rfl (Nat.le_of_ble_eq_true rfl) ⟨(Nat.le_of_ble_eq_true rfl), (Nat.le_of_ble_eq_true rfl)⟩ dX6_doesPart_166 (fun r m3 hp => ?_)
    have frm3 := hp.2.1
    have hSm3 := hp.2.2
    generalize hrr : r = rv0
    refine z_if_eq (tgt := 176) E dX6_doesPart_169 (by decide) (fun c169 => ?_) (fun c169 => ?_)
    · skip
      refine z_iconst (v := 0) E dX6_doesPart_176 (by decide) ?_
      refine z_istore_n (lv' := [(3, .int 0), (2, .int 1), (1, .int (nI p0)), (0, .ref (am 0))]) E dX6_doesPart_177 rfl (by decide) rfl ?_
      refine z_iload_n E dX6_doesPart_178 rfl 1 rfl ?_
      exact z_izretM E hr hlocks (m3) rfl rfl (by have hq : fPPj cm k = (1, sFN (mset cm (3 * k) 5 (nI v)) 0 k) := ((if_neg (by rw [hw]; decide)).trans (if_pos hw)).trans (by rw [hr5]); rw [hq]; exact ⟨rfl, fr0.trans frm3, hSm3⟩) (Nat.le_of_ble_eq_true rfl) (Nat.le_of_ble_eq_true rfl) dX6_doesPart_179
    · skip
      refine z_iconst (v := 1) E dX6_doesPart_172 (by decide) ?_
      refine z_goto (tgt := 177) E dX6_doesPart_173 (by decide) ?_
      refine z_istore_n (lv' := [(3, .int 1), (2, .int 1), (1, .int (nI p0)), (0, .ref (am 0))]) E dX6_doesPart_177 rfl (by decide) rfl ?_
      refine z_iload_n E dX6_doesPart_178 rfl 1 rfl ?_
      exact z_izretM E hr hlocks (m3) rfl rfl (by have hq : fPPj cm k = (1, sFN (mset cm (3 * k) 5 (nI v)) 0 k) := ((if_neg (by rw [hw]; decide)).trans (if_pos hw)).trans (by rw [hr5]); rw [hq]; exact ⟨rfl, fr0.trans frm3, hSm3⟩) (Nat.le_of_ble_eq_true rfl) (Nat.le_of_ble_eq_true rfl) dX6_doesPart_179
  · skip
    have i13 : mem 0 13 = 117 := h13.trans hw
    have i14 : mem 0 14 = nI v := (h14 (by rw [hw]; decide)).trans hr5
    refine z_aload_n E dX6_doesPart_0 rfl 0 rfl ?_
    refine z_get E 0 mw_obj (C := RX6) (T := TX6) (N := 16) rfl (fun _ h => List.mem_cons_of_mem _ (List.mem_append_right _ h)) 1 (by decide) (List.mem_of_getElem? (i := 1) (by decide +kernel)) rfl (v := .ref (am 1)) rfl dX6_doesPart_1 ?_
    refine z_aload_n E dX6_doesPart_4 rfl 0 rfl ?_
    refine z_get E 0 mw_obj (C := RX6) (T := TX6) (N := 16) rfl (fun _ h => List.mem_cons_of_mem _ (List.mem_append_right _ h)) 12 (by decide) (List.mem_of_getElem? (i := 2) (by decide +kernel)) rfl (v := .int (nI k)) (congrArg (fun z : Int32 => some (Value.int z)) h12) dX6_doesPart_5 ?_
    refine z_bipush (v := 6) E dX6_doesPart_8 (by decide) ?_
    refine z_callSi E hZ (k_of l D am cI cR cS cL dg mem (nI k) 6) gX6_doesPart_X6_of (n := 2) rfl rfl rfl (by decide +kernel) rfl ⟨Nat.le_of_ble_eq_true rfl, Nat.le_of_ble_eq_true rfl⟩ (As := [.int (nI k), .int 6]) (rest := [.ref (am 1)]) rfl (Nat.le_of_ble_eq_true rfl) ⟨Nat.le_of_ble_eq_true rfl, Nat.le_of_ble_eq_true rfl⟩ dX6_doesPart_10 (fun r u hp => ?_)
    rw [hp.1, hp.2]
    rw [zof k (y := 6) (w := 6) rfl]
    refine z_iald E 1 0 mw_s rfl (vp_in_nI (by omega) (by decide)) (v := nI p0) ((congrArg (mem 1) (nI_clamp (by omega))).trans q6) dX6_doesPart_13 ?_
    refine z_istore_n (lv' := [(1, .int (nI p0)), (0, .ref (am 0))]) E dX6_doesPart_14 rfl (by decide) rfl ?_
    refine z_aload_n E dX6_doesPart_15 rfl 1 rfl ?_
    refine z_get E 0 mw_obj (C := RX6) (T := TX6) (N := 16) rfl (fun _ h => List.mem_cons_of_mem _ (List.mem_append_right _ h)) 13 (by decide) (List.mem_of_getElem? (i := 3) (by decide +kernel)) rfl (v := .int 117) (congrArg (fun z : Int32 => some (Value.int z)) i13) dX6_doesPart_16 ?_
    refine z_bipush (v := 114) E dX6_doesPart_19 (by decide) ?_
    refine z_icmp_eq_f (tgt := 45) E dX6_doesPart_21 (by decide) (by decide) ?_
    refine z_aload_n E dX6_doesPart_24 rfl 1 rfl ?_
    refine z_get E 0 mw_obj (C := RX6) (T := TX6) (N := 16) rfl (fun _ h => List.mem_cons_of_mem _ (List.mem_append_right _ h)) 13 (by decide) (List.mem_of_getElem? (i := 3) (by decide +kernel)) rfl (v := .int 117) (congrArg (fun z : Int32 => some (Value.int z)) i13) dX6_doesPart_25 ?_
    refine z_bipush (v := 111) E dX6_doesPart_28 (by decide) ?_
    refine z_icmp_ne_t (tgt := 41) E dX6_doesPart_30 (by decide) (by decide) ?_
    refine z_iload_n E dX6_doesPart_41 rfl 0 rfl ?_
    refine z_if_le (tgt := 49) E dX6_doesPart_42 (by decide) (fun c42 => ?_) (fun c42 => ?_)
    · skip
      refine z_iconst (v := 0) E dX6_doesPart_49 (by decide) ?_
      refine z_istore_n (lv' := [(2, .int 0), (1, .int (nI p0)), (0, .ref (am 0))]) E dX6_doesPart_50 rfl (by decide) rfl ?_
      refine z_iconst (v := 0) E dX6_doesPart_51 (by decide) ?_
      refine z_istore_n (lv' := [(3, .int 0), (2, .int 0), (1, .int (nI p0)), (0, .ref (am 0))]) E dX6_doesPart_52 rfl (by decide) rfl ?_
      refine z_iload_n E dX6_doesPart_53 rfl 1 rfl ?_
      refine z_if_eq_t (tgt := 83) E dX6_doesPart_54 (by decide) (by decide) ?_
      refine z_iload_n E dX6_doesPart_83 rfl 1 rfl ?_
      refine z_if_eq_t (tgt := 112) E dX6_doesPart_84 (by decide) (by decide) ?_
      refine z_iload_n E dX6_doesPart_112 rfl 1 rfl ?_
      refine z_if_eq_t (tgt := 140) E dX6_doesPart_113 (by decide) (by decide) ?_
      refine z_iload_n E dX6_doesPart_140 rfl 1 rfl ?_
      refine z_if_eq_t (tgt := 178) E dX6_doesPart_141 (by decide) (by decide) ?_
      refine z_iload_n E dX6_doesPart_178 rfl 1 rfl ?_
      exact z_izretM E hr hlocks (mem) rfl rfl (by have hq : fPPj cm k = (0, cm) := ((if_neg (by rw [hw]; decide)).trans ((if_neg (by rw [hw]; decide)).trans (if_pos hw))).trans (if_pos (by rw [e7]; have : p0 = 0 := by { have := (nI_leI (a := p0) (b := 0) (by omega) (by omega)).mp c42; omega }; rw [this]; rfl)); rw [hq]; exact ⟨rfl, zFr.refl mem, hS⟩) (Nat.le_of_ble_eq_true rfl) (Nat.le_of_ble_eq_true rfl) dX6_doesPart_179
    · skip
      refine z_iconst (v := 1) E dX6_doesPart_45 (by decide) ?_
      refine z_goto (tgt := 50) E dX6_doesPart_46 (by decide) ?_
      refine z_istore_n (lv' := [(2, .int 1), (1, .int (nI p0)), (0, .ref (am 0))]) E dX6_doesPart_50 rfl (by decide) rfl ?_
      refine z_iconst (v := 0) E dX6_doesPart_51 (by decide) ?_
      refine z_istore_n (lv' := [(3, .int 0), (2, .int 1), (1, .int (nI p0)), (0, .ref (am 0))]) E dX6_doesPart_52 rfl (by decide) rfl ?_
      refine z_iload_n E dX6_doesPart_53 rfl 1 rfl ?_
      refine z_if_eq_f (tgt := 83) E dX6_doesPart_54 (by decide) (by decide) ?_
      have h0 : 0 < p0 := Nat.pos_of_ne_zero (fun q => c42 (by rw [q]; decide))
      obtain ⟨a0, ha, hcur⟩ := hok.hA k hk 0 (by omega)
      refine z_aload_n E dX6_doesPart_57 rfl 3 rfl ?_
      refine z_get E 0 mw_obj (C := RX6) (T := TX6) (N := 16) rfl (fun _ h => List.mem_cons_of_mem _ (List.mem_append_right _ h)) 13 (by decide) (List.mem_of_getElem? (i := 3) (by decide +kernel)) rfl (v := .int 117) (congrArg (fun z : Int32 => some (Value.int z)) i13) dX6_doesPart_58 ?_
      refine z_bipush (v := 117) E dX6_doesPart_61 (by decide) ?_
      refine z_icmp_ne_f (tgt := 83) E dX6_doesPart_63 (by decide) (by decide) ?_
      refine z_aload_n E dX6_doesPart_66 rfl 3 rfl ?_
      refine z_aload_n E dX6_doesPart_67 rfl 3 rfl ?_
      refine z_get E 0 mw_obj (C := RX6) (T := TX6) (N := 16) rfl (fun _ h => List.mem_cons_of_mem _ (List.mem_append_right _ h)) 12 (by decide) (List.mem_of_getElem? (i := 2) (by decide +kernel)) rfl (v := .int (nI k)) (congrArg (fun z : Int32 => some (Value.int z)) h12) dX6_doesPart_68 ?_
      refine z_iconst (v := 0) E dX6_doesPart_71 (by decide) ?_
      refine z_aload_n E dX6_doesPart_72 rfl 3 rfl ?_
      refine z_get E 0 mw_obj (C := RX6) (T := TX6) (N := 16) rfl (fun _ h => List.mem_cons_of_mem _ (List.mem_append_right _ h)) 14 (by decide) (List.mem_of_getElem? (i := 4) (by decide +kernel)) rfl (v := .int (nI v)) (congrArg (fun z : Int32 => some (Value.int z)) i14) dX6_doesPart_73 ?_
      refine z_callVi E hZ (k_climbs l D am cI cR cS cL dg mem hok hS hk hpp (t := 0) h0 (a := a0) (b := v) ha v1 hcur) gX6_doesPart_X6_climbs (n := 3) rfl rfl rfl (by decide +kernel) rfl ⟨(Nat.le_of_ble_eq_true rfl), (Nat.le_of_ble_eq_true rfl)⟩ (C := RX6) rfl 0 mw_obj (As := [.int (nI k), .int (0), .int (nI v)]) (rest := []) rfl (Nat.le_of_ble_eq_true rfl) ⟨(Nat.le_of_ble_eq_true rfl), (Nat.le_of_ble_eq_true rfl)⟩ dX6_doesPart_76 (fun r m4 hp => ?_)
      have frm4 := hp.2.1
      have hSm4 := hp.2.2
      generalize hrr : r = rv0
      refine z_istore_n (lv' := [(3, .int rv0), (2, .int 1), (1, .int (nI p0)), (0, .ref (am 0))]) E dX6_doesPart_79 rfl (by decide) rfl ?_
      refine z_goto (tgt := 178) E dX6_doesPart_80 (by decide) ?_
      refine z_iload_n E dX6_doesPart_178 rfl 1 rfl ?_
      exact z_izretM E hr hlocks (m4) rfl rfl (by have hq : fPPj cm k = (1, (sWalk cm k 0 v a0).2) := ((if_neg (by rw [hw]; decide)).trans ((if_neg (by rw [hw]; decide)).trans (if_pos hw))).trans ((if_neg (by rw [e7]; exact nI_ne0 h0 (by omega))).trans (by rw [hr5, hcur, nI_clamp (by omega), nI_clamp (by omega)])); rw [hq]; exact ⟨rfl, frm4, hSm4⟩) (Nat.le_of_ble_eq_true rfl) (Nat.le_of_ble_eq_true rfl) dX6_doesPart_179
  · skip
    have i13 : mem 0 13 = 120 := h13.trans hw
    refine z_aload_n E dX6_doesPart_0 rfl 0 rfl ?_
    refine z_get E 0 mw_obj (C := RX6) (T := TX6) (N := 16) rfl (fun _ h => List.mem_cons_of_mem _ (List.mem_append_right _ h)) 1 (by decide) (List.mem_of_getElem? (i := 1) (by decide +kernel)) rfl (v := .ref (am 1)) rfl dX6_doesPart_1 ?_
    refine z_aload_n E dX6_doesPart_4 rfl 0 rfl ?_
    refine z_get E 0 mw_obj (C := RX6) (T := TX6) (N := 16) rfl (fun _ h => List.mem_cons_of_mem _ (List.mem_append_right _ h)) 12 (by decide) (List.mem_of_getElem? (i := 2) (by decide +kernel)) rfl (v := .int (nI k)) (congrArg (fun z : Int32 => some (Value.int z)) h12) dX6_doesPart_5 ?_
    refine z_bipush (v := 6) E dX6_doesPart_8 (by decide) ?_
    refine z_callSi E hZ (k_of l D am cI cR cS cL dg mem (nI k) 6) gX6_doesPart_X6_of (n := 2) rfl rfl rfl (by decide +kernel) rfl ⟨Nat.le_of_ble_eq_true rfl, Nat.le_of_ble_eq_true rfl⟩ (As := [.int (nI k), .int 6]) (rest := [.ref (am 1)]) rfl (Nat.le_of_ble_eq_true rfl) ⟨Nat.le_of_ble_eq_true rfl, Nat.le_of_ble_eq_true rfl⟩ dX6_doesPart_10 (fun r u hp => ?_)
    rw [hp.1, hp.2]
    rw [zof k (y := 6) (w := 6) rfl]
    refine z_iald E 1 0 mw_s rfl (vp_in_nI (by omega) (by decide)) (v := nI p0) ((congrArg (mem 1) (nI_clamp (by omega))).trans q6) dX6_doesPart_13 ?_
    refine z_istore_n (lv' := [(1, .int (nI p0)), (0, .ref (am 0))]) E dX6_doesPart_14 rfl (by decide) rfl ?_
    refine z_aload_n E dX6_doesPart_15 rfl 1 rfl ?_
    refine z_get E 0 mw_obj (C := RX6) (T := TX6) (N := 16) rfl (fun _ h => List.mem_cons_of_mem _ (List.mem_append_right _ h)) 13 (by decide) (List.mem_of_getElem? (i := 3) (by decide +kernel)) rfl (v := .int 120) (congrArg (fun z : Int32 => some (Value.int z)) i13) dX6_doesPart_16 ?_
    refine z_bipush (v := 114) E dX6_doesPart_19 (by decide) ?_
    refine z_icmp_eq_f (tgt := 45) E dX6_doesPart_21 (by decide) (by decide) ?_
    refine z_aload_n E dX6_doesPart_24 rfl 1 rfl ?_
    refine z_get E 0 mw_obj (C := RX6) (T := TX6) (N := 16) rfl (fun _ h => List.mem_cons_of_mem _ (List.mem_append_right _ h)) 13 (by decide) (List.mem_of_getElem? (i := 3) (by decide +kernel)) rfl (v := .int 120) (congrArg (fun z : Int32 => some (Value.int z)) i13) dX6_doesPart_25 ?_
    refine z_bipush (v := 111) E dX6_doesPart_28 (by decide) ?_
    refine z_icmp_ne_t (tgt := 41) E dX6_doesPart_30 (by decide) (by decide) ?_
    refine z_iload_n E dX6_doesPart_41 rfl 0 rfl ?_
    refine z_if_le (tgt := 49) E dX6_doesPart_42 (by decide) (fun c42 => ?_) (fun c42 => ?_)
    · skip
      refine z_iconst (v := 0) E dX6_doesPart_49 (by decide) ?_
      refine z_istore_n (lv' := [(2, .int 0), (1, .int (nI p0)), (0, .ref (am 0))]) E dX6_doesPart_50 rfl (by decide) rfl ?_
      refine z_iconst (v := 0) E dX6_doesPart_51 (by decide) ?_
      refine z_istore_n (lv' := [(3, .int 0), (2, .int 0), (1, .int (nI p0)), (0, .ref (am 0))]) E dX6_doesPart_52 rfl (by decide) rfl ?_
      refine z_iload_n E dX6_doesPart_53 rfl 1 rfl ?_
      refine z_if_eq_t (tgt := 83) E dX6_doesPart_54 (by decide) (by decide) ?_
      refine z_iload_n E dX6_doesPart_83 rfl 1 rfl ?_
      refine z_if_eq_t (tgt := 112) E dX6_doesPart_84 (by decide) (by decide) ?_
      refine z_iload_n E dX6_doesPart_112 rfl 1 rfl ?_
      refine z_if_eq_t (tgt := 140) E dX6_doesPart_113 (by decide) (by decide) ?_
      refine z_iload_n E dX6_doesPart_140 rfl 1 rfl ?_
      refine z_if_eq_t (tgt := 178) E dX6_doesPart_141 (by decide) (by decide) ?_
      refine z_iload_n E dX6_doesPart_178 rfl 1 rfl ?_
      exact z_izretM E hr hlocks (mem) rfl rfl (by have hq : fPPj cm k = (0, cm) := ((if_neg (by rw [hw]; decide)).trans ((if_neg (by rw [hw]; decide)).trans (if_neg (by rw [hw]; decide)))).trans (if_pos (by rw [e7]; have : p0 = 0 := by { have := (nI_leI (a := p0) (b := 0) (by omega) (by omega)).mp c42; omega }; rw [this]; rfl)); rw [hq]; exact ⟨rfl, zFr.refl mem, hS⟩) (Nat.le_of_ble_eq_true rfl) (Nat.le_of_ble_eq_true rfl) dX6_doesPart_179
    · skip
      refine z_iconst (v := 1) E dX6_doesPart_45 (by decide) ?_
      refine z_goto (tgt := 50) E dX6_doesPart_46 (by decide) ?_
      refine z_istore_n (lv' := [(2, .int 1), (1, .int (nI p0)), (0, .ref (am 0))]) E dX6_doesPart_50 rfl (by decide) rfl ?_
      refine z_iconst (v := 0) E dX6_doesPart_51 (by decide) ?_
      refine z_istore_n (lv' := [(3, .int 0), (2, .int 1), (1, .int (nI p0)), (0, .ref (am 0))]) E dX6_doesPart_52 rfl (by decide) rfl ?_
      refine z_iload_n E dX6_doesPart_53 rfl 1 rfl ?_
      refine z_if_eq_f (tgt := 83) E dX6_doesPart_54 (by decide) (by decide) ?_
      have h0 : 0 < p0 := Nat.pos_of_ne_zero (fun q => c42 (by rw [q]; decide))
      refine z_aload_n E dX6_doesPart_57 rfl 3 rfl ?_
      refine z_get E 0 mw_obj (C := RX6) (T := TX6) (N := 16) rfl (fun _ h => List.mem_cons_of_mem _ (List.mem_append_right _ h)) 13 (by decide) (List.mem_of_getElem? (i := 3) (by decide +kernel)) rfl (v := .int 120) (congrArg (fun z : Int32 => some (Value.int z)) i13) dX6_doesPart_58 ?_
      refine z_bipush (v := 117) E dX6_doesPart_61 (by decide) ?_
      refine z_icmp_ne_t (tgt := 83) E dX6_doesPart_63 (by decide) (by decide) ?_
      refine z_iload_n E dX6_doesPart_83 rfl 1 rfl ?_
      refine z_if_eq_f (tgt := 112) E dX6_doesPart_84 (by decide) (by decide) ?_
      refine z_aload_n E dX6_doesPart_87 rfl 3 rfl ?_
      refine z_get E 0 mw_obj (C := RX6) (T := TX6) (N := 16) rfl (fun _ h => List.mem_cons_of_mem _ (List.mem_append_right _ h)) 13 (by decide) (List.mem_of_getElem? (i := 3) (by decide +kernel)) rfl (v := .int 120) (congrArg (fun z : Int32 => some (Value.int z)) i13) dX6_doesPart_88 ?_
      refine z_bipush (v := 111) E dX6_doesPart_91 (by decide) ?_
      refine z_icmp_ne_t (tgt := 112) E dX6_doesPart_93 (by decide) (by decide) ?_
      refine z_iload_n E dX6_doesPart_112 rfl 1 rfl ?_
      refine z_if_eq_f (tgt := 140) E dX6_doesPart_113 (by decide) (by decide) ?_
      refine z_aload_n E dX6_doesPart_116 rfl 3 rfl ?_
      refine z_get E 0 mw_obj (C := RX6) (T := TX6) (N := 16) rfl (fun _ h => List.mem_cons_of_mem _ (List.mem_append_right _ h)) 13 (by decide) (List.mem_of_getElem? (i := 3) (by decide +kernel)) rfl (v := .int 120) (congrArg (fun z : Int32 => some (Value.int z)) i13) dX6_doesPart_117 ?_
      refine z_bipush (v := 120) E dX6_doesPart_120 (by decide) ?_
      refine z_icmp_ne_f (tgt := 140) E dX6_doesPart_122 (by decide) (by decide) ?_
      refine z_aload_n E dX6_doesPart_125 rfl 3 rfl ?_
      refine z_aload_n E dX6_doesPart_126 rfl 3 rfl ?_
      refine z_get E 0 mw_obj (C := RX6) (T := TX6) (N := 16) rfl (fun _ h => List.mem_cons_of_mem _ (List.mem_append_right _ h)) 12 (by decide) (List.mem_of_getElem? (i := 2) (by decide +kernel)) rfl (v := .int (nI k)) (congrArg (fun z : Int32 => some (Value.int z)) h12) dX6_doesPart_127 ?_
      refine z_iload_n E dX6_doesPart_130 rfl 2 rfl ?_
      refine z_iconst (v := 1) E dX6_doesPart_131 (by decide) ?_
      refine z_isub E dX6_doesPart_132 ?_
      refine z_eq (ws' := mw am cI dg mem) (lv' := [(3, .int 0), (2, .int 1), (1, .int (nI p0)), (0, .ref (am 0))]) (st' := [.int (nI (p0 - 1)), .int (nI k), .ref (am 0)]) rfl rfl (by rw [nI_sub1 (by omega)]) ?_
      refine z_callVi E hZ (k_goes l D am cI cR cS cL dg mem hok hS hk hpp (t := p0 - 1) (by omega)) gX6_doesPart_X6_goes (n := 2) rfl rfl rfl (by decide +kernel) rfl ⟨(Nat.le_of_ble_eq_true rfl), (Nat.le_of_ble_eq_true rfl)⟩ (C := RX6) rfl 0 mw_obj (As := [.int (nI k), .int (nI (p0 - 1))]) (rest := []) rfl (Nat.le_of_ble_eq_true rfl) ⟨(Nat.le_of_ble_eq_true rfl), (Nat.le_of_ble_eq_true rfl)⟩ dX6_doesPart_133 (fun r m5 hp => ?_)
      have frm5 := hp.2.1
      have hSm5 := hp.2.2
      generalize hrr : r = rv0
      refine z_istore_n (lv' := [(3, .int rv0), (2, .int 1), (1, .int (nI p0)), (0, .ref (am 0))]) E dX6_doesPart_136 rfl (by decide) rfl ?_
      refine z_goto (tgt := 178) E dX6_doesPart_137 (by decide) ?_
      refine z_iload_n E dX6_doesPart_178 rfl 1 rfl ?_
      exact z_izretM E hr hlocks (m5) rfl rfl (by have hq : fPPj cm k = (1, sFN (sRemove cm k (nI (p0 - 1))) 0 k) := ((if_neg (by rw [hw]; decide)).trans ((if_neg (by rw [hw]; decide)).trans (if_neg (by rw [hw]; decide)))).trans ((if_neg (by rw [e7]; exact nI_ne0 h0 (by omega))).trans (by rw [e7, nI_sub1 h0])); rw [hq]; exact ⟨rfl, frm5, hSm5⟩) (Nat.le_of_ble_eq_true rfl) (Nat.le_of_ble_eq_true rfl) dX6_doesPart_179
